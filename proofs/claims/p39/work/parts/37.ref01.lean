set_option maxHeartbeats 4000000 in
set_option maxRecDepth 100000 in
theorem C_Mm_chargeE (g : zG) (m mp mf mh mn mt mz mc_ mq mgr ml mi mr mm mu mk mx : Nat) (th pt cl wa co_ fi bu ho lh mg wd fpi fal : Int32) (po de : Int64) (k m1 : Int32) (hw : ¬ (0 ≤ z_ix 1 k ∧ (1 ≤ m1 ∧ m1 ≤ 1000))) : CT g M_Mm_charge [.ref m, .int k, .int m1] [(m, .inr (12, [.int th, .ref mp, .int pt, .ref mf, .ref mh, .ref mn, .ref mt, .ref mz, .ref mc_, .ref mq, .ref mgr, .int cl, .int wa, .int co_, .int fi, .int bu, .int ho, .ref ml, .ref mi, .ref mr, .int lh, .int mg, .int wd, .int fpi, .int fal, .ref mm, .ref mu, .ref mk, .ref mx, .long po, .long de]))] (fun o cs1 => o = .inl (some (.int 0)) ∧ cs1 = [(m, .inr (12, [.int 1, .ref mp, .int pt, .ref mf, .ref mh, .ref mn, .ref mt, .ref mz, .ref mc_, .ref mq, .ref mgr, .int cl, .int wa, .int co_, .int fi, .int bu, .int ho, .ref ml, .ref mi, .ref mr, .int lh, .int mg, .int wd, .int fpi, .int fal, .ref mm, .ref mu, .ref mk, .ref mx, .long po, .long de]))]) 0 0 := by
  refine z_of (by decide) rfl (Nat.le_of_ble_eq_true rfl) (fun w0 => ?_)
  refine r_lvE (lv2 := [(0, .ref m), (1, .int k), (2, .int m1)]) rfl ?_
  refine r_aload_n d_Mm_charge_0 rfl 0 rfl ?_
  refine r_iconst d_Mm_charge_1 (v := 0) (by decide) ?_
  refine r_put fp_Mm_84 d_Mm_charge_2 (fun h => nomatch h) rfl rfl (q0 := 0) rfl (Nat.le_of_ble_eq_true rfl) (cs' := [(m, .inr (12, [.int 0, .ref mp, .int pt, .ref mf, .ref mh, .ref mn, .ref mt, .ref mz, .ref mc_, .ref mq, .ref mgr, .int cl, .int wa, .int co_, .int fi, .int bu, .int ho, .ref ml, .ref mi, .ref mr, .int lh, .int mg, .int wd, .int fpi, .int fal, .ref mm, .ref mu, .ref mk, .ref mx, .long po, .long de]))]) rfl ?_
  refine r_iload_n d_Mm_charge_5 rfl 1 rfl ?_
  refine r_bipush d_Mm_charge_6 (v := 103) (by decide) ?_
  refine r_icmp_ne (tgt := 15) d_Mm_charge_8 (by decide) (fun c_8 => ?_) (fun c_8 => ?_)
  · refine r_iload_n d_Mm_charge_15 rfl 1 rfl ?_
    refine r_bipush d_Mm_charge_16 (v := 100) (by decide) ?_
    refine r_icmp_ne (tgt := 25) d_Mm_charge_18 (by decide) (fun c_18 => ?_) (fun c_18 => ?_)
    · refine r_iconst d_Mm_charge_25 (v := (-1)) (by decide) ?_
      refine r_istore_n (lv' := [(3, .int (-1)), (0, .ref m), (1, .int k), (2, .int m1)]) d_Mm_charge_26 rfl (by decide) rfl ?_
      refine r_aload_n d_Mm_charge_27 rfl 1 rfl ?_
      refine r_ldcS (own := "IronpourModel") (i := 1) (by decide) d_Mm_charge_28 ?_
      refine r_iload_n d_Mm_charge_30 rfl 2 rfl ?_
      refine r_callVS (As := [.int k]) (rest := [.ref m]) (csC := []) (is := []) (i := 1) (by first | assumption | decide) rfl ln_Mm_97 w_im_String_indexOf_0 w_se_String_indexOf_0 ok_Mm_charge_String_indexOf_0 d_Mm_charge_31 (C_St_indexOf g 1 (by decide) k) rfl rfl (Nat.le_of_ble_eq_true rfl) rfl (by decide) (by omega) (by omega) (fun E cs1 hx => ?_) (fun v cs1 hx => ?_)
      · exact absurd hx.1 (by simp)
      · obtain ⟨e1, rfl⟩ := hx
        cases e1
        refine ⟨rfl, ?_⟩
        refine r_st (st2 := [.int (z_ix 1 k), .ref m]) rfl ?_
        refine r_cs (cs2 := [(m, .inr (12, [.int 0, .ref mp, .int pt, .ref mf, .ref mh, .ref mn, .ref mt, .ref mz, .ref mc_, .ref mq, .ref mgr, .int cl, .int wa, .int co_, .int fi, .int bu, .int ho, .ref ml, .ref mi, .ref mr, .int lh, .int mg, .int wd, .int fpi, .int fal, .ref mm, .ref mu, .ref mk, .ref mx, .long po, .long de]))]) rfl ?_
        refine r_if_lt (tgt := 48) d_Mm_charge_34 (by decide) (fun c_34 => ?_) (fun c_34 => ?_)
        · refine r_iconst d_Mm_charge_48 (v := 1) (by decide) ?_
          refine r_goto (tgt := 53) d_Mm_charge_49 (by decide) ?_
          refine r_iconst d_Mm_charge_53 (v := 1) (by decide) ?_
          refine r_callV (As := [.int 1, .int 1]) (rest := []) (csC := [(m, .inr (12, [.int 0, .ref mp, .int pt, .ref mf, .ref mh, .ref mn, .ref mt, .ref mz, .ref mc_, .ref mq, .ref mgr, .int cl, .int wa, .int co_, .int fi, .int bu, .int ho, .ref ml, .ref mi, .ref mr, .int lh, .int mg, .int wd, .int fpi, .int fal, .ref mm, .ref mu, .ref mk, .ref mx, .long po, .long de]))]) (is := [0]) (q0 := 0) rfl rfl ln_Mm_103 w_im_Mm_fails w_se_Mm_fails ok_Mm_charge_Mm_fails d_Mm_charge_54 (C_Mm_fails1 g m mp mf mh mn mt mz mc_ mq mgr ml mi mr mm mu mk mx th pt cl wa co_ fi bu ho lh mg wd fpi fal po de) rfl rfl (Nat.le_of_ble_eq_true rfl) rfl (by decide) (by omega) (by omega) (fun E cs1 hx => ?_) (fun v cs1 hx => ?_)
          · exact absurd hx.1 (by simp)
          · obtain ⟨e1, rfl⟩ := hx
            cases e1
            refine ⟨rfl, ?_⟩
            refine r_st (st2 := [.int 1]) rfl ?_
            refine r_cs (cs2 := [(m, .inr (12, [.int 1, .ref mp, .int pt, .ref mf, .ref mh, .ref mn, .ref mt, .ref mz, .ref mc_, .ref mq, .ref mgr, .int cl, .int wa, .int co_, .int fi, .int bu, .int ho, .ref ml, .ref mi, .ref mr, .int lh, .int mg, .int wd, .int fpi, .int fal, .ref mm, .ref mu, .ref mk, .ref mx, .long po, .long de]))]) rfl ?_
            refine r_if_ne (tgt := 88) d_Mm_charge_57 (by decide) (fun c_57 => ?_) (fun c_57 => ?_)
            · refine r_iconst d_Mm_charge_88 (v := 0) (by decide) ?_
              refine r_iret d_Mm_charge_89 rfl rfl ?_
              exact ⟨rfl, rfl⟩
            · exact absurd c_57 (by decide)
        · refine r_iload_n d_Mm_charge_37 rfl 3 rfl ?_
          refine r_iconst d_Mm_charge_38 (v := 1) (by decide) ?_
          refine r_sipush d_Mm_charge_39 (v := 1000) (by decide) ?_
          refine r_callS (As := [.int m1, .int 1, .int 1000]) (rest := [.ref m]) (csC := []) (is := []) ln_Mm_87 w_st_Mm_in ok_Mm_charge_Mm_in d_Mm_charge_42 (C_Mm_in g m1 1 1000) rfl rfl (Nat.le_of_ble_eq_true rfl) rfl (by decide) (by omega) (by omega) (fun E cs1 hx => ?_) (fun v cs1 hx => ?_)
          · exact absurd hx.1 (by simp)
          · obtain ⟨e1, rfl⟩ := hx
            cases e1
            refine ⟨rfl, ?_⟩
            refine r_st (st2 := [.int (if 1 ≤ m1 ∧ m1 ≤ 1000 then 1 else 0), .ref m]) rfl ?_
            refine r_cs (cs2 := [(m, .inr (12, [.int 0, .ref mp, .int pt, .ref mf, .ref mh, .ref mn, .ref mt, .ref mz, .ref mc_, .ref mq, .ref mgr, .int cl, .int wa, .int co_, .int fi, .int bu, .int ho, .ref ml, .ref mi, .ref mr, .int lh, .int mg, .int wd, .int fpi, .int fal, .ref mm, .ref mu, .ref mk, .ref mx, .long po, .long de]))]) rfl ?_
            refine r_if_ne (tgt := 52) d_Mm_charge_45 (by decide) (fun c_45 => ?_) (fun c_45 => ?_)
            · exact absurd ⟨Int32.not_lt.mp c_34, z_b1 c_45⟩ hw
            · refine r_iconst d_Mm_charge_48 (v := 1) (by decide) ?_
              refine r_goto (tgt := 53) d_Mm_charge_49 (by decide) ?_
              refine r_iconst d_Mm_charge_53 (v := 1) (by decide) ?_
              refine r_callV (As := [.int 1, .int 1]) (rest := []) (csC := [(m, .inr (12, [.int 0, .ref mp, .int pt, .ref mf, .ref mh, .ref mn, .ref mt, .ref mz, .ref mc_, .ref mq, .ref mgr, .int cl, .int wa, .int co_, .int fi, .int bu, .int ho, .ref ml, .ref mi, .ref mr, .int lh, .int mg, .int wd, .int fpi, .int fal, .ref mm, .ref mu, .ref mk, .ref mx, .long po, .long de]))]) (is := [0]) (q0 := 0) rfl rfl ln_Mm_103 w_im_Mm_fails w_se_Mm_fails ok_Mm_charge_Mm_fails d_Mm_charge_54 (C_Mm_fails1 g m mp mf mh mn mt mz mc_ mq mgr ml mi mr mm mu mk mx th pt cl wa co_ fi bu ho lh mg wd fpi fal po de) rfl rfl (Nat.le_of_ble_eq_true rfl) rfl (by decide) (by omega) (by omega) (fun E cs1 hx => ?_) (fun v cs1 hx => ?_)
              · exact absurd hx.1 (by simp)
              · obtain ⟨e1, rfl⟩ := hx
                cases e1
                refine ⟨rfl, ?_⟩
                refine r_st (st2 := [.int 1]) rfl ?_
                refine r_cs (cs2 := [(m, .inr (12, [.int 1, .ref mp, .int pt, .ref mf, .ref mh, .ref mn, .ref mt, .ref mz, .ref mc_, .ref mq, .ref mgr, .int cl, .int wa, .int co_, .int fi, .int bu, .int ho, .ref ml, .ref mi, .ref mr, .int lh, .int mg, .int wd, .int fpi, .int fal, .ref mm, .ref mu, .ref mk, .ref mx, .long po, .long de]))]) rfl ?_
                refine r_if_ne (tgt := 88) d_Mm_charge_57 (by decide) (fun c_57 => ?_) (fun c_57 => ?_)
                · refine r_iconst d_Mm_charge_88 (v := 0) (by decide) ?_
                  refine r_iret d_Mm_charge_89 rfl rfl ?_
                  exact ⟨rfl, rfl⟩
                · exact absurd c_57 (by decide)
    · refine r_iconst d_Mm_charge_21 (v := 3) (by decide) ?_
      refine r_goto (tgt := 26) d_Mm_charge_22 (by decide) ?_
      refine r_istore_n (lv' := [(3, .int 3), (0, .ref m), (1, .int k), (2, .int m1)]) d_Mm_charge_26 rfl (by decide) rfl ?_
      refine r_aload_n d_Mm_charge_27 rfl 1 rfl ?_
      refine r_ldcS (own := "IronpourModel") (i := 1) (by decide) d_Mm_charge_28 ?_
      refine r_iload_n d_Mm_charge_30 rfl 2 rfl ?_
      refine r_callVS (As := [.int k]) (rest := [.ref m]) (csC := []) (is := []) (i := 1) (by first | assumption | decide) rfl ln_Mm_97 w_im_String_indexOf_0 w_se_String_indexOf_0 ok_Mm_charge_String_indexOf_0 d_Mm_charge_31 (C_St_indexOf g 1 (by decide) k) rfl rfl (Nat.le_of_ble_eq_true rfl) rfl (by decide) (by omega) (by omega) (fun E cs1 hx => ?_) (fun v cs1 hx => ?_)
      · exact absurd hx.1 (by simp)
      · obtain ⟨e1, rfl⟩ := hx
        cases e1
        refine ⟨rfl, ?_⟩
        refine r_st (st2 := [.int (z_ix 1 k), .ref m]) rfl ?_
        refine r_cs (cs2 := [(m, .inr (12, [.int 0, .ref mp, .int pt, .ref mf, .ref mh, .ref mn, .ref mt, .ref mz, .ref mc_, .ref mq, .ref mgr, .int cl, .int wa, .int co_, .int fi, .int bu, .int ho, .ref ml, .ref mi, .ref mr, .int lh, .int mg, .int wd, .int fpi, .int fal, .ref mm, .ref mu, .ref mk, .ref mx, .long po, .long de]))]) rfl ?_
        refine r_if_lt (tgt := 48) d_Mm_charge_34 (by decide) (fun c_34 => ?_) (fun c_34 => ?_)
        · refine r_iconst d_Mm_charge_48 (v := 1) (by decide) ?_
          refine r_goto (tgt := 53) d_Mm_charge_49 (by decide) ?_
          refine r_iconst d_Mm_charge_53 (v := 1) (by decide) ?_
          refine r_callV (As := [.int 1, .int 1]) (rest := []) (csC := [(m, .inr (12, [.int 0, .ref mp, .int pt, .ref mf, .ref mh, .ref mn, .ref mt, .ref mz, .ref mc_, .ref mq, .ref mgr, .int cl, .int wa, .int co_, .int fi, .int bu, .int ho, .ref ml, .ref mi, .ref mr, .int lh, .int mg, .int wd, .int fpi, .int fal, .ref mm, .ref mu, .ref mk, .ref mx, .long po, .long de]))]) (is := [0]) (q0 := 0) rfl rfl ln_Mm_103 w_im_Mm_fails w_se_Mm_fails ok_Mm_charge_Mm_fails d_Mm_charge_54 (C_Mm_fails1 g m mp mf mh mn mt mz mc_ mq mgr ml mi mr mm mu mk mx th pt cl wa co_ fi bu ho lh mg wd fpi fal po de) rfl rfl (Nat.le_of_ble_eq_true rfl) rfl (by decide) (by omega) (by omega) (fun E cs1 hx => ?_) (fun v cs1 hx => ?_)
          · exact absurd hx.1 (by simp)
          · obtain ⟨e1, rfl⟩ := hx
            cases e1
            refine ⟨rfl, ?_⟩
            refine r_st (st2 := [.int 1]) rfl ?_
            refine r_cs (cs2 := [(m, .inr (12, [.int 1, .ref mp, .int pt, .ref mf, .ref mh, .ref mn, .ref mt, .ref mz, .ref mc_, .ref mq, .ref mgr, .int cl, .int wa, .int co_, .int fi, .int bu, .int ho, .ref ml, .ref mi, .ref mr, .int lh, .int mg, .int wd, .int fpi, .int fal, .ref mm, .ref mu, .ref mk, .ref mx, .long po, .long de]))]) rfl ?_
            refine r_if_ne (tgt := 88) d_Mm_charge_57 (by decide) (fun c_57 => ?_) (fun c_57 => ?_)
            · refine r_iconst d_Mm_charge_88 (v := 0) (by decide) ?_
              refine r_iret d_Mm_charge_89 rfl rfl ?_
              exact ⟨rfl, rfl⟩
            · exact absurd c_57 (by decide)
        · refine r_iload_n d_Mm_charge_37 rfl 3 rfl ?_
          refine r_iconst d_Mm_charge_38 (v := 1) (by decide) ?_
          refine r_sipush d_Mm_charge_39 (v := 1000) (by decide) ?_
          refine r_callS (As := [.int m1, .int 1, .int 1000]) (rest := [.ref m]) (csC := []) (is := []) ln_Mm_87 w_st_Mm_in ok_Mm_charge_Mm_in d_Mm_charge_42 (C_Mm_in g m1 1 1000) rfl rfl (Nat.le_of_ble_eq_true rfl) rfl (by decide) (by omega) (by omega) (fun E cs1 hx => ?_) (fun v cs1 hx => ?_)
          · exact absurd hx.1 (by simp)
          · obtain ⟨e1, rfl⟩ := hx
            cases e1
            refine ⟨rfl, ?_⟩
            refine r_st (st2 := [.int (if 1 ≤ m1 ∧ m1 ≤ 1000 then 1 else 0), .ref m]) rfl ?_
            refine r_cs (cs2 := [(m, .inr (12, [.int 0, .ref mp, .int pt, .ref mf, .ref mh, .ref mn, .ref mt, .ref mz, .ref mc_, .ref mq, .ref mgr, .int cl, .int wa, .int co_, .int fi, .int bu, .int ho, .ref ml, .ref mi, .ref mr, .int lh, .int mg, .int wd, .int fpi, .int fal, .ref mm, .ref mu, .ref mk, .ref mx, .long po, .long de]))]) rfl ?_
            refine r_if_ne (tgt := 52) d_Mm_charge_45 (by decide) (fun c_45 => ?_) (fun c_45 => ?_)
            · exact absurd ⟨Int32.not_lt.mp c_34, z_b1 c_45⟩ hw
            · refine r_iconst d_Mm_charge_48 (v := 1) (by decide) ?_
              refine r_goto (tgt := 53) d_Mm_charge_49 (by decide) ?_
              refine r_iconst d_Mm_charge_53 (v := 1) (by decide) ?_
              refine r_callV (As := [.int 1, .int 1]) (rest := []) (csC := [(m, .inr (12, [.int 0, .ref mp, .int pt, .ref mf, .ref mh, .ref mn, .ref mt, .ref mz, .ref mc_, .ref mq, .ref mgr, .int cl, .int wa, .int co_, .int fi, .int bu, .int ho, .ref ml, .ref mi, .ref mr, .int lh, .int mg, .int wd, .int fpi, .int fal, .ref mm, .ref mu, .ref mk, .ref mx, .long po, .long de]))]) (is := [0]) (q0 := 0) rfl rfl ln_Mm_103 w_im_Mm_fails w_se_Mm_fails ok_Mm_charge_Mm_fails d_Mm_charge_54 (C_Mm_fails1 g m mp mf mh mn mt mz mc_ mq mgr ml mi mr mm mu mk mx th pt cl wa co_ fi bu ho lh mg wd fpi fal po de) rfl rfl (Nat.le_of_ble_eq_true rfl) rfl (by decide) (by omega) (by omega) (fun E cs1 hx => ?_) (fun v cs1 hx => ?_)
              · exact absurd hx.1 (by simp)
              · obtain ⟨e1, rfl⟩ := hx
                cases e1
                refine ⟨rfl, ?_⟩
                refine r_st (st2 := [.int 1]) rfl ?_
                refine r_cs (cs2 := [(m, .inr (12, [.int 1, .ref mp, .int pt, .ref mf, .ref mh, .ref mn, .ref mt, .ref mz, .ref mc_, .ref mq, .ref mgr, .int cl, .int wa, .int co_, .int fi, .int bu, .int ho, .ref ml, .ref mi, .ref mr, .int lh, .int mg, .int wd, .int fpi, .int fal, .ref mm, .ref mu, .ref mk, .ref mx, .long po, .long de]))]) rfl ?_
                refine r_if_ne (tgt := 88) d_Mm_charge_57 (by decide) (fun c_57 => ?_) (fun c_57 => ?_)
                · refine r_iconst d_Mm_charge_88 (v := 0) (by decide) ?_
                  refine r_iret d_Mm_charge_89 rfl rfl ?_
                  exact ⟨rfl, rfl⟩
                · exact absurd c_57 (by decide)
  · refine r_iconst d_Mm_charge_11 (v := 2) (by decide) ?_
    refine r_goto (tgt := 26) d_Mm_charge_12 (by decide) ?_
    refine r_istore_n (lv' := [(3, .int 2), (0, .ref m), (1, .int k), (2, .int m1)]) d_Mm_charge_26 rfl (by decide) rfl ?_
    refine r_aload_n d_Mm_charge_27 rfl 1 rfl ?_
    refine r_ldcS (own := "IronpourModel") (i := 1) (by decide) d_Mm_charge_28 ?_
    refine r_iload_n d_Mm_charge_30 rfl 2 rfl ?_
    refine r_callVS (As := [.int k]) (rest := [.ref m]) (csC := []) (is := []) (i := 1) (by first | assumption | decide) rfl ln_Mm_97 w_im_String_indexOf_0 w_se_String_indexOf_0 ok_Mm_charge_String_indexOf_0 d_Mm_charge_31 (C_St_indexOf g 1 (by decide) k) rfl rfl (Nat.le_of_ble_eq_true rfl) rfl (by decide) (by omega) (by omega) (fun E cs1 hx => ?_) (fun v cs1 hx => ?_)
    · exact absurd hx.1 (by simp)
    · obtain ⟨e1, rfl⟩ := hx
      cases e1
      refine ⟨rfl, ?_⟩
      refine r_st (st2 := [.int (z_ix 1 k), .ref m]) rfl ?_
      refine r_cs (cs2 := [(m, .inr (12, [.int 0, .ref mp, .int pt, .ref mf, .ref mh, .ref mn, .ref mt, .ref mz, .ref mc_, .ref mq, .ref mgr, .int cl, .int wa, .int co_, .int fi, .int bu, .int ho, .ref ml, .ref mi, .ref mr, .int lh, .int mg, .int wd, .int fpi, .int fal, .ref mm, .ref mu, .ref mk, .ref mx, .long po, .long de]))]) rfl ?_
      refine r_if_lt (tgt := 48) d_Mm_charge_34 (by decide) (fun c_34 => ?_) (fun c_34 => ?_)
      · refine r_iconst d_Mm_charge_48 (v := 1) (by decide) ?_
        refine r_goto (tgt := 53) d_Mm_charge_49 (by decide) ?_
        refine r_iconst d_Mm_charge_53 (v := 1) (by decide) ?_
        refine r_callV (As := [.int 1, .int 1]) (rest := []) (csC := [(m, .inr (12, [.int 0, .ref mp, .int pt, .ref mf, .ref mh, .ref mn, .ref mt, .ref mz, .ref mc_, .ref mq, .ref mgr, .int cl, .int wa, .int co_, .int fi, .int bu, .int ho, .ref ml, .ref mi, .ref mr, .int lh, .int mg, .int wd, .int fpi, .int fal, .ref mm, .ref mu, .ref mk, .ref mx, .long po, .long de]))]) (is := [0]) (q0 := 0) rfl rfl ln_Mm_103 w_im_Mm_fails w_se_Mm_fails ok_Mm_charge_Mm_fails d_Mm_charge_54 (C_Mm_fails1 g m mp mf mh mn mt mz mc_ mq mgr ml mi mr mm mu mk mx th pt cl wa co_ fi bu ho lh mg wd fpi fal po de) rfl rfl (Nat.le_of_ble_eq_true rfl) rfl (by decide) (by omega) (by omega) (fun E cs1 hx => ?_) (fun v cs1 hx => ?_)
        · exact absurd hx.1 (by simp)
        · obtain ⟨e1, rfl⟩ := hx
          cases e1
          refine ⟨rfl, ?_⟩
          refine r_st (st2 := [.int 1]) rfl ?_
          refine r_cs (cs2 := [(m, .inr (12, [.int 1, .ref mp, .int pt, .ref mf, .ref mh, .ref mn, .ref mt, .ref mz, .ref mc_, .ref mq, .ref mgr, .int cl, .int wa, .int co_, .int fi, .int bu, .int ho, .ref ml, .ref mi, .ref mr, .int lh, .int mg, .int wd, .int fpi, .int fal, .ref mm, .ref mu, .ref mk, .ref mx, .long po, .long de]))]) rfl ?_
          refine r_if_ne (tgt := 88) d_Mm_charge_57 (by decide) (fun c_57 => ?_) (fun c_57 => ?_)
          · refine r_iconst d_Mm_charge_88 (v := 0) (by decide) ?_
            refine r_iret d_Mm_charge_89 rfl rfl ?_
            exact ⟨rfl, rfl⟩
          · exact absurd c_57 (by decide)
      · refine r_iload_n d_Mm_charge_37 rfl 3 rfl ?_
        refine r_iconst d_Mm_charge_38 (v := 1) (by decide) ?_
        refine r_sipush d_Mm_charge_39 (v := 1000) (by decide) ?_
        refine r_callS (As := [.int m1, .int 1, .int 1000]) (rest := [.ref m]) (csC := []) (is := []) ln_Mm_87 w_st_Mm_in ok_Mm_charge_Mm_in d_Mm_charge_42 (C_Mm_in g m1 1 1000) rfl rfl (Nat.le_of_ble_eq_true rfl) rfl (by decide) (by omega) (by omega) (fun E cs1 hx => ?_) (fun v cs1 hx => ?_)
        · exact absurd hx.1 (by simp)
        · obtain ⟨e1, rfl⟩ := hx
          cases e1
          refine ⟨rfl, ?_⟩
          refine r_st (st2 := [.int (if 1 ≤ m1 ∧ m1 ≤ 1000 then 1 else 0), .ref m]) rfl ?_
          refine r_cs (cs2 := [(m, .inr (12, [.int 0, .ref mp, .int pt, .ref mf, .ref mh, .ref mn, .ref mt, .ref mz, .ref mc_, .ref mq, .ref mgr, .int cl, .int wa, .int co_, .int fi, .int bu, .int ho, .ref ml, .ref mi, .ref mr, .int lh, .int mg, .int wd, .int fpi, .int fal, .ref mm, .ref mu, .ref mk, .ref mx, .long po, .long de]))]) rfl ?_
          refine r_if_ne (tgt := 52) d_Mm_charge_45 (by decide) (fun c_45 => ?_) (fun c_45 => ?_)
          · exact absurd ⟨Int32.not_lt.mp c_34, z_b1 c_45⟩ hw
          · refine r_iconst d_Mm_charge_48 (v := 1) (by decide) ?_
            refine r_goto (tgt := 53) d_Mm_charge_49 (by decide) ?_
            refine r_iconst d_Mm_charge_53 (v := 1) (by decide) ?_
            refine r_callV (As := [.int 1, .int 1]) (rest := []) (csC := [(m, .inr (12, [.int 0, .ref mp, .int pt, .ref mf, .ref mh, .ref mn, .ref mt, .ref mz, .ref mc_, .ref mq, .ref mgr, .int cl, .int wa, .int co_, .int fi, .int bu, .int ho, .ref ml, .ref mi, .ref mr, .int lh, .int mg, .int wd, .int fpi, .int fal, .ref mm, .ref mu, .ref mk, .ref mx, .long po, .long de]))]) (is := [0]) (q0 := 0) rfl rfl ln_Mm_103 w_im_Mm_fails w_se_Mm_fails ok_Mm_charge_Mm_fails d_Mm_charge_54 (C_Mm_fails1 g m mp mf mh mn mt mz mc_ mq mgr ml mi mr mm mu mk mx th pt cl wa co_ fi bu ho lh mg wd fpi fal po de) rfl rfl (Nat.le_of_ble_eq_true rfl) rfl (by decide) (by omega) (by omega) (fun E cs1 hx => ?_) (fun v cs1 hx => ?_)
            · exact absurd hx.1 (by simp)
            · obtain ⟨e1, rfl⟩ := hx
              cases e1
              refine ⟨rfl, ?_⟩
              refine r_st (st2 := [.int 1]) rfl ?_
              refine r_cs (cs2 := [(m, .inr (12, [.int 1, .ref mp, .int pt, .ref mf, .ref mh, .ref mn, .ref mt, .ref mz, .ref mc_, .ref mq, .ref mgr, .int cl, .int wa, .int co_, .int fi, .int bu, .int ho, .ref ml, .ref mi, .ref mr, .int lh, .int mg, .int wd, .int fpi, .int fal, .ref mm, .ref mu, .ref mk, .ref mx, .long po, .long de]))]) rfl ?_
              refine r_if_ne (tgt := 88) d_Mm_charge_57 (by decide) (fun c_57 => ?_) (fun c_57 => ?_)
              · refine r_iconst d_Mm_charge_88 (v := 0) (by decide) ?_
                refine r_iret d_Mm_charge_89 rfl rfl ?_
                exact ⟨rfl, rfl⟩
              · exact absurd c_57 (by decide)
theorem d_Mm_charge_52 : decode prog_14_method_58_code 52 = .ok (.iconst 0, 1) := zo_3 (zd_b zq_prog_14_method_58_code_1 20 rfl rfl rfl)
theorem d_Mm_charge_60 : decode prog_14_method_58_code 60 = .ok (.aload_n 0, 1) := zo_42 (zd_b zq_prog_14_method_58_code_1 28 rfl rfl rfl)
theorem d_Mm_charge_61 : decode prog_14_method_58_code 61 = .ok (.iload_n 3, 1) := zo_29 (zd_b zq_prog_14_method_58_code_1 29 rfl rfl rfl)
theorem d_Mm_charge_62 : decode prog_14_method_58_code 62 = .ok (.iconst (-1), 1) := zo_2 (zd_b zq_prog_14_method_58_code_1 30 rfl rfl rfl)
theorem d_Mm_charge_63 : decode prog_14_method_58_code 63 = .ok (.if_icmp .eq 17, 3) := zo_159 (d := 0) (e := 17) (zd_b zq_prog_14_method_58_code_1 31 rfl rfl rfl) (zd_b zq_prog_14_method_58_code_2 0 rfl rfl rfl) (zd_b zq_prog_14_method_58_code_2 1 rfl rfl rfl) (by decide +kernel)
theorem d_Mm_charge_66 : decode prog_14_method_58_code 66 = .ok (.aload_n 0, 1) := zo_42 (zd_b zq_prog_14_method_58_code_2 2 rfl rfl rfl)
theorem d_Mm_charge_67 : decode prog_14_method_58_code 67 = .ok (.getfield 62, 3) := zo_180 (d := 0) (e := 62) (zd_b zq_prog_14_method_58_code_2 3 rfl rfl rfl) (zd_b zq_prog_14_method_58_code_2 4 rfl rfl rfl) (zd_b zq_prog_14_method_58_code_2 5 rfl rfl rfl)
theorem fs_Mm_62 : z_fs "IronpourModel" 62 12 18 := ⟨R_Mm, "IronpourModel", F_Mm, 31, rfl, u_Mm, by decide, Or.inl ⟨z_mj7 (i := 101) rfl (by decide +kernel), Or.inl rfl⟩⟩
theorem d_Mm_charge_70 : decode prog_14_method_58_code 70 = .ok (.iload_n 3, 1) := zo_29 (zd_b zq_prog_14_method_58_code_2 6 rfl rfl rfl)
theorem d_Mm_charge_71 : decode prog_14_method_58_code 71 = .ok (.iaload, 1) := zo_46 (zd_b zq_prog_14_method_58_code_2 7 rfl rfl rfl)
theorem d_Mm_charge_72 : decode prog_14_method_58_code 72 = .ok (.iload_n 2, 1) := zo_28 (zd_b zq_prog_14_method_58_code_2 8 rfl rfl rfl)
theorem d_Mm_charge_73 : decode prog_14_method_58_code 73 = .ok (.if_icmp .ge 7, 3) := zo_162 (d := 0) (e := 7) (zd_b zq_prog_14_method_58_code_2 9 rfl rfl rfl) (zd_b zq_prog_14_method_58_code_2 10 rfl rfl rfl) (zd_b zq_prog_14_method_58_code_2 11 rfl rfl rfl) (by decide +kernel)
theorem d_Mm_charge_76 : decode prog_14_method_58_code 76 = .ok (.iconst 1, 1) := zo_4 (zd_b zq_prog_14_method_58_code_2 12 rfl rfl rfl)
theorem d_Mm_charge_77 : decode prog_14_method_58_code 77 = .ok (.goto 4, 3) := zo_167 (d := 0) (e := 4) (zd_b zq_prog_14_method_58_code_2 13 rfl rfl rfl) (zd_b zq_prog_14_method_58_code_2 14 rfl rfl rfl) (zd_b zq_prog_14_method_58_code_2 15 rfl rfl rfl) (by decide +kernel)
theorem d_Mm_charge_81 : decode prog_14_method_58_code 81 = .ok (.iconst 2, 1) := zo_5 (zd_b zq_prog_14_method_58_code_2 17 rfl rfl rfl)
theorem d_Mm_charge_82 : decode prog_14_method_58_code 82 = .ok (.invokevirtual 103, 3) := zo_182 (d := 0) (e := 103) (zd_b zq_prog_14_method_58_code_2 18 rfl rfl rfl) (zd_b zq_prog_14_method_58_code_2 19 rfl rfl rfl) (zd_b zq_prog_14_method_58_code_2 20 rfl rfl rfl)
theorem d_Mm_charge_85 : decode prog_14_method_58_code 85 = .ok (.ifCond .eq 5, 3) := zo_153 (d := 0) (e := 5) (zd_b zq_prog_14_method_58_code_2 21 rfl rfl rfl) (zd_b zq_prog_14_method_58_code_2 22 rfl rfl rfl) (zd_b zq_prog_14_method_58_code_2 23 rfl rfl rfl) (by decide +kernel)
