set_option maxHeartbeats 4000000 in
set_option maxRecDepth 100000 in
theorem C_Mm_charge103F (g : zG) (m mp mf mh mn mt mz mc_ mq mgr ml mi mr mm mu mk mx : Nat) (th pt cl wa co_ fi bu ho lh mg wd fpi fal : Int32) (po de : Int64) (ir : Nat → Int32) (m1 : Int32) (hw : (1 ≤ m1 ∧ m1 ≤ 1000)) (hf : ir 2 < m1) : CT g M_Mm_charge [.ref m, .int 103, .int m1] [(m, .inr (12, [.int th, .ref mp, .int pt, .ref mf, .ref mh, .ref mn, .ref mt, .ref mz, .ref mc_, .ref mq, .ref mgr, .int cl, .int wa, .int co_, .int fi, .int bu, .int ho, .ref ml, .ref mi, .ref mr, .int lh, .int mg, .int wd, .int fpi, .int fal, .ref mm, .ref mu, .ref mk, .ref mx, .long po, .long de])), (mi, .inl (0, 4, .inl ir))] (fun o cs1 => o = .inl (some (.int 0)) ∧ cs1 = [(m, .inr (12, [.int 2, .ref mp, .int pt, .ref mf, .ref mh, .ref mn, .ref mt, .ref mz, .ref mc_, .ref mq, .ref mgr, .int cl, .int wa, .int co_, .int fi, .int bu, .int ho, .ref ml, .ref mi, .ref mr, .int lh, .int mg, .int wd, .int fpi, .int fal, .ref mm, .ref mu, .ref mk, .ref mx, .long po, .long de])), (mi, .inl (0, 4, .inl ir))]) 0 0 := by
  refine z_of (by decide) rfl (Nat.le_of_ble_eq_true rfl) (fun w0 => ?_)
  refine r_lvE (lv2 := [(0, .ref m), (1, .int 103), (2, .int m1)]) rfl ?_
  refine r_aload_n d_Mm_charge_0 rfl 0 rfl ?_
  refine r_iconst d_Mm_charge_1 (v := 0) (by decide) ?_
  refine r_put fp_Mm_84 d_Mm_charge_2 (fun h => nomatch h) rfl rfl (q0 := 0) rfl (Nat.le_of_ble_eq_true rfl) (cs' := [(m, .inr (12, [.int 0, .ref mp, .int pt, .ref mf, .ref mh, .ref mn, .ref mt, .ref mz, .ref mc_, .ref mq, .ref mgr, .int cl, .int wa, .int co_, .int fi, .int bu, .int ho, .ref ml, .ref mi, .ref mr, .int lh, .int mg, .int wd, .int fpi, .int fal, .ref mm, .ref mu, .ref mk, .ref mx, .long po, .long de])), (mi, .inl (0, 4, .inl ir))]) rfl ?_
  refine r_iload_n d_Mm_charge_5 rfl 1 rfl ?_
  refine r_bipush d_Mm_charge_6 (v := 103) (by decide) ?_
  refine r_icmp_ne (tgt := 15) d_Mm_charge_8 (by decide) (fun c_8 => ?_) (fun c_8 => ?_)
  · exact absurd c_8 (by decide)
  · refine r_iconst d_Mm_charge_11 (v := 2) (by decide) ?_
    refine r_goto (tgt := 26) d_Mm_charge_12 (by decide) ?_
    refine r_istore_n (lv' := [(3, .int 2), (0, .ref m), (1, .int 103), (2, .int m1)]) d_Mm_charge_26 rfl (by decide) rfl ?_
    refine r_aload_n d_Mm_charge_27 rfl 1 rfl ?_
    refine r_ldcS (own := "IronpourModel") (i := 1) (by decide) d_Mm_charge_28 ?_
    refine r_iload_n d_Mm_charge_30 rfl 2 rfl ?_
    refine r_callVS (As := [.int 103]) (rest := [.ref m]) (csC := []) (is := []) (i := 1) (by first | assumption | decide) rfl ln_Mm_97 w_im_String_indexOf_0 w_se_String_indexOf_0 ok_Mm_charge_String_indexOf_0 d_Mm_charge_31 (C_St_indexOf g 1 (by decide) 103) rfl rfl (Nat.le_of_ble_eq_true rfl) rfl (by decide) (by omega) (by omega) (fun E cs1 hx => ?_) (fun v cs1 hx => ?_)
    · exact absurd hx.1 (by simp)
    · obtain ⟨e1, rfl⟩ := hx
      cases e1
      refine ⟨rfl, ?_⟩
      refine r_st (st2 := [.int (z_ix 1 103), .ref m]) rfl ?_
      refine r_cs (cs2 := [(m, .inr (12, [.int 0, .ref mp, .int pt, .ref mf, .ref mh, .ref mn, .ref mt, .ref mz, .ref mc_, .ref mq, .ref mgr, .int cl, .int wa, .int co_, .int fi, .int bu, .int ho, .ref ml, .ref mi, .ref mr, .int lh, .int mg, .int wd, .int fpi, .int fal, .ref mm, .ref mu, .ref mk, .ref mx, .long po, .long de])), (mi, .inl (0, 4, .inl ir))]) rfl ?_
      refine r_if_lt (tgt := 48) d_Mm_charge_34 (by decide) (fun c_34 => ?_) (fun c_34 => ?_)
      · exact absurd c_34 (by decide)
      · refine r_iload_n d_Mm_charge_37 rfl 3 rfl ?_
        refine r_iconst d_Mm_charge_38 (v := 1) (by decide) ?_
        refine r_sipush d_Mm_charge_39 (v := 1000) (by decide) ?_
        refine r_callS (As := [.int m1, .int 1, .int 1000]) (rest := [.ref m]) (csC := []) (is := []) ln_Mm_87 w_st_Mm_in ok_Mm_charge_Mm_in d_Mm_charge_42 (C_Mm_in g m1 1 1000) rfl rfl (Nat.le_of_ble_eq_true rfl) rfl (by decide) (by omega) (by omega) (fun E cs1 hx => ?_) (fun v cs1 hx => ?_)
        · exact absurd hx.1 (by simp)
        · obtain ⟨e1, rfl⟩ := hx
          rw [if_pos hw] at e1
          cases e1
          refine ⟨rfl, ?_⟩
          refine r_st (st2 := [.int 1, .ref m]) rfl ?_
          refine r_cs (cs2 := [(m, .inr (12, [.int 0, .ref mp, .int pt, .ref mf, .ref mh, .ref mn, .ref mt, .ref mz, .ref mc_, .ref mq, .ref mgr, .int cl, .int wa, .int co_, .int fi, .int bu, .int ho, .ref ml, .ref mi, .ref mr, .int lh, .int mg, .int wd, .int fpi, .int fal, .ref mm, .ref mu, .ref mk, .ref mx, .long po, .long de])), (mi, .inl (0, 4, .inl ir))]) rfl ?_
          refine r_if_ne (tgt := 52) d_Mm_charge_45 (by decide) (fun c_45 => ?_) (fun c_45 => ?_)
          · refine r_iconst d_Mm_charge_52 (v := 0) (by decide) ?_
            refine r_iconst d_Mm_charge_53 (v := 1) (by decide) ?_
            refine r_callV (As := [.int 0, .int 1]) (rest := []) (csC := [(m, .inr (12, [.int 0, .ref mp, .int pt, .ref mf, .ref mh, .ref mn, .ref mt, .ref mz, .ref mc_, .ref mq, .ref mgr, .int cl, .int wa, .int co_, .int fi, .int bu, .int ho, .ref ml, .ref mi, .ref mr, .int lh, .int mg, .int wd, .int fpi, .int fal, .ref mm, .ref mu, .ref mk, .ref mx, .long po, .long de]))]) (is := [0]) (q0 := 0) rfl rfl ln_Mm_103 w_im_Mm_fails w_se_Mm_fails ok_Mm_charge_Mm_fails d_Mm_charge_54 (C_Mm_fails0 g m mp mf mh mn mt mz mc_ mq mgr ml mi mr mm mu mk mx th pt cl wa co_ fi bu ho lh mg wd fpi fal po de 1) rfl rfl (Nat.le_of_ble_eq_true rfl) rfl (by decide) (by omega) (by omega) (fun E cs1 hx => ?_) (fun v cs1 hx => ?_)
            · exact absurd hx.1 (by simp)
            · obtain ⟨e1, rfl⟩ := hx
              cases e1
              refine ⟨rfl, ?_⟩
              refine r_st (st2 := [.int 0]) rfl ?_
              refine r_cs (cs2 := [(m, .inr (12, [.int 0, .ref mp, .int pt, .ref mf, .ref mh, .ref mn, .ref mt, .ref mz, .ref mc_, .ref mq, .ref mgr, .int cl, .int wa, .int co_, .int fi, .int bu, .int ho, .ref ml, .ref mi, .ref mr, .int lh, .int mg, .int wd, .int fpi, .int fal, .ref mm, .ref mu, .ref mk, .ref mx, .long po, .long de])), (mi, .inl (0, 4, .inl ir))]) rfl ?_
              refine r_if_ne (tgt := 88) d_Mm_charge_57 (by decide) (fun c_57 => ?_) (fun c_57 => ?_)
              · exact absurd c_57 (by decide)
              · refine r_aload_n d_Mm_charge_60 rfl 1 rfl ?_
                refine r_iload_n d_Mm_charge_61 rfl 0 rfl ?_
                refine r_iconst d_Mm_charge_62 (v := (-1)) (by decide) ?_
                refine r_icmp_eq (tgt := 80) d_Mm_charge_63 (by decide) (fun c_63 => ?_) (fun c_63 => ?_)
                · exact absurd c_63 (by decide)
                · refine r_aload_n d_Mm_charge_66 rfl 1 rfl ?_
                  refine r_get fs_Mm_62 d_Mm_charge_67 (q0 := 0) rfl rfl ?_
                  refine r_iload_n d_Mm_charge_70 rfl 0 rfl ?_
                  refine r_iald d_Mm_charge_71 (q0 := 1) rfl (fun q => q.elim (by decide) (by decide)) (v := ir 2) rfl ?_
                  refine r_iload_n d_Mm_charge_72 rfl 3 rfl ?_
                  refine r_icmp_ge (tgt := 80) d_Mm_charge_73 (by decide) (fun c_73 => ?_) (fun c_73 => ?_)
                  · exact absurd hf (Int32.not_lt.mpr c_73)
                  · refine r_iconst d_Mm_charge_76 (v := 1) (by decide) ?_
                    refine r_goto (tgt := 81) d_Mm_charge_77 (by decide) ?_
                    refine r_iconst d_Mm_charge_81 (v := 2) (by decide) ?_
                    refine r_callV (As := [.int 1, .int 2]) (rest := []) (csC := [(m, .inr (12, [.int 0, .ref mp, .int pt, .ref mf, .ref mh, .ref mn, .ref mt, .ref mz, .ref mc_, .ref mq, .ref mgr, .int cl, .int wa, .int co_, .int fi, .int bu, .int ho, .ref ml, .ref mi, .ref mr, .int lh, .int mg, .int wd, .int fpi, .int fal, .ref mm, .ref mu, .ref mk, .ref mx, .long po, .long de]))]) (is := [0]) (q0 := 0) rfl rfl ln_Mm_103 w_im_Mm_fails w_se_Mm_fails ok_Mm_charge_Mm_fails d_Mm_charge_82 (C_Mm_fails2 g m mp mf mh mn mt mz mc_ mq mgr ml mi mr mm mu mk mx th pt cl wa co_ fi bu ho lh mg wd fpi fal po de) rfl rfl (Nat.le_of_ble_eq_true rfl) rfl (by decide) (by omega) (by omega) (fun E cs1 hx => ?_) (fun v cs1 hx => ?_)
                    · exact absurd hx.1 (by simp)
                    · obtain ⟨e1, rfl⟩ := hx
                      cases e1
                      refine ⟨rfl, ?_⟩
                      refine r_st (st2 := [.int 1]) rfl ?_
                      refine r_cs (cs2 := [(m, .inr (12, [.int 2, .ref mp, .int pt, .ref mf, .ref mh, .ref mn, .ref mt, .ref mz, .ref mc_, .ref mq, .ref mgr, .int cl, .int wa, .int co_, .int fi, .int bu, .int ho, .ref ml, .ref mi, .ref mr, .int lh, .int mg, .int wd, .int fpi, .int fal, .ref mm, .ref mu, .ref mk, .ref mx, .long po, .long de])), (mi, .inl (0, 4, .inl ir))]) rfl ?_
                      refine r_if_eq (tgt := 90) d_Mm_charge_85 (by decide) (fun c_85 => ?_) (fun c_85 => ?_)
                      · exact absurd c_85 (by decide)
                      · refine r_iconst d_Mm_charge_88 (v := 0) (by decide) ?_
                        refine r_iret d_Mm_charge_89 rfl rfl ?_
                        exact ⟨rfl, rfl⟩
          · exact absurd c_45 (by decide)
set_option maxHeartbeats 4000000 in
set_option maxRecDepth 100000 in
theorem C_Mm_charge100F (g : zG) (m mp mf mh mn mt mz mc_ mq mgr ml mi mr mm mu mk mx : Nat) (th pt cl wa co_ fi bu ho lh mg wd fpi fal : Int32) (po de : Int64) (ir : Nat → Int32) (m1 : Int32) (hw : (1 ≤ m1 ∧ m1 ≤ 1000)) (hf : ir 3 < m1) : CT g M_Mm_charge [.ref m, .int 100, .int m1] [(m, .inr (12, [.int th, .ref mp, .int pt, .ref mf, .ref mh, .ref mn, .ref mt, .ref mz, .ref mc_, .ref mq, .ref mgr, .int cl, .int wa, .int co_, .int fi, .int bu, .int ho, .ref ml, .ref mi, .ref mr, .int lh, .int mg, .int wd, .int fpi, .int fal, .ref mm, .ref mu, .ref mk, .ref mx, .long po, .long de])), (mi, .inl (0, 4, .inl ir))] (fun o cs1 => o = .inl (some (.int 0)) ∧ cs1 = [(m, .inr (12, [.int 2, .ref mp, .int pt, .ref mf, .ref mh, .ref mn, .ref mt, .ref mz, .ref mc_, .ref mq, .ref mgr, .int cl, .int wa, .int co_, .int fi, .int bu, .int ho, .ref ml, .ref mi, .ref mr, .int lh, .int mg, .int wd, .int fpi, .int fal, .ref mm, .ref mu, .ref mk, .ref mx, .long po, .long de])), (mi, .inl (0, 4, .inl ir))]) 0 0 := by
  refine z_of (by decide) rfl (Nat.le_of_ble_eq_true rfl) (fun w0 => ?_)
  refine r_lvE (lv2 := [(0, .ref m), (1, .int 100), (2, .int m1)]) rfl ?_
  refine r_aload_n d_Mm_charge_0 rfl 0 rfl ?_
  refine r_iconst d_Mm_charge_1 (v := 0) (by decide) ?_
  refine r_put fp_Mm_84 d_Mm_charge_2 (fun h => nomatch h) rfl rfl (q0 := 0) rfl (Nat.le_of_ble_eq_true rfl) (cs' := [(m, .inr (12, [.int 0, .ref mp, .int pt, .ref mf, .ref mh, .ref mn, .ref mt, .ref mz, .ref mc_, .ref mq, .ref mgr, .int cl, .int wa, .int co_, .int fi, .int bu, .int ho, .ref ml, .ref mi, .ref mr, .int lh, .int mg, .int wd, .int fpi, .int fal, .ref mm, .ref mu, .ref mk, .ref mx, .long po, .long de])), (mi, .inl (0, 4, .inl ir))]) rfl ?_
  refine r_iload_n d_Mm_charge_5 rfl 1 rfl ?_
  refine r_bipush d_Mm_charge_6 (v := 103) (by decide) ?_
  refine r_icmp_ne (tgt := 15) d_Mm_charge_8 (by decide) (fun c_8 => ?_) (fun c_8 => ?_)
  · refine r_iload_n d_Mm_charge_15 rfl 1 rfl ?_
    refine r_bipush d_Mm_charge_16 (v := 100) (by decide) ?_
    refine r_icmp_ne (tgt := 25) d_Mm_charge_18 (by decide) (fun c_18 => ?_) (fun c_18 => ?_)
    · exact absurd c_18 (by decide)
    · refine r_iconst d_Mm_charge_21 (v := 3) (by decide) ?_
      refine r_goto (tgt := 26) d_Mm_charge_22 (by decide) ?_
      refine r_istore_n (lv' := [(3, .int 3), (0, .ref m), (1, .int 100), (2, .int m1)]) d_Mm_charge_26 rfl (by decide) rfl ?_
      refine r_aload_n d_Mm_charge_27 rfl 1 rfl ?_
      refine r_ldcS (own := "IronpourModel") (i := 1) (by decide) d_Mm_charge_28 ?_
      refine r_iload_n d_Mm_charge_30 rfl 2 rfl ?_
      refine r_callVS (As := [.int 100]) (rest := [.ref m]) (csC := []) (is := []) (i := 1) (by first | assumption | decide) rfl ln_Mm_97 w_im_String_indexOf_0 w_se_String_indexOf_0 ok_Mm_charge_String_indexOf_0 d_Mm_charge_31 (C_St_indexOf g 1 (by decide) 100) rfl rfl (Nat.le_of_ble_eq_true rfl) rfl (by decide) (by omega) (by omega) (fun E cs1 hx => ?_) (fun v cs1 hx => ?_)
      · exact absurd hx.1 (by simp)
      · obtain ⟨e1, rfl⟩ := hx
        cases e1
        refine ⟨rfl, ?_⟩
        refine r_st (st2 := [.int (z_ix 1 100), .ref m]) rfl ?_
        refine r_cs (cs2 := [(m, .inr (12, [.int 0, .ref mp, .int pt, .ref mf, .ref mh, .ref mn, .ref mt, .ref mz, .ref mc_, .ref mq, .ref mgr, .int cl, .int wa, .int co_, .int fi, .int bu, .int ho, .ref ml, .ref mi, .ref mr, .int lh, .int mg, .int wd, .int fpi, .int fal, .ref mm, .ref mu, .ref mk, .ref mx, .long po, .long de])), (mi, .inl (0, 4, .inl ir))]) rfl ?_
        refine r_if_lt (tgt := 48) d_Mm_charge_34 (by decide) (fun c_34 => ?_) (fun c_34 => ?_)
        · exact absurd c_34 (by decide)
        · refine r_iload_n d_Mm_charge_37 rfl 3 rfl ?_
          refine r_iconst d_Mm_charge_38 (v := 1) (by decide) ?_
          refine r_sipush d_Mm_charge_39 (v := 1000) (by decide) ?_
          refine r_callS (As := [.int m1, .int 1, .int 1000]) (rest := [.ref m]) (csC := []) (is := []) ln_Mm_87 w_st_Mm_in ok_Mm_charge_Mm_in d_Mm_charge_42 (C_Mm_in g m1 1 1000) rfl rfl (Nat.le_of_ble_eq_true rfl) rfl (by decide) (by omega) (by omega) (fun E cs1 hx => ?_) (fun v cs1 hx => ?_)
          · exact absurd hx.1 (by simp)
          · obtain ⟨e1, rfl⟩ := hx
            rw [if_pos hw] at e1
            cases e1
            refine ⟨rfl, ?_⟩
            refine r_st (st2 := [.int 1, .ref m]) rfl ?_
            refine r_cs (cs2 := [(m, .inr (12, [.int 0, .ref mp, .int pt, .ref mf, .ref mh, .ref mn, .ref mt, .ref mz, .ref mc_, .ref mq, .ref mgr, .int cl, .int wa, .int co_, .int fi, .int bu, .int ho, .ref ml, .ref mi, .ref mr, .int lh, .int mg, .int wd, .int fpi, .int fal, .ref mm, .ref mu, .ref mk, .ref mx, .long po, .long de])), (mi, .inl (0, 4, .inl ir))]) rfl ?_
            refine r_if_ne (tgt := 52) d_Mm_charge_45 (by decide) (fun c_45 => ?_) (fun c_45 => ?_)
            · refine r_iconst d_Mm_charge_52 (v := 0) (by decide) ?_
              refine r_iconst d_Mm_charge_53 (v := 1) (by decide) ?_
              refine r_callV (As := [.int 0, .int 1]) (rest := []) (csC := [(m, .inr (12, [.int 0, .ref mp, .int pt, .ref mf, .ref mh, .ref mn, .ref mt, .ref mz, .ref mc_, .ref mq, .ref mgr, .int cl, .int wa, .int co_, .int fi, .int bu, .int ho, .ref ml, .ref mi, .ref mr, .int lh, .int mg, .int wd, .int fpi, .int fal, .ref mm, .ref mu, .ref mk, .ref mx, .long po, .long de]))]) (is := [0]) (q0 := 0) rfl rfl ln_Mm_103 w_im_Mm_fails w_se_Mm_fails ok_Mm_charge_Mm_fails d_Mm_charge_54 (C_Mm_fails0 g m mp mf mh mn mt mz mc_ mq mgr ml mi mr mm mu mk mx th pt cl wa co_ fi bu ho lh mg wd fpi fal po de 1) rfl rfl (Nat.le_of_ble_eq_true rfl) rfl (by decide) (by omega) (by omega) (fun E cs1 hx => ?_) (fun v cs1 hx => ?_)
              · exact absurd hx.1 (by simp)
              · obtain ⟨e1, rfl⟩ := hx
                cases e1
                refine ⟨rfl, ?_⟩
                refine r_st (st2 := [.int 0]) rfl ?_
                refine r_cs (cs2 := [(m, .inr (12, [.int 0, .ref mp, .int pt, .ref mf, .ref mh, .ref mn, .ref mt, .ref mz, .ref mc_, .ref mq, .ref mgr, .int cl, .int wa, .int co_, .int fi, .int bu, .int ho, .ref ml, .ref mi, .ref mr, .int lh, .int mg, .int wd, .int fpi, .int fal, .ref mm, .ref mu, .ref mk, .ref mx, .long po, .long de])), (mi, .inl (0, 4, .inl ir))]) rfl ?_
                refine r_if_ne (tgt := 88) d_Mm_charge_57 (by decide) (fun c_57 => ?_) (fun c_57 => ?_)
                · exact absurd c_57 (by decide)
                · refine r_aload_n d_Mm_charge_60 rfl 1 rfl ?_
                  refine r_iload_n d_Mm_charge_61 rfl 0 rfl ?_
                  refine r_iconst d_Mm_charge_62 (v := (-1)) (by decide) ?_
                  refine r_icmp_eq (tgt := 80) d_Mm_charge_63 (by decide) (fun c_63 => ?_) (fun c_63 => ?_)
                  · exact absurd c_63 (by decide)
                  · refine r_aload_n d_Mm_charge_66 rfl 1 rfl ?_
                    refine r_get fs_Mm_62 d_Mm_charge_67 (q0 := 0) rfl rfl ?_
                    refine r_iload_n d_Mm_charge_70 rfl 0 rfl ?_
                    refine r_iald d_Mm_charge_71 (q0 := 1) rfl (fun q => q.elim (by decide) (by decide)) (v := ir 3) rfl ?_
                    refine r_iload_n d_Mm_charge_72 rfl 3 rfl ?_
                    refine r_icmp_ge (tgt := 80) d_Mm_charge_73 (by decide) (fun c_73 => ?_) (fun c_73 => ?_)
                    · exact absurd hf (Int32.not_lt.mpr c_73)
                    · refine r_iconst d_Mm_charge_76 (v := 1) (by decide) ?_
                      refine r_goto (tgt := 81) d_Mm_charge_77 (by decide) ?_
                      refine r_iconst d_Mm_charge_81 (v := 2) (by decide) ?_
                      refine r_callV (As := [.int 1, .int 2]) (rest := []) (csC := [(m, .inr (12, [.int 0, .ref mp, .int pt, .ref mf, .ref mh, .ref mn, .ref mt, .ref mz, .ref mc_, .ref mq, .ref mgr, .int cl, .int wa, .int co_, .int fi, .int bu, .int ho, .ref ml, .ref mi, .ref mr, .int lh, .int mg, .int wd, .int fpi, .int fal, .ref mm, .ref mu, .ref mk, .ref mx, .long po, .long de]))]) (is := [0]) (q0 := 0) rfl rfl ln_Mm_103 w_im_Mm_fails w_se_Mm_fails ok_Mm_charge_Mm_fails d_Mm_charge_82 (C_Mm_fails2 g m mp mf mh mn mt mz mc_ mq mgr ml mi mr mm mu mk mx th pt cl wa co_ fi bu ho lh mg wd fpi fal po de) rfl rfl (Nat.le_of_ble_eq_true rfl) rfl (by decide) (by omega) (by omega) (fun E cs1 hx => ?_) (fun v cs1 hx => ?_)
                      · exact absurd hx.1 (by simp)
                      · obtain ⟨e1, rfl⟩ := hx
                        cases e1
                        refine ⟨rfl, ?_⟩
                        refine r_st (st2 := [.int 1]) rfl ?_
                        refine r_cs (cs2 := [(m, .inr (12, [.int 2, .ref mp, .int pt, .ref mf, .ref mh, .ref mn, .ref mt, .ref mz, .ref mc_, .ref mq, .ref mgr, .int cl, .int wa, .int co_, .int fi, .int bu, .int ho, .ref ml, .ref mi, .ref mr, .int lh, .int mg, .int wd, .int fpi, .int fal, .ref mm, .ref mu, .ref mk, .ref mx, .long po, .long de])), (mi, .inl (0, 4, .inl ir))]) rfl ?_
                        refine r_if_eq (tgt := 90) d_Mm_charge_85 (by decide) (fun c_85 => ?_) (fun c_85 => ?_)
                        · exact absurd c_85 (by decide)
                        · refine r_iconst d_Mm_charge_88 (v := 0) (by decide) ?_
                          refine r_iret d_Mm_charge_89 rfl rfl ?_
                          exact ⟨rfl, rfl⟩
            · exact absurd c_45 (by decide)
  · exact absurd c_8 (by decide)
theorem d_Mm_charge_143 : decode prog_14_method_58_code 143 = .ok (.iload 4, 2) := zo_21 (d := 4) (zd_b zq_prog_14_method_58_code_4 15 rfl rfl rfl) (zd_b zq_prog_14_method_58_code_4 16 rfl rfl rfl)
theorem d_Mm_charge_145 : decode prog_14_method_58_code 145 = .ok (.iconst 4, 1) := zo_7 (zd_b zq_prog_14_method_58_code_4 17 rfl rfl rfl)
theorem d_Mm_charge_146 : decode prog_14_method_58_code 146 = .ok (.if_icmp .ge 33, 3) := zo_162 (d := 0) (e := 33) (zd_b zq_prog_14_method_58_code_4 18 rfl rfl rfl) (zd_b zq_prog_14_method_58_code_4 19 rfl rfl rfl) (zd_b zq_prog_14_method_58_code_4 20 rfl rfl rfl) (by decide +kernel)
theorem d_Mm_charge_179 : decode prog_14_method_58_code 179 = .ok (.aload_n 0, 1) := zo_42 (zd_b zq_prog_14_method_58_code_5 19 rfl rfl rfl)
theorem d_Mm_charge_180 : decode prog_14_method_58_code 180 = .ok (.getfield 62, 3) := zo_180 (d := 0) (e := 62) (zd_b zq_prog_14_method_58_code_5 20 rfl rfl rfl) (zd_b zq_prog_14_method_58_code_5 21 rfl rfl rfl) (zd_b zq_prog_14_method_58_code_5 22 rfl rfl rfl)
theorem d_Mm_charge_183 : decode prog_14_method_58_code 183 = .ok (.iconst 0, 1) := zo_3 (zd_b zq_prog_14_method_58_code_5 23 rfl rfl rfl)
theorem d_Mm_charge_184 : decode prog_14_method_58_code 184 = .ok (.dup2, 1) := zo_92 (zd_b zq_prog_14_method_58_code_5 24 rfl rfl rfl)
theorem d_Mm_charge_185 : decode prog_14_method_58_code 185 = .ok (.iaload, 1) := zo_46 (zd_b zq_prog_14_method_58_code_5 25 rfl rfl rfl)
theorem d_Mm_charge_186 : decode prog_14_method_58_code 186 = .ok (.iload_n 1, 1) := zo_27 (zd_b zq_prog_14_method_58_code_5 26 rfl rfl rfl)
theorem d_Mm_charge_187 : decode prog_14_method_58_code 187 = .ok (.bipush 107, 2) := zo_16 (d := 107) (zd_b zq_prog_14_method_58_code_5 27 rfl rfl rfl) (zd_b zq_prog_14_method_58_code_5 28 rfl rfl rfl) (by decide +kernel)
theorem d_Mm_charge_189 : decode prog_14_method_58_code 189 = .ok (.if_icmp .ne 7, 3) := zo_160 (d := 0) (e := 7) (zd_b zq_prog_14_method_58_code_5 29 rfl rfl rfl) (zd_b zq_prog_14_method_58_code_5 30 rfl rfl rfl) (zd_b zq_prog_14_method_58_code_5 31 rfl rfl rfl) (by decide +kernel)
theorem d_Mm_charge_196 : decode prog_14_method_58_code 196 = .ok (.iload_n 2, 1) := zo_28 (zd_b zq_prog_14_method_58_code_6 4 rfl rfl rfl)
theorem d_Mm_charge_197 : decode prog_14_method_58_code 197 = .ok (.iadd, 1) := zo_96 (zd_b zq_prog_14_method_58_code_6 5 rfl rfl rfl)
theorem d_Mm_charge_198 : decode prog_14_method_58_code 198 = .ok (.iastore, 1) := zo_79 (zd_b zq_prog_14_method_58_code_6 6 rfl rfl rfl)
theorem d_Mm_charge_199 : decode prog_14_method_58_code 199 = .ok (.aload_n 0, 1) := zo_42 (zd_b zq_prog_14_method_58_code_6 7 rfl rfl rfl)
theorem d_Mm_charge_200 : decode prog_14_method_58_code 200 = .ok (.getfield 62, 3) := zo_180 (d := 0) (e := 62) (zd_b zq_prog_14_method_58_code_6 8 rfl rfl rfl) (zd_b zq_prog_14_method_58_code_6 9 rfl rfl rfl) (zd_b zq_prog_14_method_58_code_6 10 rfl rfl rfl)
theorem d_Mm_charge_203 : decode prog_14_method_58_code 203 = .ok (.iconst 0, 1) := zo_3 (zd_b zq_prog_14_method_58_code_6 11 rfl rfl rfl)
theorem d_Mm_charge_204 : decode prog_14_method_58_code 204 = .ok (.iaload, 1) := zo_46 (zd_b zq_prog_14_method_58_code_6 12 rfl rfl rfl)
theorem d_Mm_charge_205 : decode prog_14_method_58_code 205 = .ok (.ireturn, 1) := zo_172 (zd_b zq_prog_14_method_58_code_6 13 rfl rfl rfl)
theorem d_Mm_charge_149 : decode prog_14_method_58_code 149 = .ok (.aload_n 0, 1) := zo_42 (zd_b zq_prog_14_method_58_code_4 21 rfl rfl rfl)
theorem d_Mm_charge_150 : decode prog_14_method_58_code 150 = .ok (.getfield 65, 3) := zo_180 (d := 0) (e := 65) (zd_b zq_prog_14_method_58_code_4 22 rfl rfl rfl) (zd_b zq_prog_14_method_58_code_4 23 rfl rfl rfl) (zd_b zq_prog_14_method_58_code_4 24 rfl rfl rfl)
theorem fs_Mm_65 : z_fs "IronpourModel" 65 12 19 := ⟨R_Mm, "IronpourModel", F_Mm, 31, rfl, u_Mm, by decide, Or.inl ⟨z_mj7 (i := 102) rfl (by decide +kernel), Or.inl rfl⟩⟩
theorem d_Mm_charge_153 : decode prog_14_method_58_code 153 = .ok (.iload 4, 2) := zo_21 (d := 4) (zd_b zq_prog_14_method_58_code_4 25 rfl rfl rfl) (zd_b zq_prog_14_method_58_code_4 26 rfl rfl rfl)
theorem d_Mm_charge_155 : decode prog_14_method_58_code 155 = .ok (.dup2, 1) := zo_92 (zd_b zq_prog_14_method_58_code_4 27 rfl rfl rfl)
theorem d_Mm_charge_156 : decode prog_14_method_58_code 156 = .ok (.laload, 1) := zo_47 (zd_b zq_prog_14_method_58_code_4 28 rfl rfl rfl)
theorem d_Mm_charge_157 : decode prog_14_method_58_code 157 = .ok (.iload_n 2, 1) := zo_28 (zd_b zq_prog_14_method_58_code_4 29 rfl rfl rfl)
theorem d_Mm_charge_158 : decode prog_14_method_58_code 158 = .ok (.i2l, 1) := zo_133 (zd_b zq_prog_14_method_58_code_4 30 rfl rfl rfl)
theorem d_Mm_charge_159 : decode prog_14_method_58_code 159 = .ok (.iload_n 1, 1) := zo_27 (zd_b zq_prog_14_method_58_code_4 31 rfl rfl rfl)
theorem d_Mm_charge_160 : decode prog_14_method_58_code 160 = .ok (.iload 4, 2) := zo_21 (d := 4) (zd_b zq_prog_14_method_58_code_5 0 rfl rfl rfl) (zd_b zq_prog_14_method_58_code_5 1 rfl rfl rfl)
theorem d_Mm_charge_162 : decode prog_14_method_58_code 162 = .ok (.invokestatic 240, 3) := zo_184 (d := 0) (e := 240) (zd_b zq_prog_14_method_58_code_5 2 rfl rfl rfl) (zd_b zq_prog_14_method_58_code_5 3 rfl rfl rfl) (zd_b zq_prog_14_method_58_code_5 4 rfl rfl rfl)
theorem ok_Mm_charge_Mm_tenths : z_ok M_Mm_charge M_Mm_tenths 2 := ⟨z_mj8 (i := 156) rfl (by decide +kernel), rfl, ⟨by decide +kernel, by decide +kernel, by decide +kernel⟩, ⟨by decide, by decide⟩, z_mj1 (i := 14) rfl (by decide +kernel), rfl⟩
theorem ln_Mm_240 : Cond.methodLink "IronpourModel" 240 M_Mm_tenths.1 ∈ z_gw := z_mj8 (i := 154) rfl (by decide +kernel)
theorem w_st_Mm_tenths : Cond.static M_Mm_tenths.1 ∈ z_gw := z_mj8 (i := 155) rfl (by decide +kernel)
theorem d_Mm_charge_165 : decode prog_14_method_58_code 165 = .ok (.i2l, 1) := zo_133 (zd_b zq_prog_14_method_58_code_5 5 rfl rfl rfl)
theorem d_Mm_charge_166 : decode prog_14_method_58_code 166 = .ok (.lmul, 1) := zo_105 (zd_b zq_prog_14_method_58_code_5 6 rfl rfl rfl)
theorem d_Mm_charge_167 : decode prog_14_method_58_code 167 = .ok (.ldc2_w 244, 3) := zo_20 (d := 0) (e := 244) (zd_b zq_prog_14_method_58_code_5 7 rfl rfl rfl) (zd_b zq_prog_14_method_58_code_5 8 rfl rfl rfl) (zd_b zq_prog_14_method_58_code_5 9 rfl rfl rfl)
theorem ct_Mm_244 : Cond.constantLong "IronpourModel" 244 10 ∈ z_gw := z_mj8 (i := 157) rfl (by decide +kernel)
theorem d_Mm_charge_170 : decode prog_14_method_58_code 170 = .ok (.ldiv, 1) := zo_109 (zd_b zq_prog_14_method_58_code_5 10 rfl rfl rfl)
theorem d_Mm_charge_171 : decode prog_14_method_58_code 171 = .ok (.ladd, 1) := zo_97 (zd_b zq_prog_14_method_58_code_5 11 rfl rfl rfl)
