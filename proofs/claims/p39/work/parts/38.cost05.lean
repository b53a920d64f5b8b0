set_option maxHeartbeats 4000000 in
set_option maxRecDepth 100000 in
theorem L_Mm_leastCostF_119 (g : zG) (m mp mf mh mn mt mz mc_ mq mgr ml mi mr mm mu mk mx : Nat) (th pt cl wa co_ fi bu ho lh mg wd fpi fal : Int32) (po de : Int64) (le mo si pp ps pa : Int32) (hw : ((0 ≤ le ∧ le ≤ 450) ∧ (le ≤ mo ∧ mo ≤ 450) ∧ (0 ≤ si ∧ si ≤ 450) ∧ (1 ≤ pp ∧ pp ≤ 1000) ∧ (1 ≤ ps ∧ ps ≤ 1000) ∧ (1 ≤ pa ∧ pa ≤ 1000))) (hpr : ∀ P A, P + A ≤ 100 → 0 ≤ prS pp ps pa P A) (hs9 : (rcO le mo si pp ps pa (-1, -1, 0, 0) 11).1 < 0) (w0 : zW) (n : Nat) : ∀ (d kd : Nat), kd ≤ 11 → 11 < kd + d → DV g M_Mm_leastCost (fun o cs1 => o = .inl (some (.int 0)) ∧ cs1 = [(m, .inr (12, [.int 2, .ref mp, .int pt, .ref mf, .ref mh, .ref mn, .ref mt, .ref mz, .ref mc_, .ref mq, .ref mgr, .int cl, .int wa, .int co_, .int fi, .int bu, .int ho, .ref ml, .ref mi, .ref mr, .int lh, .int mg, .int wd, .int fpi, .int fal, .ref mm, .ref mu, .ref mk, .ref mx, .long po, .long de]))]) w0 n 119 [(11, .int (pgI kd)), (10, .int ((rcO le mo si pp ps pa (-1, -1, 0, 0) kd).2.2.1)), (9, .int ((rcO le mo si pp ps pa (-1, -1, 0, 0) kd).2.1)), (8, .int ((rcO le mo si pp ps pa (-1, -1, 0, 0) kd).1)), (6, .int pa), (5, .int ps), (4, .int pp), (3, .int si), (2, .int mo), (1, .int le), (0, .ref m)] [] [(m, .inr (12, [.int 0, .ref mp, .int pt, .ref mf, .ref mh, .ref mn, .ref mt, .ref mz, .ref mc_, .ref mq, .ref mgr, .int cl, .int wa, .int co_, .int fi, .int bu, .int ho, .ref ml, .ref mi, .ref mr, .int lh, .int mg, .int wd, .int fpi, .int fal, .ref mm, .ref mu, .ref mk, .ref mx, .long po, .long de]))] 0 0 := by
  intro d
  induction d with
  | zero => intro kd h1 h2 ; exact absurd h2 (by omega)
  | succ d ih =>
    intro kd h1 h2 
    refine r_iload d_Mm_leastCost_119 0 rfl ?_
    refine r_if_lt (tgt := 246) d_Mm_leastCost_121 (by decide) (fun c_121 => ?_) (fun c_121 => ?_)
    · have hk : kd = 11 := (pgI_neg kd (by omega)).mp c_121
      obtain rfl : kd = 11 := hk
      have hok11 := rcO_ok (le := le) (mo := mo) (si := si) hpr (s := (-1, -1, 0, 0)) (Or.inl rfl) 11 (Nat.le_refl _)
      refine r_aload_n d_Mm_leastCost_246 rfl 10 rfl ?_
      refine r_iload d_Mm_leastCost_247 3 rfl ?_
      refine r_iconst d_Mm_leastCost_249 (v := (-1)) (by decide) ?_
      refine r_icmp_ne (tgt := 257) d_Mm_leastCost_250 (by decide) (fun c_250 => ?_) (fun c_250 => ?_)
      · exact absurd (rOk_lt hok11 hs9) c_250
      · refine r_iconst d_Mm_leastCost_253 (v := 1) (by decide) ?_
        refine r_goto (tgt := 258) d_Mm_leastCost_254 (by decide) ?_
        refine r_iconst d_Mm_leastCost_258 (v := 2) (by decide) ?_
        refine r_callV (As := [.int 1, .int 2]) (rest := []) (csC := [(m, .inr (12, [.int 0, .ref mp, .int pt, .ref mf, .ref mh, .ref mn, .ref mt, .ref mz, .ref mc_, .ref mq, .ref mgr, .int cl, .int wa, .int co_, .int fi, .int bu, .int ho, .ref ml, .ref mi, .ref mr, .int lh, .int mg, .int wd, .int fpi, .int fal, .ref mm, .ref mu, .ref mk, .ref mx, .long po, .long de]))]) (is := [0]) (q0 := 0) rfl rfl ln_Mm_103 w_im_Mm_fails w_se_Mm_fails ok_Mm_leastCost_Mm_fails d_Mm_leastCost_259 (C_Mm_fails2 g m mp mf mh mn mt mz mc_ mq mgr ml mi mr mm mu mk mx th pt cl wa co_ fi bu ho lh mg wd fpi fal po de) rfl rfl (Nat.le_of_ble_eq_true rfl) rfl (by decide) (by omega) (by omega) (fun E cs1 hx => ?_) (fun v cs1 hx => ?_)
        · exact absurd hx.1 (by simp)
        · obtain ⟨e1, rfl⟩ := hx
          cases e1
          refine ⟨rfl, ?_⟩
          refine r_st (st2 := [.int 1]) rfl ?_
          refine r_cs (cs2 := [(m, .inr (12, [.int 2, .ref mp, .int pt, .ref mf, .ref mh, .ref mn, .ref mt, .ref mz, .ref mc_, .ref mq, .ref mgr, .int cl, .int wa, .int co_, .int fi, .int bu, .int ho, .ref ml, .ref mi, .ref mr, .int lh, .int mg, .int wd, .int fpi, .int fal, .ref mm, .ref mu, .ref mk, .ref mx, .long po, .long de]))]) rfl ?_
          refine r_if_eq (tgt := 267) d_Mm_leastCost_262 (by decide) (fun c_262 => ?_) (fun c_262 => ?_)
          · exact absurd c_262 (by decide)
          · refine r_iconst d_Mm_leastCost_265 (v := 0) (by decide) ?_
            refine r_iret d_Mm_leastCost_266 rfl rfl ?_
            exact ⟨rfl, rfl⟩
    · have hne : ¬ kd = 11 := fun q => c_121 ((pgI_neg kd (by omega)).mpr q)
      have hk : kd < 11 := by omega
      rw [pgI_n hk]
      refine r_iconst d_Mm_leastCost_124 (v := 0) (by decide) ?_
      refine r_istore (lv' := [(12, .int 0), (11, .int (nI (100 - 10 * kd))), (10, .int ((rcO le mo si pp ps pa (-1, -1, 0, 0) kd).2.2.1)), (9, .int ((rcO le mo si pp ps pa (-1, -1, 0, 0) kd).2.1)), (8, .int ((rcO le mo si pp ps pa (-1, -1, 0, 0) kd).1)), (6, .int pa), (5, .int ps), (4, .int pp), (3, .int si), (2, .int mo), (1, .int le), (0, .ref m)]) d_Mm_leastCost_125 (by decide) rfl ?_
      refine r_lvE (lv2 := [(12, .int (nI 0)), (11, .int (nI (100 - 10 * kd))), (10, .int ((rcR le mo si pp ps pa (100 - 10 * kd) (rcO le mo si pp ps pa (-1, -1, 0, 0) kd) 0).2.2.1)), (9, .int ((rcR le mo si pp ps pa (100 - 10 * kd) (rcO le mo si pp ps pa (-1, -1, 0, 0) kd) 0).2.1)), (8, .int ((rcR le mo si pp ps pa (100 - 10 * kd) (rcO le mo si pp ps pa (-1, -1, 0, 0) kd) 0).1)), (6, .int pa), (5, .int ps), (4, .int pp), (3, .int si), (2, .int mo), (1, .int le), (0, .ref m)]) (rfl) ?_
      refine r_cs (cs2 := [(m, .inr (12, [.int 0, .ref mp, .int pt, .ref mf, .ref mh, .ref mn, .ref mt, .ref mz, .ref mc_, .ref mq, .ref mgr, .int cl, .int wa, .int co_, .int fi, .int bu, .int ho, .ref ml, .ref mi, .ref mr, .int lh, .int mg, .int wd, .int fpi, .int fal, .ref mm, .ref mu, .ref mk, .ref mx, .long po, .long de]))]) (rfl) ?_
      refine L_Mm_leastCostF_127 g m mp mf mh mn mt mz mc_ mq mgr ml mi mr mm mu mk mx th pt cl wa co_ fi bu ho lh mg wd fpi fal po de le mo si pp ps pa hw hpr hs9 w0 _ kd hk (?_) (nA (100 - 10 * kd) + 1) 0 (Nat.zero_le _) (by omega)
      refine r_iinc (lv' := [(11, .int (pgI (kd + 1))), (12, .int (nI (nA (100 - 10 * kd)))), (10, .int ((rcR le mo si pp ps pa (100 - 10 * kd) (rcO le mo si pp ps pa (-1, -1, 0, 0) kd) (nA (100 - 10 * kd))).2.2.1)), (9, .int ((rcR le mo si pp ps pa (100 - 10 * kd) (rcO le mo si pp ps pa (-1, -1, 0, 0) kd) (nA (100 - 10 * kd))).2.1)), (8, .int ((rcR le mo si pp ps pa (100 - 10 * kd) (rcO le mo si pp ps pa (-1, -1, 0, 0) kd) (nA (100 - 10 * kd))).1)), (6, .int pa), (5, .int ps), (4, .int pp), (3, .int si), (2, .int mo), (1, .int le), (0, .ref m)]) (v := pgI (kd + 1)) d_Mm_leastCost_240 (j := 1) rfl (by rw [← pgI_n (by omega)]; exact pgI_s kd (by omega)) (by decide) rfl ?_
      refine r_goto (tgt := 119) d_Mm_leastCost_243 (by decide) ?_
      refine r_lv (lv' := [(11, .int (pgI (kd + 1))), (10, .int ((rcR le mo si pp ps pa (100 - 10 * kd) (rcO le mo si pp ps pa (-1, -1, 0, 0) kd) (nA (100 - 10 * kd))).2.2.1)), (9, .int ((rcR le mo si pp ps pa (100 - 10 * kd) (rcO le mo si pp ps pa (-1, -1, 0, 0) kd) (nA (100 - 10 * kd))).2.1)), (8, .int ((rcR le mo si pp ps pa (100 - 10 * kd) (rcO le mo si pp ps pa (-1, -1, 0, 0) kd) (nA (100 - 10 * kd))).1)), (6, .int pa), (5, .int ps), (4, .int pp), (3, .int si), (2, .int mo), (1, .int le), (0, .ref m)]) [0, 2, 3, 4, 5, 6, 7, 8, 9, 10, 11] rfl ?_
      refine r_lvE (lv2 := [(11, .int (pgI (kd + 1))), (10, .int ((rcO le mo si pp ps pa (-1, -1, 0, 0) (kd + 1)).2.2.1)), (9, .int ((rcO le mo si pp ps pa (-1, -1, 0, 0) (kd + 1)).2.1)), (8, .int ((rcO le mo si pp ps pa (-1, -1, 0, 0) (kd + 1)).1)), (6, .int pa), (5, .int ps), (4, .int pp), (3, .int si), (2, .int mo), (1, .int le), (0, .ref m)]) (rfl) ?_
      refine r_cs (cs2 := [(m, .inr (12, [.int 0, .ref mp, .int pt, .ref mf, .ref mh, .ref mn, .ref mt, .ref mz, .ref mc_, .ref mq, .ref mgr, .int cl, .int wa, .int co_, .int fi, .int bu, .int ho, .ref ml, .ref mi, .ref mr, .int lh, .int mg, .int wd, .int fpi, .int fal, .ref mm, .ref mu, .ref mk, .ref mx, .long po, .long de]))]) (rfl) ?_
      exact ih (kd + 1) (by omega) (by omega)
set_option maxHeartbeats 4000000 in
set_option maxRecDepth 100000 in
theorem C_Mm_leastCostF (g : zG) (m mp mf mh mn mt mz mc_ mq mgr ml mi mr mm mu mk mx : Nat) (th pt cl wa co_ fi bu ho lh mg wd fpi fal : Int32) (po de : Int64) (le mo si pp ps pa : Int32) (hw : ((0 ≤ le ∧ le ≤ 450) ∧ (le ≤ mo ∧ mo ≤ 450) ∧ (0 ≤ si ∧ si ≤ 450) ∧ (1 ≤ pp ∧ pp ≤ 1000) ∧ (1 ≤ ps ∧ ps ≤ 1000) ∧ (1 ≤ pa ∧ pa ≤ 1000))) (hpr : ∀ P A, P + A ≤ 100 → 0 ≤ prS pp ps pa P A) (hs9 : (rcO le mo si pp ps pa (-1, -1, 0, 0) 11).1 < 0) : CT g M_Mm_leastCost [.ref m, .int le, .int mo, .int si, .int pp, .int ps, .int pa] [(m, .inr (12, [.int th, .ref mp, .int pt, .ref mf, .ref mh, .ref mn, .ref mt, .ref mz, .ref mc_, .ref mq, .ref mgr, .int cl, .int wa, .int co_, .int fi, .int bu, .int ho, .ref ml, .ref mi, .ref mr, .int lh, .int mg, .int wd, .int fpi, .int fal, .ref mm, .ref mu, .ref mk, .ref mx, .long po, .long de]))] (fun o cs1 => o = .inl (some (.int 0)) ∧ cs1 = [(m, .inr (12, [.int 2, .ref mp, .int pt, .ref mf, .ref mh, .ref mn, .ref mt, .ref mz, .ref mc_, .ref mq, .ref mgr, .int cl, .int wa, .int co_, .int fi, .int bu, .int ho, .ref ml, .ref mi, .ref mr, .int lh, .int mg, .int wd, .int fpi, .int fal, .ref mm, .ref mu, .ref mk, .ref mx, .long po, .long de]))]) 0 0 := by
  refine z_of (by decide) rfl (Nat.le_of_ble_eq_true rfl) (fun w0 => ?_)
  refine r_lvE (lv2 := [(0, .ref m), (1, .int le), (2, .int mo), (3, .int si), (4, .int pp), (5, .int ps), (6, .int pa)]) rfl ?_
  refine r_aload_n d_Mm_leastCost_0 rfl 0 rfl ?_
  refine r_iconst d_Mm_leastCost_1 (v := 0) (by decide) ?_
  refine r_put fp_Mm_84 d_Mm_leastCost_2 (fun h => nomatch h) rfl rfl (q0 := 0) rfl (Nat.le_of_ble_eq_true rfl) (cs' := [(m, .inr (12, [.int 0, .ref mp, .int pt, .ref mf, .ref mh, .ref mn, .ref mt, .ref mz, .ref mc_, .ref mq, .ref mgr, .int cl, .int wa, .int co_, .int fi, .int bu, .int ho, .ref ml, .ref mi, .ref mr, .int lh, .int mg, .int wd, .int fpi, .int fal, .ref mm, .ref mu, .ref mk, .ref mx, .long po, .long de]))]) rfl ?_
  refine r_iload_n d_Mm_leastCost_5 rfl 1 rfl ?_
  refine r_iconst d_Mm_leastCost_6 (v := 0) (by decide) ?_
  refine r_sipush d_Mm_leastCost_7 (v := 450) (by decide) ?_
  refine r_callS (As := [.int le, .int 0, .int 450]) (rest := []) (csC := []) (is := []) ln_Mm_87 w_st_Mm_in ok_Mm_leastCost_Mm_in d_Mm_leastCost_10 (C_Mm_in g le 0 450) rfl rfl (Nat.le_of_ble_eq_true rfl) rfl (by decide) (by omega) (by omega) (fun E cs1 hx => ?_) (fun v cs1 hx => ?_)
  · exact absurd hx.1 (by simp)
  · obtain ⟨e1, rfl⟩ := hx
    rw [if_pos hw.1] at e1
    cases e1
    refine ⟨rfl, ?_⟩
    refine r_st (st2 := [.int 1]) rfl ?_
    refine r_cs (cs2 := [(m, .inr (12, [.int 0, .ref mp, .int pt, .ref mf, .ref mh, .ref mn, .ref mt, .ref mz, .ref mc_, .ref mq, .ref mgr, .int cl, .int wa, .int co_, .int fi, .int bu, .int ho, .ref ml, .ref mi, .ref mr, .int lh, .int mg, .int wd, .int fpi, .int fal, .ref mm, .ref mu, .ref mk, .ref mx, .long po, .long de]))]) rfl ?_
    refine r_if_eq (tgt := 47) d_Mm_leastCost_13 (by decide) (fun c_13 => ?_) (fun c_13 => ?_)
    · exact absurd c_13 (by decide)
    · refine r_iload_n d_Mm_leastCost_16 rfl 2 rfl ?_
      refine r_iconst d_Mm_leastCost_17 (v := 0) (by decide) ?_
      refine r_sipush d_Mm_leastCost_18 (v := 450) (by decide) ?_
      refine r_callS (As := [.int mo, .int 0, .int 450]) (rest := []) (csC := []) (is := []) ln_Mm_87 w_st_Mm_in ok_Mm_leastCost_Mm_in d_Mm_leastCost_21 (C_Mm_in g mo 0 450) rfl rfl (Nat.le_of_ble_eq_true rfl) rfl (by decide) (by omega) (by omega) (fun E cs1 hx => ?_) (fun v cs1 hx => ?_)
      · exact absurd hx.1 (by simp)
      · obtain ⟨e1, rfl⟩ := hx
        rw [if_pos ⟨Int32.le_trans hw.1.1 hw.2.1.1, hw.2.1.2⟩] at e1
        cases e1
        refine ⟨rfl, ?_⟩
        refine r_st (st2 := [.int 1]) rfl ?_
        refine r_cs (cs2 := [(m, .inr (12, [.int 0, .ref mp, .int pt, .ref mf, .ref mh, .ref mn, .ref mt, .ref mz, .ref mc_, .ref mq, .ref mgr, .int cl, .int wa, .int co_, .int fi, .int bu, .int ho, .ref ml, .ref mi, .ref mr, .int lh, .int mg, .int wd, .int fpi, .int fal, .ref mm, .ref mu, .ref mk, .ref mx, .long po, .long de]))]) rfl ?_
        refine r_if_eq (tgt := 47) d_Mm_leastCost_24 (by decide) (fun c_24 => ?_) (fun c_24 => ?_)
        · exact absurd c_24 (by decide)
        · refine r_iload_n d_Mm_leastCost_27 rfl 3 rfl ?_
          refine r_iconst d_Mm_leastCost_28 (v := 0) (by decide) ?_
          refine r_sipush d_Mm_leastCost_29 (v := 450) (by decide) ?_
          refine r_callS (As := [.int si, .int 0, .int 450]) (rest := []) (csC := []) (is := []) ln_Mm_87 w_st_Mm_in ok_Mm_leastCost_Mm_in d_Mm_leastCost_32 (C_Mm_in g si 0 450) rfl rfl (Nat.le_of_ble_eq_true rfl) rfl (by decide) (by omega) (by omega) (fun E cs1 hx => ?_) (fun v cs1 hx => ?_)
          · exact absurd hx.1 (by simp)
          · obtain ⟨e1, rfl⟩ := hx
            rw [if_pos hw.2.2.1] at e1
            cases e1
            refine ⟨rfl, ?_⟩
            refine r_st (st2 := [.int 1]) rfl ?_
            refine r_cs (cs2 := [(m, .inr (12, [.int 0, .ref mp, .int pt, .ref mf, .ref mh, .ref mn, .ref mt, .ref mz, .ref mc_, .ref mq, .ref mgr, .int cl, .int wa, .int co_, .int fi, .int bu, .int ho, .ref ml, .ref mi, .ref mr, .int lh, .int mg, .int wd, .int fpi, .int fal, .ref mm, .ref mu, .ref mk, .ref mx, .long po, .long de]))]) rfl ?_
            refine r_if_eq (tgt := 47) d_Mm_leastCost_35 (by decide) (fun c_35 => ?_) (fun c_35 => ?_)
            · exact absurd c_35 (by decide)
            · refine r_iload_n d_Mm_leastCost_38 rfl 2 rfl ?_
              refine r_iload_n d_Mm_leastCost_39 rfl 1 rfl ?_
              refine r_icmp_lt (tgt := 47) d_Mm_leastCost_40 (by decide) (fun c_40 => ?_) (fun c_40 => ?_)
              · exact absurd hw.2.1.1 (Int32.not_le.mpr c_40)
              · refine r_iconst d_Mm_leastCost_43 (v := 1) (by decide) ?_
                refine r_goto (tgt := 48) d_Mm_leastCost_44 (by decide) ?_
                refine r_istore (lv' := [(7, .int 1), (0, .ref m), (1, .int le), (2, .int mo), (3, .int si), (4, .int pp), (5, .int ps), (6, .int pa)]) d_Mm_leastCost_48 (by decide) rfl ?_
                refine r_aload_n d_Mm_leastCost_50 rfl 1 rfl ?_
                refine r_iload d_Mm_leastCost_51 0 rfl ?_
                refine r_if_eq (tgt := 92) d_Mm_leastCost_53 (by decide) (fun c_53 => ?_) (fun c_53 => ?_)
                · exact absurd c_53 (by decide)
                · refine r_iload d_Mm_leastCost_56 5 rfl ?_
                  refine r_iconst d_Mm_leastCost_58 (v := 1) (by decide) ?_
                  refine r_sipush d_Mm_leastCost_59 (v := 1000) (by decide) ?_
                  refine r_callS (As := [.int pp, .int 1, .int 1000]) (rest := [.ref m]) (csC := []) (is := []) ln_Mm_87 w_st_Mm_in ok_Mm_leastCost_Mm_in d_Mm_leastCost_62 (C_Mm_in g pp 1 1000) rfl rfl (Nat.le_of_ble_eq_true rfl) rfl (by decide) (by omega) (by omega) (fun E cs1 hx => ?_) (fun v cs1 hx => ?_)
                  · exact absurd hx.1 (by simp)
                  · obtain ⟨e1, rfl⟩ := hx
                    rw [if_pos hw.2.2.2.1] at e1
                    cases e1
                    refine ⟨rfl, ?_⟩
                    refine r_st (st2 := [.int 1, .ref m]) rfl ?_
                    refine r_cs (cs2 := [(m, .inr (12, [.int 0, .ref mp, .int pt, .ref mf, .ref mh, .ref mn, .ref mt, .ref mz, .ref mc_, .ref mq, .ref mgr, .int cl, .int wa, .int co_, .int fi, .int bu, .int ho, .ref ml, .ref mi, .ref mr, .int lh, .int mg, .int wd, .int fpi, .int fal, .ref mm, .ref mu, .ref mk, .ref mx, .long po, .long de]))]) rfl ?_
                    refine r_if_eq (tgt := 92) d_Mm_leastCost_65 (by decide) (fun c_65 => ?_) (fun c_65 => ?_)
                    · exact absurd c_65 (by decide)
                    · refine r_iload d_Mm_leastCost_68 6 rfl ?_
                      refine r_iconst d_Mm_leastCost_70 (v := 1) (by decide) ?_
                      refine r_sipush d_Mm_leastCost_71 (v := 1000) (by decide) ?_
                      refine r_callS (As := [.int ps, .int 1, .int 1000]) (rest := [.ref m]) (csC := []) (is := []) ln_Mm_87 w_st_Mm_in ok_Mm_leastCost_Mm_in d_Mm_leastCost_74 (C_Mm_in g ps 1 1000) rfl rfl (Nat.le_of_ble_eq_true rfl) rfl (by decide) (by omega) (by omega) (fun E cs1 hx => ?_) (fun v cs1 hx => ?_)
                      · exact absurd hx.1 (by simp)
                      · obtain ⟨e1, rfl⟩ := hx
                        rw [if_pos hw.2.2.2.2.1] at e1
                        cases e1
                        refine ⟨rfl, ?_⟩
                        refine r_st (st2 := [.int 1, .ref m]) rfl ?_
                        refine r_cs (cs2 := [(m, .inr (12, [.int 0, .ref mp, .int pt, .ref mf, .ref mh, .ref mn, .ref mt, .ref mz, .ref mc_, .ref mq, .ref mgr, .int cl, .int wa, .int co_, .int fi, .int bu, .int ho, .ref ml, .ref mi, .ref mr, .int lh, .int mg, .int wd, .int fpi, .int fal, .ref mm, .ref mu, .ref mk, .ref mx, .long po, .long de]))]) rfl ?_
                        refine r_if_eq (tgt := 92) d_Mm_leastCost_77 (by decide) (fun c_77 => ?_) (fun c_77 => ?_)
                        · exact absurd c_77 (by decide)
                        · refine r_iload d_Mm_leastCost_80 7 rfl ?_
                          refine r_iconst d_Mm_leastCost_82 (v := 1) (by decide) ?_
                          refine r_sipush d_Mm_leastCost_83 (v := 1000) (by decide) ?_
                          refine r_callS (As := [.int pa, .int 1, .int 1000]) (rest := [.ref m]) (csC := []) (is := []) ln_Mm_87 w_st_Mm_in ok_Mm_leastCost_Mm_in d_Mm_leastCost_86 (C_Mm_in g pa 1 1000) rfl rfl (Nat.le_of_ble_eq_true rfl) rfl (by decide) (by omega) (by omega) (fun E cs1 hx => ?_) (fun v cs1 hx => ?_)
                          · exact absurd hx.1 (by simp)
                          · obtain ⟨e1, rfl⟩ := hx
                            rw [if_pos hw.2.2.2.2.2] at e1
                            cases e1
                            refine ⟨rfl, ?_⟩
                            refine r_st (st2 := [.int 1, .ref m]) rfl ?_
                            refine r_cs (cs2 := [(m, .inr (12, [.int 0, .ref mp, .int pt, .ref mf, .ref mh, .ref mn, .ref mt, .ref mz, .ref mc_, .ref mq, .ref mgr, .int cl, .int wa, .int co_, .int fi, .int bu, .int ho, .ref ml, .ref mi, .ref mr, .int lh, .int mg, .int wd, .int fpi, .int fal, .ref mm, .ref mu, .ref mk, .ref mx, .long po, .long de]))]) rfl ?_
                            refine r_if_ne (tgt := 96) d_Mm_leastCost_89 (by decide) (fun c_89 => ?_) (fun c_89 => ?_)
                            · refine r_iconst d_Mm_leastCost_96 (v := 0) (by decide) ?_
                              refine r_iconst d_Mm_leastCost_97 (v := 1) (by decide) ?_
                              refine r_callV (As := [.int 0, .int 1]) (rest := []) (csC := [(m, .inr (12, [.int 0, .ref mp, .int pt, .ref mf, .ref mh, .ref mn, .ref mt, .ref mz, .ref mc_, .ref mq, .ref mgr, .int cl, .int wa, .int co_, .int fi, .int bu, .int ho, .ref ml, .ref mi, .ref mr, .int lh, .int mg, .int wd, .int fpi, .int fal, .ref mm, .ref mu, .ref mk, .ref mx, .long po, .long de]))]) (is := [0]) (q0 := 0) rfl rfl ln_Mm_103 w_im_Mm_fails w_se_Mm_fails ok_Mm_leastCost_Mm_fails d_Mm_leastCost_98 (C_Mm_fails0 g m mp mf mh mn mt mz mc_ mq mgr ml mi mr mm mu mk mx th pt cl wa co_ fi bu ho lh mg wd fpi fal po de 1) rfl rfl (Nat.le_of_ble_eq_true rfl) rfl (by decide) (by omega) (by omega) (fun E cs1 hx => ?_) (fun v cs1 hx => ?_)
                              · exact absurd hx.1 (by simp)
                              · obtain ⟨e1, rfl⟩ := hx
                                cases e1
                                refine ⟨rfl, ?_⟩
                                refine r_st (st2 := [.int 0]) rfl ?_
                                refine r_cs (cs2 := [(m, .inr (12, [.int 0, .ref mp, .int pt, .ref mf, .ref mh, .ref mn, .ref mt, .ref mz, .ref mc_, .ref mq, .ref mgr, .int cl, .int wa, .int co_, .int fi, .int bu, .int ho, .ref ml, .ref mi, .ref mr, .int lh, .int mg, .int wd, .int fpi, .int fal, .ref mm, .ref mu, .ref mk, .ref mx, .long po, .long de]))]) rfl ?_
                                refine r_if_eq (tgt := 106) d_Mm_leastCost_101 (by decide) (fun c_101 => ?_) (fun c_101 => ?_)
                                · refine r_iconst d_Mm_leastCost_106 (v := (-1)) (by decide) ?_
                                  refine r_istore (lv' := [(8, .int (-1)), (7, .int 1), (0, .ref m), (1, .int le), (2, .int mo), (3, .int si), (4, .int pp), (5, .int ps), (6, .int pa)]) d_Mm_leastCost_107 (by decide) rfl ?_
                                  refine r_iconst d_Mm_leastCost_109 (v := (-1)) (by decide) ?_
                                  refine r_istore (lv' := [(9, .int (-1)), (8, .int (-1)), (7, .int 1), (0, .ref m), (1, .int le), (2, .int mo), (3, .int si), (4, .int pp), (5, .int ps), (6, .int pa)]) d_Mm_leastCost_110 (by decide) rfl ?_
                                  refine r_iconst d_Mm_leastCost_112 (v := 0) (by decide) ?_
                                  refine r_istore (lv' := [(10, .int 0), (9, .int (-1)), (8, .int (-1)), (7, .int 1), (0, .ref m), (1, .int le), (2, .int mo), (3, .int si), (4, .int pp), (5, .int ps), (6, .int pa)]) d_Mm_leastCost_113 (by decide) rfl ?_
                                  refine r_bipush d_Mm_leastCost_115 (v := 100) (by decide) ?_
                                  refine r_istore (lv' := [(11, .int 100), (10, .int 0), (9, .int (-1)), (8, .int (-1)), (7, .int 1), (0, .ref m), (1, .int le), (2, .int mo), (3, .int si), (4, .int pp), (5, .int ps), (6, .int pa)]) d_Mm_leastCost_117 (by decide) rfl ?_
                                  refine r_lv (lv' := [(11, .int 100), (10, .int 0), (9, .int (-1)), (8, .int (-1)), (6, .int pa), (5, .int ps), (4, .int pp), (3, .int si), (2, .int mo), (1, .int le), (0, .ref m)]) [0, 1, 2, 3, 11, 10, 9, 8, 7, 6, 5] rfl ?_
                                  refine r_lvE (lv2 := [(11, .int (pgI 0)), (10, .int ((rcO le mo si pp ps pa (-1, -1, 0, 0) 0).2.2.1)), (9, .int ((rcO le mo si pp ps pa (-1, -1, 0, 0) 0).2.1)), (8, .int ((rcO le mo si pp ps pa (-1, -1, 0, 0) 0).1)), (6, .int pa), (5, .int ps), (4, .int pp), (3, .int si), (2, .int mo), (1, .int le), (0, .ref m)]) (rfl) ?_
                                  refine r_cs (cs2 := [(m, .inr (12, [.int 0, .ref mp, .int pt, .ref mf, .ref mh, .ref mn, .ref mt, .ref mz, .ref mc_, .ref mq, .ref mgr, .int cl, .int wa, .int co_, .int fi, .int bu, .int ho, .ref ml, .ref mi, .ref mr, .int lh, .int mg, .int wd, .int fpi, .int fal, .ref mm, .ref mu, .ref mk, .ref mx, .long po, .long de]))]) (rfl) ?_
                                  exact L_Mm_leastCostF_119 g m mp mf mh mn mt mz mc_ mq mgr ml mi mr mm mu mk mx th pt cl wa co_ fi bu ho lh mg wd fpi fal po de le mo si pp ps pa hw hpr hs9 w0 _  (11 + 1) 0 (Nat.zero_le _) (by omega)
                                · exact absurd c_101 (by decide)
                            · exact absurd c_89 (by decide)
theorem d_Mm_leastCost_257 : decode prog_14_method_71_code 257 = .ok (.iconst 0, 1) := zo_3 (zd_b zq_prog_14_method_71_code_8 1 rfl rfl rfl)
theorem d_Mm_leastCost_267 : decode prog_14_method_71_code 267 = .ok (.aload_n 0, 1) := zo_42 (zd_b zq_prog_14_method_71_code_8 11 rfl rfl rfl)
theorem d_Mm_leastCost_268 : decode prog_14_method_71_code 268 = .ok (.iload 9, 2) := zo_21 (d := 9) (zd_b zq_prog_14_method_71_code_8 12 rfl rfl rfl) (zd_b zq_prog_14_method_71_code_8 13 rfl rfl rfl)
theorem d_Mm_leastCost_270 : decode prog_14_method_71_code 270 = .ok (.putfield 69, 3) := zo_181 (d := 0) (e := 69) (zd_b zq_prog_14_method_71_code_8 14 rfl rfl rfl) (zd_b zq_prog_14_method_71_code_8 15 rfl rfl rfl) (zd_b zq_prog_14_method_71_code_8 16 rfl rfl rfl)
theorem d_Mm_leastCost_273 : decode prog_14_method_71_code 273 = .ok (.aload_n 0, 1) := zo_42 (zd_b zq_prog_14_method_71_code_8 17 rfl rfl rfl)
theorem d_Mm_leastCost_274 : decode prog_14_method_71_code 274 = .ok (.iload 10, 2) := zo_21 (d := 10) (zd_b zq_prog_14_method_71_code_8 18 rfl rfl rfl) (zd_b zq_prog_14_method_71_code_8 19 rfl rfl rfl)
theorem d_Mm_leastCost_276 : decode prog_14_method_71_code 276 = .ok (.putfield 276, 3) := zo_181 (d := 1) (e := 20) (zd_b zq_prog_14_method_71_code_8 20 rfl rfl rfl) (zd_b zq_prog_14_method_71_code_8 21 rfl rfl rfl) (zd_b zq_prog_14_method_71_code_8 22 rfl rfl rfl)
theorem fp_Mm_276 : z_fp "IronpourModel" 276 12 24 false .int := ⟨R_Mm, "IronpourModel", F_Mm, 31, t_Mm, rfl, u_Mm, by decide, t_Mm_ok, n_Mm, rfl, rfl, Or.inl ⟨z_mj7 (i := 107) rfl (by decide +kernel), Or.inl rfl, fun h => nomatch h⟩⟩
theorem d_Mm_leastCost_279 : decode prog_14_method_71_code 279 = .ok (.iload 8, 2) := zo_21 (d := 8) (zd_b zq_prog_14_method_71_code_8 23 rfl rfl rfl) (zd_b zq_prog_14_method_71_code_8 24 rfl rfl rfl)
theorem d_Mm_leastCost_281 : decode prog_14_method_71_code 281 = .ok (.ireturn, 1) := zo_172 (zd_b zq_prog_14_method_71_code_8 25 rfl rfl rfl)
