set_option maxHeartbeats 4000000 in
set_option maxRecDepth 100000 in
theorem C_Mm_charge112N (g : zG) (m mp mf mh mn mt mz mc_ mq mgr ml mi mr mm mu mk mx : Nat) (th pt cl wa co_ fi bu ho lh mg wd fpi fal : Int32) (po de : Int64) (ir : Nat → Int32) (gr : Nat → Int64) (m1 : Int32) (hw : (1 ≤ m1 ∧ m1 ≤ 1000)) (hg3 : ¬ 3000 < ir 0 + m1) : CT g M_Mm_charge [.ref m, .int 112, .int m1] [(m, .inr (12, [.int th, .ref mp, .int pt, .ref mf, .ref mh, .ref mn, .ref mt, .ref mz, .ref mc_, .ref mq, .ref mgr, .int cl, .int wa, .int co_, .int fi, .int bu, .int ho, .ref ml, .ref mi, .ref mr, .int lh, .int mg, .int wd, .int fpi, .int fal, .ref mm, .ref mu, .ref mk, .ref mx, .long po, .long de])), (mi, .inl (0, 4, .inl ir)), (mr, .inl (3, 16, .inr (.inl gr)))] (fun o cs1 => o = .inl (some (.int (ir 0 + m1))) ∧ cs1 = [(m, .inr (12, [.int 0, .ref mp, .int pt, .ref mf, .ref mh, .ref mn, .ref mt, .ref mz, .ref mc_, .ref mq, .ref mgr, .int cl, .int wa, .int co_, .int fi, .int bu, .int ho, .ref ml, .ref mi, .ref mr, .int lh, .int mg, .int wd, .int fpi, .int fal, .ref mm, .ref mu, .ref mk, .ref mx, .long po, .long de])), (mi, .inl (0, 4, .inl (upd ir 0 (ir 0 + m1)))), (mr, .inl (3, 16, .inr (.inl (lfd gr (fun e => chS m1 0 e / 10) 4))))]) 0 0 := by
  refine z_of (by decide) rfl (Nat.le_of_ble_eq_true rfl) (fun w0 => ?_)
  refine r_lvE (lv2 := [(0, .ref m), (1, .int 112), (2, .int m1)]) rfl ?_
  refine r_aload_n d_Mm_charge_0 rfl 0 rfl ?_
  refine r_iconst d_Mm_charge_1 (v := 0) (by decide) ?_
  refine r_put fp_Mm_84 d_Mm_charge_2 (fun h => nomatch h) rfl rfl (q0 := 0) rfl (Nat.le_of_ble_eq_true rfl) (cs' := [(m, .inr (12, [.int 0, .ref mp, .int pt, .ref mf, .ref mh, .ref mn, .ref mt, .ref mz, .ref mc_, .ref mq, .ref mgr, .int cl, .int wa, .int co_, .int fi, .int bu, .int ho, .ref ml, .ref mi, .ref mr, .int lh, .int mg, .int wd, .int fpi, .int fal, .ref mm, .ref mu, .ref mk, .ref mx, .long po, .long de])), (mi, .inl (0, 4, .inl ir)), (mr, .inl (3, 16, .inr (.inl gr)))]) rfl ?_
  refine r_iload_n d_Mm_charge_5 rfl 1 rfl ?_
  refine r_bipush d_Mm_charge_6 (v := 103) (by decide) ?_
  refine r_icmp_ne (tgt := 15) d_Mm_charge_8 (by decide) (fun c_8 => ?_) (fun c_8 => ?_)
  · refine r_iload_n d_Mm_charge_15 rfl 1 rfl ?_
    refine r_bipush d_Mm_charge_16 (v := 100) (by decide) ?_
    refine r_icmp_ne (tgt := 25) d_Mm_charge_18 (by decide) (fun c_18 => ?_) (fun c_18 => ?_)
    · refine r_iconst d_Mm_charge_25 (v := (-1)) (by decide) ?_
      refine r_istore_n (lv' := [(3, .int (-1)), (0, .ref m), (1, .int 112), (2, .int m1)]) d_Mm_charge_26 rfl (by decide) rfl ?_
      refine r_aload_n d_Mm_charge_27 rfl 1 rfl ?_
      refine r_ldcS (own := "IronpourModel") (i := 1) (by decide) d_Mm_charge_28 ?_
      refine r_iload_n d_Mm_charge_30 rfl 2 rfl ?_
      refine r_callVS (As := [.int 112]) (rest := [.ref m]) (csC := []) (is := []) (i := 1) (by first | assumption | decide) rfl ln_Mm_97 w_im_String_indexOf_0 w_se_String_indexOf_0 ok_Mm_charge_String_indexOf_0 d_Mm_charge_31 (C_St_indexOf g 1 (by decide) 112) rfl rfl (Nat.le_of_ble_eq_true rfl) rfl (by decide) (by omega) (by omega) (fun E cs1 hx => ?_) (fun v cs1 hx => ?_)
      · exact absurd hx.1 (by simp)
      · obtain ⟨e1, rfl⟩ := hx
        cases e1
        refine ⟨rfl, ?_⟩
        refine r_st (st2 := [.int (z_ix 1 112), .ref m]) rfl ?_
        refine r_cs (cs2 := [(m, .inr (12, [.int 0, .ref mp, .int pt, .ref mf, .ref mh, .ref mn, .ref mt, .ref mz, .ref mc_, .ref mq, .ref mgr, .int cl, .int wa, .int co_, .int fi, .int bu, .int ho, .ref ml, .ref mi, .ref mr, .int lh, .int mg, .int wd, .int fpi, .int fal, .ref mm, .ref mu, .ref mk, .ref mx, .long po, .long de])), (mi, .inl (0, 4, .inl ir)), (mr, .inl (3, 16, .inr (.inl gr)))]) rfl ?_
        refine r_if_lt (tgt := 48) d_Mm_charge_34 (by decide) (fun c_34 => ?_) (fun c_34 => ?_)
        · exact absurd c_34 (by decide)
        · refine r_iload_n d_Mm_charge_37 rfl 3 rfl ?_
          refine r_iconst d_Mm_charge_38 (v := 1) (by decide) ?_
          refine r_sipush d_Mm_charge_39 (v := 1000) (by decide) ?_
          refine r_callS (As := [.int m1, .int 1, .int 1000]) (rest := [.ref m]) (csC := []) (is := []) ln_Mm_87 w_st_Mm_in ok_Mm_charge_Mm_in d_Mm_charge_42 (C_Mm_in g m1 1 1000) rfl rfl (Nat.le_of_ble_eq_true rfl) rfl (by decide) (by omega) (by omega) (fun E cs1 hx => ?_) (fun v cs1 hx => ?_)
          · exact absurd hx.1 (by simp)
          · obtain ⟨e1, rfl⟩ := hx
            rw [if_pos hw] at e1
            cases e1
            refine ⟨rfl, ?_⟩
            refine r_st (st2 := [.int 1, .ref m]) rfl ?_
            refine r_cs (cs2 := [(m, .inr (12, [.int 0, .ref mp, .int pt, .ref mf, .ref mh, .ref mn, .ref mt, .ref mz, .ref mc_, .ref mq, .ref mgr, .int cl, .int wa, .int co_, .int fi, .int bu, .int ho, .ref ml, .ref mi, .ref mr, .int lh, .int mg, .int wd, .int fpi, .int fal, .ref mm, .ref mu, .ref mk, .ref mx, .long po, .long de])), (mi, .inl (0, 4, .inl ir)), (mr, .inl (3, 16, .inr (.inl gr)))]) rfl ?_
            refine r_if_ne (tgt := 52) d_Mm_charge_45 (by decide) (fun c_45 => ?_) (fun c_45 => ?_)
            · refine r_iconst d_Mm_charge_52 (v := 0) (by decide) ?_
              refine r_iconst d_Mm_charge_53 (v := 1) (by decide) ?_
              refine r_callV (As := [.int 0, .int 1]) (rest := []) (csC := [(m, .inr (12, [.int 0, .ref mp, .int pt, .ref mf, .ref mh, .ref mn, .ref mt, .ref mz, .ref mc_, .ref mq, .ref mgr, .int cl, .int wa, .int co_, .int fi, .int bu, .int ho, .ref ml, .ref mi, .ref mr, .int lh, .int mg, .int wd, .int fpi, .int fal, .ref mm, .ref mu, .ref mk, .ref mx, .long po, .long de]))]) (is := [0]) (q0 := 0) rfl rfl ln_Mm_103 w_im_Mm_fails w_se_Mm_fails ok_Mm_charge_Mm_fails d_Mm_charge_54 (C_Mm_fails0 g m mp mf mh mn mt mz mc_ mq mgr ml mi mr mm mu mk mx th pt cl wa co_ fi bu ho lh mg wd fpi fal po de 1) rfl rfl (Nat.le_of_ble_eq_true rfl) rfl (by decide) (by omega) (by omega) (fun E cs1 hx => ?_) (fun v cs1 hx => ?_)
              · exact absurd hx.1 (by simp)
              · obtain ⟨e1, rfl⟩ := hx
                cases e1
                refine ⟨rfl, ?_⟩
                refine r_st (st2 := [.int 0]) rfl ?_
                refine r_cs (cs2 := [(m, .inr (12, [.int 0, .ref mp, .int pt, .ref mf, .ref mh, .ref mn, .ref mt, .ref mz, .ref mc_, .ref mq, .ref mgr, .int cl, .int wa, .int co_, .int fi, .int bu, .int ho, .ref ml, .ref mi, .ref mr, .int lh, .int mg, .int wd, .int fpi, .int fal, .ref mm, .ref mu, .ref mk, .ref mx, .long po, .long de])), (mi, .inl (0, 4, .inl ir)), (mr, .inl (3, 16, .inr (.inl gr)))]) rfl ?_
                refine r_if_ne (tgt := 88) d_Mm_charge_57 (by decide) (fun c_57 => ?_) (fun c_57 => ?_)
                · exact absurd c_57 (by decide)
                · refine r_aload_n d_Mm_charge_60 rfl 1 rfl ?_
                  refine r_iload_n d_Mm_charge_61 rfl 0 rfl ?_
                  refine r_iconst d_Mm_charge_62 (v := (-1)) (by decide) ?_
                  refine r_icmp_eq (tgt := 80) d_Mm_charge_63 (by decide) (fun c_63 => ?_) (fun c_63 => ?_)
                  · refine r_iconst d_Mm_charge_80 (v := 0) (by decide) ?_
                    refine r_iconst d_Mm_charge_81 (v := 2) (by decide) ?_
                    refine r_callV (As := [.int 0, .int 2]) (rest := []) (csC := [(m, .inr (12, [.int 0, .ref mp, .int pt, .ref mf, .ref mh, .ref mn, .ref mt, .ref mz, .ref mc_, .ref mq, .ref mgr, .int cl, .int wa, .int co_, .int fi, .int bu, .int ho, .ref ml, .ref mi, .ref mr, .int lh, .int mg, .int wd, .int fpi, .int fal, .ref mm, .ref mu, .ref mk, .ref mx, .long po, .long de]))]) (is := [0]) (q0 := 0) rfl rfl ln_Mm_103 w_im_Mm_fails w_se_Mm_fails ok_Mm_charge_Mm_fails d_Mm_charge_82 (C_Mm_fails0 g m mp mf mh mn mt mz mc_ mq mgr ml mi mr mm mu mk mx th pt cl wa co_ fi bu ho lh mg wd fpi fal po de 2) rfl rfl (Nat.le_of_ble_eq_true rfl) rfl (by decide) (by omega) (by omega) (fun E cs1 hx => ?_) (fun v cs1 hx => ?_)
                    · exact absurd hx.1 (by simp)
                    · obtain ⟨e1, rfl⟩ := hx
                      cases e1
                      refine ⟨rfl, ?_⟩
                      refine r_st (st2 := [.int 0]) rfl ?_
                      refine r_cs (cs2 := [(m, .inr (12, [.int 0, .ref mp, .int pt, .ref mf, .ref mh, .ref mn, .ref mt, .ref mz, .ref mc_, .ref mq, .ref mgr, .int cl, .int wa, .int co_, .int fi, .int bu, .int ho, .ref ml, .ref mi, .ref mr, .int lh, .int mg, .int wd, .int fpi, .int fal, .ref mm, .ref mu, .ref mk, .ref mx, .long po, .long de])), (mi, .inl (0, 4, .inl ir)), (mr, .inl (3, 16, .inr (.inl gr)))]) rfl ?_
                      refine r_if_eq (tgt := 90) d_Mm_charge_85 (by decide) (fun c_85 => ?_) (fun c_85 => ?_)
                      · refine r_aload_n d_Mm_charge_90 rfl 1 rfl ?_
                        refine r_iload_n d_Mm_charge_91 rfl 2 rfl ?_
                        refine r_bipush d_Mm_charge_92 (v := 107) (by decide) ?_
                        refine r_icmp_eq (tgt := 115) d_Mm_charge_94 (by decide) (fun c_94 => ?_) (fun c_94 => ?_)
                        · exact absurd c_94 (by decide)
                        · refine r_aload_n d_Mm_charge_97 rfl 1 rfl ?_
                          refine r_get fs_Mm_62 d_Mm_charge_98 (q0 := 0) rfl rfl ?_
                          refine r_iconst d_Mm_charge_101 (v := 0) (by decide) ?_
                          refine r_iald d_Mm_charge_102 (q0 := 1) rfl (fun q => q.elim (by decide) (by decide)) (v := ir 0) rfl ?_
                          refine r_iload_n d_Mm_charge_103 rfl 3 rfl ?_
                          refine r_iadd d_Mm_charge_104 (v := (ir 0) + m1) rfl ?_
                          refine r_sipush d_Mm_charge_105 (v := 3000) (by decide) ?_
                          refine r_icmp_le (tgt := 115) d_Mm_charge_108 (by decide) (fun c_108 => ?_) (fun c_108 => ?_)
                          · refine r_iconst d_Mm_charge_115 (v := 0) (by decide) ?_
                            refine r_iconst d_Mm_charge_116 (v := 3) (by decide) ?_
                            refine r_callV (As := [.int 0, .int 3]) (rest := []) (csC := [(m, .inr (12, [.int 0, .ref mp, .int pt, .ref mf, .ref mh, .ref mn, .ref mt, .ref mz, .ref mc_, .ref mq, .ref mgr, .int cl, .int wa, .int co_, .int fi, .int bu, .int ho, .ref ml, .ref mi, .ref mr, .int lh, .int mg, .int wd, .int fpi, .int fal, .ref mm, .ref mu, .ref mk, .ref mx, .long po, .long de]))]) (is := [0]) (q0 := 0) rfl rfl ln_Mm_103 w_im_Mm_fails w_se_Mm_fails ok_Mm_charge_Mm_fails d_Mm_charge_117 (C_Mm_fails0 g m mp mf mh mn mt mz mc_ mq mgr ml mi mr mm mu mk mx th pt cl wa co_ fi bu ho lh mg wd fpi fal po de 3) rfl rfl (Nat.le_of_ble_eq_true rfl) rfl (by decide) (by omega) (by omega) (fun E cs1 hx => ?_) (fun v cs1 hx => ?_)
                            · exact absurd hx.1 (by simp)
                            · obtain ⟨e1, rfl⟩ := hx
                              cases e1
                              refine ⟨rfl, ?_⟩
                              refine r_st (st2 := [.int 0]) rfl ?_
                              refine r_cs (cs2 := [(m, .inr (12, [.int 0, .ref mp, .int pt, .ref mf, .ref mh, .ref mn, .ref mt, .ref mz, .ref mc_, .ref mq, .ref mgr, .int cl, .int wa, .int co_, .int fi, .int bu, .int ho, .ref ml, .ref mi, .ref mr, .int lh, .int mg, .int wd, .int fpi, .int fal, .ref mm, .ref mu, .ref mk, .ref mx, .long po, .long de])), (mi, .inl (0, 4, .inl ir)), (mr, .inl (3, 16, .inr (.inl gr)))]) rfl ?_
                              refine r_if_eq (tgt := 125) d_Mm_charge_120 (by decide) (fun c_120 => ?_) (fun c_120 => ?_)
                              · refine r_iload_n d_Mm_charge_125 rfl 0 rfl ?_
                                refine r_iconst d_Mm_charge_126 (v := (-1)) (by decide) ?_
                                refine r_icmp_eq (tgt := 140) d_Mm_charge_127 (by decide) (fun c_127 => ?_) (fun c_127 => ?_)
                                · refine r_iconst d_Mm_charge_140 (v := 0) (by decide) ?_
                                  refine r_istore (lv' := [(4, .int 0), (3, .int (-1)), (0, .ref m), (1, .int 112), (2, .int m1)]) d_Mm_charge_141 (by decide) rfl ?_
                                  refine r_lv (lv' := [(4, .int 0), (2, .int m1), (1, .int 112), (0, .ref m)]) [0, 4, 3, 2] rfl ?_
                                  refine r_lvE (lv2 := [(4, .int (nI 0)), (2, .int m1), (1, .int 112), (0, .ref m)]) (rfl) ?_
                                  refine r_cs (cs2 := [(m, .inr (12, [.int 0, .ref mp, .int pt, .ref mf, .ref mh, .ref mn, .ref mt, .ref mz, .ref mc_, .ref mq, .ref mgr, .int cl, .int wa, .int co_, .int fi, .int bu, .int ho, .ref ml, .ref mi, .ref mr, .int lh, .int mg, .int wd, .int fpi, .int fal, .ref mm, .ref mu, .ref mk, .ref mx, .long po, .long de])), (mi, .inl (0, 4, .inl ir)), (mr, .inl (3, 16, .inr (.inl (lfd gr (fun e => chS m1 0 e / 10) 0))))]) (rfl) ?_
                                  exact L_Mm_charge112N_143 g m mp mf mh mn mt mz mc_ mq mgr ml mi mr mm mu mk mx th pt cl wa co_ fi bu ho lh mg wd fpi fal po de ir gr m1 hw hg3 w0 _  (4 + 1) 0 (Nat.zero_le _) (by omega)
                                · exact absurd c_127 (by decide)
                              · exact absurd c_120 (by decide)
                          · exact absurd (Int32.not_le.mp c_108) hg3
                      · exact absurd c_85 (by decide)
                  · exact absurd c_63 (by decide)
            · exact absurd c_45 (by decide)
    · exact absurd c_18 (by decide)
  · exact absurd c_8 (by decide)
set_option maxHeartbeats 4000000 in
set_option maxRecDepth 100000 in
theorem L_Mm_charge115N_143 (g : zG) (m mp mf mh mn mt mz mc_ mq mgr ml mi mr mm mu mk mx : Nat) (th pt cl wa co_ fi bu ho lh mg wd fpi fal : Int32) (po de : Int64) (ir : Nat → Int32) (gr : Nat → Int64) (m1 : Int32) (hw : (1 ≤ m1 ∧ m1 ≤ 1000)) (hg3 : ¬ 3000 < ir 0 + m1) (w0 : zW) (n : Nat) : ∀ (d i : Nat), i ≤ 4 → 4 < i + d → DV g M_Mm_charge (fun o cs1 => o = .inl (some (.int (ir 0 + m1))) ∧ cs1 = [(m, .inr (12, [.int 0, .ref mp, .int pt, .ref mf, .ref mh, .ref mn, .ref mt, .ref mz, .ref mc_, .ref mq, .ref mgr, .int cl, .int wa, .int co_, .int fi, .int bu, .int ho, .ref ml, .ref mi, .ref mr, .int lh, .int mg, .int wd, .int fpi, .int fal, .ref mm, .ref mu, .ref mk, .ref mx, .long po, .long de])), (mi, .inl (0, 4, .inl (upd ir 0 (ir 0 + m1)))), (mr, .inl (3, 16, .inr (.inl (lfd gr (fun e => chS m1 1 e / 10) 4))))]) w0 n 143 [(4, .int (nI i)), (2, .int m1), (1, .int 115), (0, .ref m)] [] [(m, .inr (12, [.int 0, .ref mp, .int pt, .ref mf, .ref mh, .ref mn, .ref mt, .ref mz, .ref mc_, .ref mq, .ref mgr, .int cl, .int wa, .int co_, .int fi, .int bu, .int ho, .ref ml, .ref mi, .ref mr, .int lh, .int mg, .int wd, .int fpi, .int fal, .ref mm, .ref mu, .ref mk, .ref mx, .long po, .long de])), (mi, .inl (0, 4, .inl ir)), (mr, .inl (3, 16, .inr (.inl (lfd gr (fun e => chS m1 1 e / 10) i))))] 0 0 := by
  intro d
  induction d with
  | zero => intro i h1 h2 ; exact absurd h2 (by omega)
  | succ d ih =>
    intro i h1 h2 
    refine r_iload d_Mm_charge_143 0 rfl ?_
    refine r_iconst d_Mm_charge_145 (v := 4) (by decide) ?_
    refine r_icmp_ge (tgt := 179) d_Mm_charge_146 (by decide) (fun c_146 => ?_) (fun c_146 => ?_)
    · have hn := z_le (a := 4) (by omega) (by decide) c_146
      obtain rfl : i = 4 := by omega
      refine r_aload_n d_Mm_charge_179 rfl 3 rfl ?_
      refine r_get fs_Mm_62 d_Mm_charge_180 (q0 := 0) rfl rfl ?_
      refine r_iconst d_Mm_charge_183 (v := 0) (by decide) ?_
      refine r_dup2_11 d_Mm_charge_184 rfl rfl ?_
      refine r_iald d_Mm_charge_185 (q0 := 1) rfl (fun q => q.elim (by decide) (by decide)) (v := ir 0) rfl ?_
      refine r_iload_n d_Mm_charge_186 rfl 2 rfl ?_
      refine r_bipush d_Mm_charge_187 (v := 107) (by decide) ?_
      refine r_icmp_ne (tgt := 196) d_Mm_charge_189 (by decide) (fun c_189 => ?_) (fun c_189 => ?_)
      · refine r_iload_n d_Mm_charge_196 rfl 1 rfl ?_
        refine r_iadd d_Mm_charge_197 (v := (ir 0) + m1) rfl ?_
        refine r_iast d_Mm_charge_198 (q0 := 1) rfl (fun q => q.elim (by decide) (by decide)) (f' := upd ir 0 ((ir 0) + m1)) rfl (cs' := [(m, .inr (12, [.int 0, .ref mp, .int pt, .ref mf, .ref mh, .ref mn, .ref mt, .ref mz, .ref mc_, .ref mq, .ref mgr, .int cl, .int wa, .int co_, .int fi, .int bu, .int ho, .ref ml, .ref mi, .ref mr, .int lh, .int mg, .int wd, .int fpi, .int fal, .ref mm, .ref mu, .ref mk, .ref mx, .long po, .long de])), (mi, .inl (0, 4, .inl (upd ir 0 ((ir 0) + m1)))), (mr, .inl (3, 16, .inr (.inl (lfd gr (fun e => chS m1 1 e / 10) 4))))]) rfl ?_
        refine r_aload_n d_Mm_charge_199 rfl 3 rfl ?_
        refine r_get fs_Mm_62 d_Mm_charge_200 (q0 := 0) rfl rfl ?_
        refine r_iconst d_Mm_charge_203 (v := 0) (by decide) ?_
        refine r_iald d_Mm_charge_204 (q0 := 1) rfl (fun q => q.elim (by decide) (by decide)) (v := ir 0 + m1) rfl ?_
        refine r_iret d_Mm_charge_205 rfl rfl ?_
        exact ⟨rfl, rfl⟩
      · exact absurd c_189 (by decide)
    · have hn := z_nle (a := 4) (by omega) (by decide) c_146
      refine r_aload_n d_Mm_charge_149 rfl 3 rfl ?_
      refine r_get fs_Mm_65 d_Mm_charge_150 (q0 := 0) rfl rfl ?_
      refine r_iload d_Mm_charge_153 0 rfl ?_
      refine r_dup2_11 d_Mm_charge_155 rfl rfl ?_
      refine r_lald d_Mm_charge_156 (q0 := 2) rfl (vp_in_nI (by omega) (by omega)) (v := (lfd gr (fun e => chS m1 1 e / 10) i) i) (by rw [nI_clamp (by omega)]) ?_
      refine r_iload_n d_Mm_charge_157 rfl 1 rfl ?_
      refine r_i2l d_Mm_charge_158 (v := m1.toInt64) rfl ?_
      refine r_iload_n d_Mm_charge_159 rfl 2 rfl ?_
      refine r_iload d_Mm_charge_160 0 rfl ?_
      refine r_callS (As := [.int 115, .int (nI i)]) (rest := [.long m1.toInt64, .long ((lfd gr (fun e => chS m1 1 e / 10) i) i), .int (nI i), .ref mr]) (csC := []) (is := []) ln_Mm_240 w_st_Mm_tenths ok_Mm_charge_Mm_tenths d_Mm_charge_162 (C_Mm_tenths115 g i (by omega)) rfl rfl (Nat.le_of_ble_eq_true rfl) rfl (by decide) (by omega) (by omega) (fun E cs1 hx => ?_) (fun v cs1 hx => ?_)
      · exact absurd hx.1 (by simp)
      · obtain ⟨e1, rfl⟩ := hx
        cases e1
        refine ⟨rfl, ?_⟩
        refine r_st (st2 := [.int ((z_sv 1).getD i 0), .long m1.toInt64, .long ((lfd gr (fun e => chS m1 1 e / 10) i) i), .int (nI i), .ref mr]) rfl ?_
        refine r_cs (cs2 := [(m, .inr (12, [.int 0, .ref mp, .int pt, .ref mf, .ref mh, .ref mn, .ref mt, .ref mz, .ref mc_, .ref mq, .ref mgr, .int cl, .int wa, .int co_, .int fi, .int bu, .int ho, .ref ml, .ref mi, .ref mr, .int lh, .int mg, .int wd, .int fpi, .int fal, .ref mm, .ref mu, .ref mk, .ref mx, .long po, .long de])), (mi, .inl (0, 4, .inl ir)), (mr, .inl (3, 16, .inr (.inl (lfd gr (fun e => chS m1 1 e / 10) i))))]) rfl ?_
        refine r_i2l d_Mm_charge_165 (v := ((z_sv 1).getD i 0).toInt64) rfl ?_
        refine r_lmul d_Mm_charge_166 (v := chS m1 1 i) rfl ?_
        refine r_ldc2 ct_Mm_244 d_Mm_charge_167 ?_
        refine r_ldiv d_Mm_charge_170 (v := (chS m1 1 i) / 10) (by decide) rfl ?_
        refine r_ladd d_Mm_charge_171 (v := ((lfd gr (fun e => chS m1 1 e / 10) i) i) + ((chS m1 1 i) / 10)) rfl ?_
        refine r_last d_Mm_charge_172 (q0 := 2) rfl (vp_in_nI (by omega) (by omega)) (f' := lfd gr (fun e => chS m1 1 e / 10) (i + 1)) (by rw [nI_clamp (by omega)] <;> rfl) (cs' := [(m, .inr (12, [.int 0, .ref mp, .int pt, .ref mf, .ref mh, .ref mn, .ref mt, .ref mz, .ref mc_, .ref mq, .ref mgr, .int cl, .int wa, .int co_, .int fi, .int bu, .int ho, .ref ml, .ref mi, .ref mr, .int lh, .int mg, .int wd, .int fpi, .int fal, .ref mm, .ref mu, .ref mk, .ref mx, .long po, .long de])), (mi, .inl (0, 4, .inl ir)), (mr, .inl (3, 16, .inr (.inl (lfd gr (fun e => chS m1 1 e / 10) (i + 1)))))]) rfl ?_
        refine r_iinc (lv' := [(4, .int (nI (i + 1))), (2, .int m1), (1, .int 115), (0, .ref m)]) (v := nI (i + 1)) d_Mm_charge_173 (j := 0) rfl (nI_add _ _) (by decide) rfl ?_
        refine r_goto (tgt := 143) d_Mm_charge_176 (by decide) ?_
        refine r_lvE (lv2 := [(4, .int (nI (i + 1))), (2, .int m1), (1, .int 115), (0, .ref m)]) (rfl) ?_
        refine r_cs (cs2 := [(m, .inr (12, [.int 0, .ref mp, .int pt, .ref mf, .ref mh, .ref mn, .ref mt, .ref mz, .ref mc_, .ref mq, .ref mgr, .int cl, .int wa, .int co_, .int fi, .int bu, .int ho, .ref ml, .ref mi, .ref mr, .int lh, .int mg, .int wd, .int fpi, .int fal, .ref mm, .ref mu, .ref mk, .ref mx, .long po, .long de])), (mi, .inl (0, 4, .inl ir)), (mr, .inl (3, 16, .inr (.inl (lfd gr (fun e => chS m1 1 e / 10) (i + 1)))))]) (rfl) ?_
        exact ih (i + 1) (by omega) (by omega)
