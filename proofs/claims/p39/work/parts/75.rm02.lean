set_option maxHeartbeats 4000000 in
set_option maxRecDepth 100000 in
theorem Qx_Mm_mouldB {g : zG} {ad : Nat → Nat} {t : zTT} {u : zNN} {w : zW} (hI : IV g ad t u w) (hg : ¬ fa_cnt (fun k => decide (((t.1 53).1) k = 103)) 12 = 0) (hc : anB (fun k => decide (((t.1 53).1) k = 99)) 108 = true) (hn : ¬ nI (coN ((t.1 53).1)) ≤ gdS ((t.1 52).1 5) (t.2 2) (u.1 2)) : zMB g M_Mm_mould [.ref (ad 52)] w (fun o w1 => o = .inl (some (.int 0)) ∧ IV g ad t u w1) 4 179 := by
  obtain ⟨e_m, wf_m, k_m⟩ := hI.1.2 52 (by decide)
  obtain ⟨v_m_th, rfl⟩ := kd_52.mp k_m
  obtain ⟨e_mp, wf_mp, k_mp⟩ := hI.1.2 53 (by decide)
  obtain rfl := kd_53.mp k_mp
  obtain ⟨e_mgr, wf_mgr, k_mgr⟩ := hI.1.2 61 (by decide)
  obtain ⟨v_mgr_f, rfl⟩ := kd_61.mp k_mgr
  obtain ⟨e_mq, wf_mq, k_mq⟩ := hI.1.2 60 (by decide)
  obtain ⟨v_mq_h, rfl⟩ := kd_60.mp k_mq
  refine y_of (by decide) rfl (Nat.le_of_ble_eq_true rfl) (y_base (cs := [((ad 52), .inr (12, [.int v_m_th, .ref (ad 53), .int (nI ((t.1 52).2.2 0)), .ref (ad 54), .ref (ad 55), .ref (ad 56), .ref (ad 57), .ref (ad 58), .ref (ad 59), .ref (ad 60), .ref (ad 61), .int ((t.1 52).1 0), .int ((t.1 52).1 1), .int ((t.1 52).1 2), .int ((t.1 52).1 3), .int ((t.1 52).1 4), .int ((t.1 52).1 5), .ref (ad 62), .ref (ad 63), .ref (ad 64), .int ((t.1 52).1 6), .int ((t.1 52).1 7), .int ((t.1 52).1 8), .int ((t.1 52).1 9), .int ((t.1 52).1 10), .ref (ad 65), .ref (ad 66), .ref (ad 67), .ref (ad 68), .long ((t.1 52).2.1 0), .long ((t.1 52).2.1 1)])), ((ad 53), .inl (1, 108, .inl ((t.1 53).1))), ((ad 61), .inl (0, 108, .inl v_mgr_f)), ((ad 60), .inl (0, 108, .inl (fun k => nI (v_mq_h k))))]) (hI.1.I [52, 53, 61, 60] _ rfl (by decide) (by decide) (List.forall_mem_cons.mpr ⟨wf_m, (List.forall_mem_cons.mpr ⟨wf_mp, (List.forall_mem_cons.mpr ⟨wf_mgr, (List.forall_mem_cons.mpr ⟨wf_mq, (fun _ h => nomatch h)⟩)⟩)⟩)⟩)) ?_)
  refine y_lvE (lv2 := [(0, .ref (ad 52))]) rfl ?_
  refine y_aload_n d_Mm_mould_0 rfl 0 rfl ?_
  refine y_iconst d_Mm_mould_1 (v := 0) (by decide) ?_
  refine y_put fp_Mm_84 d_Mm_mould_2 (fun h => nomatch h) rfl rfl (q0 := 0) rfl (Nat.le_of_ble_eq_true rfl) (cs' := [((ad 52), .inr (12, [.int 0, .ref (ad 53), .int (nI ((t.1 52).2.2 0)), .ref (ad 54), .ref (ad 55), .ref (ad 56), .ref (ad 57), .ref (ad 58), .ref (ad 59), .ref (ad 60), .ref (ad 61), .int ((t.1 52).1 0), .int ((t.1 52).1 1), .int ((t.1 52).1 2), .int ((t.1 52).1 3), .int ((t.1 52).1 4), .int ((t.1 52).1 5), .ref (ad 62), .ref (ad 63), .ref (ad 64), .int ((t.1 52).1 6), .int ((t.1 52).1 7), .int ((t.1 52).1 8), .int ((t.1 52).1 9), .int ((t.1 52).1 10), .ref (ad 65), .ref (ad 66), .ref (ad 67), .ref (ad 68), .long ((t.1 52).2.1 0), .long ((t.1 52).2.1 1)])), ((ad 53), .inl (1, 108, .inl ((t.1 53).1))), ((ad 61), .inl (0, 108, .inl v_mgr_f)), ((ad 60), .inl (0, 108, .inl (fun k => nI (v_mq_h k))))]) rfl ?_
  refine y_aload_n d_Mm_mould_5 rfl 0 rfl ?_
  refine y_aload_n d_Mm_mould_6 rfl 0 rfl ?_
  refine y_get fs_Mm_7 d_Mm_mould_7 (q0 := 0) rfl rfl ?_
  refine y_callV (As := [.ref (ad 53)]) (rest := []) (csC := [((ad 52), .inr (12, [.int 0, .ref (ad 53), .int (nI ((t.1 52).2.2 0)), .ref (ad 54), .ref (ad 55), .ref (ad 56), .ref (ad 57), .ref (ad 58), .ref (ad 59), .ref (ad 60), .ref (ad 61), .int ((t.1 52).1 0), .int ((t.1 52).1 1), .int ((t.1 52).1 2), .int ((t.1 52).1 3), .int ((t.1 52).1 4), .int ((t.1 52).1 5), .ref (ad 62), .ref (ad 63), .ref (ad 64), .int ((t.1 52).1 6), .int ((t.1 52).1 7), .int ((t.1 52).1 8), .int ((t.1 52).1 9), .int ((t.1 52).1 10), .ref (ad 65), .ref (ad 66), .ref (ad 67), .ref (ad 68), .long ((t.1 52).2.1 0), .long ((t.1 52).2.1 1)])), ((ad 53), .inl (1, 108, .inl ((t.1 53).1))), ((ad 61), .inl (0, 108, .inl v_mgr_f)), ((ad 60), .inl (0, 108, .inl (fun k => nI (v_mq_h k))))]) (is := [0, 1, 2, 3]) (q0 := 0) rfl rfl ln_Mm_123 w_im_Mm_groupIn w_se_Mm_groupIn ok_Mm_mould_Mm_groupIn d_Mm_mould_10 (C_Mm_groupIn9 g (ad 52) (ad 53) (ad 54) (ad 55) (ad 56) (ad 57) (ad 58) (ad 59) (ad 60) (ad 61) (ad 62) (ad 63) (ad 64) (ad 65) (ad 66) (ad 67) (ad 68) 0 (nI ((t.1 52).2.2 0)) ((t.1 52).1 0) ((t.1 52).1 1) ((t.1 52).1 2) ((t.1 52).1 3) ((t.1 52).1 4) ((t.1 52).1 5) ((t.1 52).1 6) ((t.1 52).1 7) ((t.1 52).1 8) ((t.1 52).1 9) ((t.1 52).1 10) ((t.1 52).2.1 0) ((t.1 52).2.1 1) (ad 53) ((t.1 53).1) v_mgr_f v_mq_h) rfl rfl (Nat.le_of_ble_eq_true rfl) rfl (by decide) (by omega) (by omega) (fun E cs1 hx => ?_) (fun v cs1 hx => ?_)
  · exact absurd hx.1 (by simp)
  · obtain ⟨e1, rfl⟩ := hx
    rw [co_r] at e1
    cases e1
    refine ⟨rfl, ?_⟩
    refine y_st (st2 := [.int (nI (coN ((t.1 53).1)))]) rfl ?_
    refine y_cs (cs2 := [((ad 52), .inr (12, [.int 0, .ref (ad 53), .int (nI ((t.1 52).2.2 0)), .ref (ad 54), .ref (ad 55), .ref (ad 56), .ref (ad 57), .ref (ad 58), .ref (ad 59), .ref (ad 60), .ref (ad 61), .int ((t.1 52).1 0), .int ((t.1 52).1 1), .int ((t.1 52).1 2), .int ((t.1 52).1 3), .int ((t.1 52).1 4), .int ((t.1 52).1 5), .ref (ad 62), .ref (ad 63), .ref (ad 64), .int ((t.1 52).1 6), .int ((t.1 52).1 7), .int ((t.1 52).1 8), .int ((t.1 52).1 9), .int ((t.1 52).1 10), .ref (ad 65), .ref (ad 66), .ref (ad 67), .ref (ad 68), .long ((t.1 52).2.1 0), .long ((t.1 52).2.1 1)])), ((ad 53), .inl (1, 108, .inl ((t.1 53).1))), ((ad 61), .inl (0, 108, .inl ((rgS ((t.1 53).1) (fa_fill (fun _ => -1) v_mgr_f 108, v_mq_h, 0) 108).1))), ((ad 60), .inl (0, 108, .inl (fun k => nI ((rgS ((t.1 53).1) (fa_fill (fun _ => -1) v_mgr_f 108, v_mq_h, 0) 108).2.1 k))))]) rfl ?_
    refine y_istore_n (lv' := [(1, .int (nI (coN ((t.1 53).1)))), (0, .ref (ad 52))]) d_Mm_mould_13 rfl (by decide) rfl ?_
    refine y_aload_n d_Mm_mould_14 rfl 1 rfl ?_
    refine y_aload_n d_Mm_mould_15 rfl 1 rfl ?_
    refine y_get fs_Mm_7 d_Mm_mould_16 (q0 := 0) rfl rfl ?_
    refine y_callS (As := [.ref (ad 53)]) (rest := [.ref (ad 52)]) (csC := [((ad 53), .inl (1, 108, .inl ((t.1 53).1)))]) (is := [1]) ln_Mm_137 w_st_Mm_gates ok_Mm_mould_Mm_gates d_Mm_mould_19 (C_Mm_gates g (ad 53) ((t.1 53).1)) rfl rfl (Nat.le_of_ble_eq_true rfl) rfl (by decide) (by omega) (by omega) (fun E cs1 hx => ?_) (fun v cs1 hx => ?_)
    · exact absurd hx.1 (by simp)
    · obtain ⟨e1, rfl⟩ := hx
      cases e1
      refine ⟨rfl, ?_⟩
      refine y_st (st2 := [.int (nI (fa_cnt (fun k => decide (((t.1 53).1) k = 103)) 12)), .ref (ad 52)]) rfl ?_
      refine y_cs (cs2 := [((ad 52), .inr (12, [.int 0, .ref (ad 53), .int (nI ((t.1 52).2.2 0)), .ref (ad 54), .ref (ad 55), .ref (ad 56), .ref (ad 57), .ref (ad 58), .ref (ad 59), .ref (ad 60), .ref (ad 61), .int ((t.1 52).1 0), .int ((t.1 52).1 1), .int ((t.1 52).1 2), .int ((t.1 52).1 3), .int ((t.1 52).1 4), .int ((t.1 52).1 5), .ref (ad 62), .ref (ad 63), .ref (ad 64), .int ((t.1 52).1 6), .int ((t.1 52).1 7), .int ((t.1 52).1 8), .int ((t.1 52).1 9), .int ((t.1 52).1 10), .ref (ad 65), .ref (ad 66), .ref (ad 67), .ref (ad 68), .long ((t.1 52).2.1 0), .long ((t.1 52).2.1 1)])), ((ad 53), .inl (1, 108, .inl ((t.1 53).1))), ((ad 61), .inl (0, 108, .inl ((rgS ((t.1 53).1) (fa_fill (fun _ => -1) v_mgr_f 108, v_mq_h, 0) 108).1))), ((ad 60), .inl (0, 108, .inl (fun k => nI ((rgS ((t.1 53).1) (fa_fill (fun _ => -1) v_mgr_f 108, v_mq_h, 0) 108).2.1 k))))]) rfl ?_
      refine y_if_eq (tgt := 32) d_Mm_mould_22 (by decide) (fun c_22 => ?_) (fun c_22 => ?_)
      · exact absurd (nI_z (by have := fa_cnt_le (fun k => decide (((t.1 53).1) k = 103)) 12; omega) c_22) hg
      · refine y_aload_n d_Mm_mould_25 rfl 1 rfl ?_
        refine y_callV (As := []) (rest := [.ref (ad 52)]) (csC := [((ad 52), .inr (12, [.int 0, .ref (ad 53), .int (nI ((t.1 52).2.2 0)), .ref (ad 54), .ref (ad 55), .ref (ad 56), .ref (ad 57), .ref (ad 58), .ref (ad 59), .ref (ad 60), .ref (ad 61), .int ((t.1 52).1 0), .int ((t.1 52).1 1), .int ((t.1 52).1 2), .int ((t.1 52).1 3), .int ((t.1 52).1 4), .int ((t.1 52).1 5), .ref (ad 62), .ref (ad 63), .ref (ad 64), .int ((t.1 52).1 6), .int ((t.1 52).1 7), .int ((t.1 52).1 8), .int ((t.1 52).1 9), .int ((t.1 52).1 10), .ref (ad 65), .ref (ad 66), .ref (ad 67), .ref (ad 68), .long ((t.1 52).2.1 0), .long ((t.1 52).2.1 1)])), ((ad 53), .inl (1, 108, .inl ((t.1 53).1)))]) (is := [0, 1]) (q0 := 0) rfl rfl ln_Mm_281 w_im_Mm_hasCasting w_se_Mm_hasCasting ok_Mm_mould_Mm_hasCasting d_Mm_mould_26 (C_Mm_hasCasting9 g (ad 52) (ad 53) (ad 54) (ad 55) (ad 56) (ad 57) (ad 58) (ad 59) (ad 60) (ad 61) (ad 62) (ad 63) (ad 64) (ad 65) (ad 66) (ad 67) (ad 68) 0 (nI ((t.1 52).2.2 0)) ((t.1 52).1 0) ((t.1 52).1 1) ((t.1 52).1 2) ((t.1 52).1 3) ((t.1 52).1 4) ((t.1 52).1 5) ((t.1 52).1 6) ((t.1 52).1 7) ((t.1 52).1 8) ((t.1 52).1 9) ((t.1 52).1 10) ((t.1 52).2.1 0) ((t.1 52).2.1 1) ((t.1 53).1)) rfl rfl (Nat.le_of_ble_eq_true rfl) rfl (by decide) (by omega) (by omega) (fun E cs1 hx => ?_) (fun v cs1 hx => ?_)
        · exact absurd hx.1 (by simp)
        · obtain ⟨e1, rfl⟩ := hx
          cases e1
          refine ⟨rfl, ?_⟩
          refine y_st (st2 := [.int (z_bi (anB (fun k => decide (((t.1 53).1) k = 99)) 108)), .ref (ad 52)]) rfl ?_
          refine y_cs (cs2 := [((ad 52), .inr (12, [.int 0, .ref (ad 53), .int (nI ((t.1 52).2.2 0)), .ref (ad 54), .ref (ad 55), .ref (ad 56), .ref (ad 57), .ref (ad 58), .ref (ad 59), .ref (ad 60), .ref (ad 61), .int ((t.1 52).1 0), .int ((t.1 52).1 1), .int ((t.1 52).1 2), .int ((t.1 52).1 3), .int ((t.1 52).1 4), .int ((t.1 52).1 5), .ref (ad 62), .ref (ad 63), .ref (ad 64), .int ((t.1 52).1 6), .int ((t.1 52).1 7), .int ((t.1 52).1 8), .int ((t.1 52).1 9), .int ((t.1 52).1 10), .ref (ad 65), .ref (ad 66), .ref (ad 67), .ref (ad 68), .long ((t.1 52).2.1 0), .long ((t.1 52).2.1 1)])), ((ad 53), .inl (1, 108, .inl ((t.1 53).1))), ((ad 61), .inl (0, 108, .inl ((rgS ((t.1 53).1) (fa_fill (fun _ => -1) v_mgr_f 108, v_mq_h, 0) 108).1))), ((ad 60), .inl (0, 108, .inl (fun k => nI ((rgS ((t.1 53).1) (fa_fill (fun _ => -1) v_mgr_f 108, v_mq_h, 0) 108).2.1 k))))]) rfl ?_
          refine y_if_ne (tgt := 36) d_Mm_mould_29 (by decide) (fun c_29 => ?_) (fun c_29 => ?_)
          · refine y_iconst d_Mm_mould_36 (v := 0) (by decide) ?_
            refine y_iconst d_Mm_mould_37 (v := 1) (by decide) ?_
            refine y_callV (As := [.int 0, .int 1]) (rest := []) (csC := [((ad 52), .inr (12, [.int 0, .ref (ad 53), .int (nI ((t.1 52).2.2 0)), .ref (ad 54), .ref (ad 55), .ref (ad 56), .ref (ad 57), .ref (ad 58), .ref (ad 59), .ref (ad 60), .ref (ad 61), .int ((t.1 52).1 0), .int ((t.1 52).1 1), .int ((t.1 52).1 2), .int ((t.1 52).1 3), .int ((t.1 52).1 4), .int ((t.1 52).1 5), .ref (ad 62), .ref (ad 63), .ref (ad 64), .int ((t.1 52).1 6), .int ((t.1 52).1 7), .int ((t.1 52).1 8), .int ((t.1 52).1 9), .int ((t.1 52).1 10), .ref (ad 65), .ref (ad 66), .ref (ad 67), .ref (ad 68), .long ((t.1 52).2.1 0), .long ((t.1 52).2.1 1)]))]) (is := [0]) (q0 := 0) rfl rfl ln_Mm_103 w_im_Mm_fails w_se_Mm_fails ok_Mm_mould_Mm_fails d_Mm_mould_38 (C_Mm_fails0 g (ad 52) (ad 53) (ad 54) (ad 55) (ad 56) (ad 57) (ad 58) (ad 59) (ad 60) (ad 61) (ad 62) (ad 63) (ad 64) (ad 65) (ad 66) (ad 67) (ad 68) 0 (nI ((t.1 52).2.2 0)) ((t.1 52).1 0) ((t.1 52).1 1) ((t.1 52).1 2) ((t.1 52).1 3) ((t.1 52).1 4) ((t.1 52).1 5) ((t.1 52).1 6) ((t.1 52).1 7) ((t.1 52).1 8) ((t.1 52).1 9) ((t.1 52).1 10) ((t.1 52).2.1 0) ((t.1 52).2.1 1) 1) rfl rfl (Nat.le_of_ble_eq_true rfl) rfl (by decide) (by omega) (by omega) (fun E cs1 hx => ?_) (fun v cs1 hx => ?_)
            · exact absurd hx.1 (by simp)
            · obtain ⟨e1, rfl⟩ := hx
              cases e1
              refine ⟨rfl, ?_⟩
              refine y_st (st2 := [.int 0]) rfl ?_
              refine y_cs (cs2 := [((ad 52), .inr (12, [.int 0, .ref (ad 53), .int (nI ((t.1 52).2.2 0)), .ref (ad 54), .ref (ad 55), .ref (ad 56), .ref (ad 57), .ref (ad 58), .ref (ad 59), .ref (ad 60), .ref (ad 61), .int ((t.1 52).1 0), .int ((t.1 52).1 1), .int ((t.1 52).1 2), .int ((t.1 52).1 3), .int ((t.1 52).1 4), .int ((t.1 52).1 5), .ref (ad 62), .ref (ad 63), .ref (ad 64), .int ((t.1 52).1 6), .int ((t.1 52).1 7), .int ((t.1 52).1 8), .int ((t.1 52).1 9), .int ((t.1 52).1 10), .ref (ad 65), .ref (ad 66), .ref (ad 67), .ref (ad 68), .long ((t.1 52).2.1 0), .long ((t.1 52).2.1 1)])), ((ad 53), .inl (1, 108, .inl ((t.1 53).1))), ((ad 61), .inl (0, 108, .inl ((rgS ((t.1 53).1) (fa_fill (fun _ => -1) v_mgr_f 108, v_mq_h, 0) 108).1))), ((ad 60), .inl (0, 108, .inl (fun k => nI ((rgS ((t.1 53).1) (fa_fill (fun _ => -1) v_mgr_f 108, v_mq_h, 0) 108).2.1 k))))]) rfl ?_
              refine y_if_ne (tgt := 90) d_Mm_mould_41 (by decide) (fun c_41 => ?_) (fun c_41 => ?_)
              · exact absurd c_41 (by decide)
              · refine y_aload_n d_Mm_mould_44 rfl 1 rfl ?_
                refine y_iload_n d_Mm_mould_45 rfl 0 rfl ?_
                refine y_aload_n d_Mm_mould_46 rfl 1 rfl ?_
                refine yw_callV (As := []) (rest := [.int (nI (coN ((t.1 53).1))), .ref (ad 52)]) (q0 := 0) rfl rfl ln_Mm_226 w_im_Mm_good w_se_Mm_good ok_Mm_mould_Mm_good d_Mm_mould_47 (fun wA hA => Qx_good (hI.gen (t2 := t) (is := [52, 53, 61, 60]) (L2 := []) hA rfl ⟨kd_52.mpr ⟨_, rfl⟩, kd_53.mpr rfl, kd_61.mpr ⟨_, rfl⟩, kd_60.mpr ⟨_, rfl⟩, trivial⟩ (by decide) (by decide) (fun _ h => nomatch h) (fun _ h => nomatch h) (fun _ _ _ => rfl) (fun h => h) rfl)) rfl rfl (Nat.le_of_ble_eq_true rfl) (by omega) (by omega) (fun wA47 hA47 E wB47 hx => ?_) (fun wA47 hA47 v wB47 hx => ?_)
                · exact absurd hx.1 (by simp)
                · obtain ⟨e1, e2⟩ := hx
                  cases e1
                  refine yw_st (st2 := [.int (gdS ((t.1 52).1 5) (t.2 2) (u.1 2)), .int (nI (coN ((t.1 53).1))), .ref (ad 52)]) rfl ?_
                  subst e2
                  refine y_go hA47 ?_
                  refine y_icmp_le (tgt := 57) d_Mm_mould_50 (by decide) (fun c_50 => ?_) (fun c_50 => ?_)
                  · exact absurd c_50 hn
                  · refine y_iconst d_Mm_mould_53 (v := 1) (by decide) ?_
                    refine y_goto (tgt := 58) d_Mm_mould_54 (by decide) ?_
                    refine y_iconst d_Mm_mould_58 (v := 2) (by decide) ?_
                    refine y_callV (As := [.int 1, .int 2]) (rest := []) (csC := [((ad 52), .inr (12, [.int 0, .ref (ad 53), .int (nI ((t.1 52).2.2 0)), .ref (ad 54), .ref (ad 55), .ref (ad 56), .ref (ad 57), .ref (ad 58), .ref (ad 59), .ref (ad 60), .ref (ad 61), .int ((t.1 52).1 0), .int ((t.1 52).1 1), .int ((t.1 52).1 2), .int ((t.1 52).1 3), .int ((t.1 52).1 4), .int ((t.1 52).1 5), .ref (ad 62), .ref (ad 63), .ref (ad 64), .int ((t.1 52).1 6), .int ((t.1 52).1 7), .int ((t.1 52).1 8), .int ((t.1 52).1 9), .int ((t.1 52).1 10), .ref (ad 65), .ref (ad 66), .ref (ad 67), .ref (ad 68), .long ((t.1 52).2.1 0), .long ((t.1 52).2.1 1)]))]) (is := [0]) (q0 := 0) rfl rfl ln_Mm_103 w_im_Mm_fails w_se_Mm_fails ok_Mm_mould_Mm_fails d_Mm_mould_59 (C_Mm_fails2 g (ad 52) (ad 53) (ad 54) (ad 55) (ad 56) (ad 57) (ad 58) (ad 59) (ad 60) (ad 61) (ad 62) (ad 63) (ad 64) (ad 65) (ad 66) (ad 67) (ad 68) 0 (nI ((t.1 52).2.2 0)) ((t.1 52).1 0) ((t.1 52).1 1) ((t.1 52).1 2) ((t.1 52).1 3) ((t.1 52).1 4) ((t.1 52).1 5) ((t.1 52).1 6) ((t.1 52).1 7) ((t.1 52).1 8) ((t.1 52).1 9) ((t.1 52).1 10) ((t.1 52).2.1 0) ((t.1 52).2.1 1)) rfl rfl (Nat.le_of_ble_eq_true rfl) rfl (by decide) (by omega) (by omega) (fun E cs1 hx => ?_) (fun v cs1 hx => ?_)
                    · exact absurd hx.1 (by simp)
                    · obtain ⟨e1, rfl⟩ := hx
                      cases e1
                      refine ⟨rfl, ?_⟩
                      refine y_st (st2 := [.int 1]) rfl ?_
                      refine y_cs (cs2 := [((ad 52), .inr (12, [.int 2, .ref (ad 53), .int (nI ((t.1 52).2.2 0)), .ref (ad 54), .ref (ad 55), .ref (ad 56), .ref (ad 57), .ref (ad 58), .ref (ad 59), .ref (ad 60), .ref (ad 61), .int ((t.1 52).1 0), .int ((t.1 52).1 1), .int ((t.1 52).1 2), .int ((t.1 52).1 3), .int ((t.1 52).1 4), .int ((t.1 52).1 5), .ref (ad 62), .ref (ad 63), .ref (ad 64), .int ((t.1 52).1 6), .int ((t.1 52).1 7), .int ((t.1 52).1 8), .int ((t.1 52).1 9), .int ((t.1 52).1 10), .ref (ad 65), .ref (ad 66), .ref (ad 67), .ref (ad 68), .long ((t.1 52).2.1 0), .long ((t.1 52).2.1 1)])), ((ad 53), .inl (1, 108, .inl ((t.1 53).1))), ((ad 61), .inl (0, 108, .inl ((rgS ((t.1 53).1) (fa_fill (fun _ => -1) v_mgr_f 108, v_mq_h, 0) 108).1))), ((ad 60), .inl (0, 108, .inl (fun k => nI ((rgS ((t.1 53).1) (fa_fill (fun _ => -1) v_mgr_f 108, v_mq_h, 0) 108).2.1 k))))]) rfl ?_
                      refine y_if_ne (tgt := 90) d_Mm_mould_62 (by decide) (fun c_62 => ?_) (fun c_62 => ?_)
                      · refine y_iconst d_Mm_mould_90 (v := 0) (by decide) ?_
                        refine y_iret d_Mm_mould_91 rfl rfl ?_
                        exact fun w1 h1 => ⟨rfl, (hI.gen (t2 := t) (is := [52, 53, 61, 60]) (L2 := []) h1 rfl ⟨kd_52.mpr ⟨_, rfl⟩, kd_53.mpr rfl, kd_61.mpr ⟨_, rfl⟩, kd_60.mpr ⟨_, rfl⟩, trivial⟩ (by decide) (by decide) (fun _ h => nomatch h) (fun _ h => nomatch h) (fun _ _ _ => rfl) (fun h => h) rfl)⟩
                      · exact absurd c_62 (by decide)
          · exact absurd (z_bi0 c_29) (by rw [hc]; decide)
theorem d_Mm_mould_57 : decode prog_14_method_74_code 57 = .ok (.iconst 0, 1) := zo_3 (zd_b zq_prog_14_method_74_code_1 25 rfl rfl rfl)
theorem d_Mm_mould_65 : decode prog_14_method_74_code 65 = .ok (.aload_n 0, 1) := zo_42 (zd_b zq_prog_14_method_74_code_2 1 rfl rfl rfl)
theorem d_Mm_mould_66 : decode prog_14_method_74_code 66 = .ok (.aload_n 0, 1) := zo_42 (zd_b zq_prog_14_method_74_code_2 2 rfl rfl rfl)
theorem d_Mm_mould_67 : decode prog_14_method_74_code 67 = .ok (.getfield 72, 3) := zo_180 (d := 0) (e := 72) (zd_b zq_prog_14_method_74_code_2 3 rfl rfl rfl) (zd_b zq_prog_14_method_74_code_2 4 rfl rfl rfl) (zd_b zq_prog_14_method_74_code_2 5 rfl rfl rfl)
theorem d_Mm_mould_70 : decode prog_14_method_74_code 70 = .ok (.invokevirtual 208, 3) := zo_182 (d := 0) (e := 208) (zd_b zq_prog_14_method_74_code_2 6 rfl rfl rfl) (zd_b zq_prog_14_method_74_code_2 7 rfl rfl rfl) (zd_b zq_prog_14_method_74_code_2 8 rfl rfl rfl)
theorem ok_Mm_mould_AL_size : z_ok M_Mm_mould M_AL_size 0 := ⟨z_mj2 (i := 172) rfl (by decide +kernel), rfl, ⟨by decide +kernel, by decide +kernel, by decide +kernel⟩, ⟨by decide, by decide⟩, z_mj1 (i := 13) rfl (by decide +kernel), rfl⟩
theorem d_Mm_mould_73 : decode prog_14_method_74_code 73 = .ok (.bipush 10, 2) := zo_16 (d := 10) (zd_b zq_prog_14_method_74_code_2 9 rfl rfl rfl) (zd_b zq_prog_14_method_74_code_2 10 rfl rfl rfl) (by decide +kernel)
theorem d_Mm_mould_75 : decode prog_14_method_74_code 75 = .ok (.if_icmp .ne 7, 3) := zo_160 (d := 0) (e := 7) (zd_b zq_prog_14_method_74_code_2 11 rfl rfl rfl) (zd_b zq_prog_14_method_74_code_2 12 rfl rfl rfl) (zd_b zq_prog_14_method_74_code_2 13 rfl rfl rfl) (by decide +kernel)
theorem d_Mm_mould_78 : decode prog_14_method_74_code 78 = .ok (.iconst 1, 1) := zo_4 (zd_b zq_prog_14_method_74_code_2 14 rfl rfl rfl)
theorem d_Mm_mould_79 : decode prog_14_method_74_code 79 = .ok (.goto 4, 3) := zo_167 (d := 0) (e := 4) (zd_b zq_prog_14_method_74_code_2 15 rfl rfl rfl) (zd_b zq_prog_14_method_74_code_2 16 rfl rfl rfl) (zd_b zq_prog_14_method_74_code_2 17 rfl rfl rfl) (by decide +kernel)
theorem d_Mm_mould_83 : decode prog_14_method_74_code 83 = .ok (.iconst 3, 1) := zo_6 (zd_b zq_prog_14_method_74_code_2 19 rfl rfl rfl)
theorem d_Mm_mould_84 : decode prog_14_method_74_code 84 = .ok (.invokevirtual 103, 3) := zo_182 (d := 0) (e := 103) (zd_b zq_prog_14_method_74_code_2 20 rfl rfl rfl) (zd_b zq_prog_14_method_74_code_2 21 rfl rfl rfl) (zd_b zq_prog_14_method_74_code_2 22 rfl rfl rfl)
theorem d_Mm_mould_87 : decode prog_14_method_74_code 87 = .ok (.ifCond .eq 5, 3) := zo_153 (d := 0) (e := 5) (zd_b zq_prog_14_method_74_code_2 23 rfl rfl rfl) (zd_b zq_prog_14_method_74_code_2 24 rfl rfl rfl) (zd_b zq_prog_14_method_74_code_2 25 rfl rfl rfl) (by decide +kernel)
