set_option maxHeartbeats 4000000 in
set_option maxRecDepth 100000 in
theorem Qx_Mm_mouldC {g : zG} {ad : Nat → Nat} {t : zTT} {u : zNN} {w : zW} (hI : IV g ad t u w) (hg : ¬ fa_cnt (fun k => decide (((t.1 53).1) k = 103)) 12 = 0) (hc : anB (fun k => decide (((t.1 53).1) k = 99)) 108 = true) (hn : nI (coN ((t.1 53).1)) ≤ gdS ((t.1 52).1 5) (t.2 2) (u.1 2)) (hs : u.1 3 = 10) : zMB g M_Mm_mould [.ref (ad 52)] w (fun o w1 => o = .inl (some (.int 0)) ∧ IV g ad t u w1) 4 179 := by
  obtain ⟨e_m, wf_m, k_m⟩ := hI.1.2 52 (by decide)
  obtain ⟨v_m_th, rfl⟩ := kd_52.mp k_m
  obtain ⟨e_mp, wf_mp, k_mp⟩ := hI.1.2 53 (by decide)
  obtain rfl := kd_53.mp k_mp
  obtain ⟨e_mgr, wf_mgr, k_mgr⟩ := hI.1.2 61 (by decide)
  obtain ⟨v_mgr_f, rfl⟩ := kd_61.mp k_mgr
  obtain ⟨e_mq, wf_mq, k_mq⟩ := hI.1.2 60 (by decide)
  obtain ⟨v_mq_h, rfl⟩ := kd_60.mp k_mq
  refine y_of (by decide) rfl (Nat.le_of_ble_eq_true rfl) (y_base (cs := [((ad 52), .inr (12, [.int v_m_th, .ref (ad 53), .int (nI ((t.1 52).2.2 0)), .ref (ad 54), .ref (ad 55), .ref (ad 56), .ref (ad 57), .ref (ad 58), .ref (ad 59), .ref (ad 60), .ref (ad 61), .int ((t.1 52).1 0), .int ((t.1 52).1 1), .int ((t.1 52).1 2), .int ((t.1 52).1 3), .int ((t.1 52).1 4), .int ((t.1 52).1 5), .ref (ad 62), .ref (ad 63), .ref (ad 64), .int ((t.1 52).1 6), .int ((t.1 52).1 7), .int ((t.1 52).1 8), .int ((t.1 52).1 9), .int ((t.1 52).1 10), .ref (ad 65), .ref (ad 66), .ref (ad 67), .ref (ad 68), .long ((t.1 52).2.1 0), .long ((t.1 52).2.1 1)])), ((ad 53), .inl (1, 108, .inl ((t.1 53).1))), ((ad 61), .inl (0, 108, .inl v_mgr_f)), ((ad 60), .inl (0, 108, .inl (fun k => nI (v_mq_h k))))]) (hI.1.I [52, 53, 61, 60] _ rfl (by decide) (by decide) (List.forall_mem_cons.mpr ⟨wf_m, (List.forall_mem_cons.mpr ⟨wf_mp, (List.forall_mem_cons.mpr ⟨wf_mgr, (List.forall_mem_cons.mpr ⟨wf_mq, (fun _ h => nomatch h)⟩)⟩)⟩)⟩)) ?_)
  refine y_lvE (lv2 := [(0, .ref (ad 52))]) rfl ?_
  refine y_aload_n d_Mm_mould_0 rfl 0 rfl ?_
  refine y_iconst d_Mm_mould_1 (v := 0) (by decide) ?_
  refine y_put fp_Mm_84 d_Mm_mould_2 (fun h => nomatch h) rfl rfl (q0 := 0) rfl (Nat.le_of_ble_eq_true rfl) (cs' := [((ad 52), .inr (12, [.int 0, .ref (ad 53), .int (nI ((t.1 52).2.2 0)), .ref (ad 54), .ref (ad 55), .ref (ad 56), .ref (ad 57), .ref (ad 58), .ref (ad 59), .ref (ad 60), .ref (ad 61), .int ((t.1 52).1 0), .int ((t.1 52).1 1), .int ((t.1 52).1 2), .int ((t.1 52).1 3), .int ((t.1 52).1 4), .int ((t.1 52).1 5), .ref (ad 62), .ref (ad 63), .ref (ad 64), .int ((t.1 52).1 6), .int ((t.1 52).1 7), .int ((t.1 52).1 8), .int ((t.1 52).1 9), .int ((t.1 52).1 10), .ref (ad 65), .ref (ad 66), .ref (ad 67), .ref (ad 68), .long ((t.1 52).2.1 0), .long ((t.1 52).2.1 1)])), ((ad 53), .inl (1, 108, .inl ((t.1 53).1))), ((ad 61), .inl (0, 108, .inl v_mgr_f)), ((ad 60), .inl (0, 108, .inl (fun k => nI (v_mq_h k))))]) rfl ?_
  refine y_aload_n d_Mm_mould_5 rfl 0 rfl ?_
  refine y_aload_n d_Mm_mould_6 rfl 0 rfl ?_
  refine y_get fs_Mm_7 d_Mm_mould_7 (q0 := 0) rfl rfl ?_
  refine y_callV (As := [.ref (ad 53)]) (rest := []) (csC := [((ad 52), .inr (12, [.int 0, .ref (ad 53), .int (nI ((t.1 52).2.2 0)), .ref (ad 54), .ref (ad 55), .ref (ad 56), .ref (ad 57), .ref (ad 58), .ref (ad 59), .ref (ad 60), .ref (ad 61), .int ((t.1 52).1 0), .int ((t.1 52).1 1), .int ((t.1 52).1 2), .int ((t.1 52).1 3), .int ((t.1 52).1 4), .int ((t.1 52).1 5), .ref (ad 62), .ref (ad 63), .ref (ad 64), .int ((t.1 52).1 6), .int ((t.1 52).1 7), .int ((t.1 52).1 8), .int ((t.1 52).1 9), .int ((t.1 52).1 10), .ref (ad 65), .ref (ad 66), .ref (ad 67), .ref (ad 68), .long ((t.1 52).2.1 0), .long ((t.1 52).2.1 1)])), ((ad 53), .inl (1, 108, .inl ((t.1 53).1))), ((ad 61), .inl (0, 108, .inl v_mgr_f)), ((ad 60), .inl (0, 108, .inl (fun k => nI (v_mq_h k))))]) (is := [0, 1, 2, 3]) (q0 := 0) rfl rfl ln_Mm_123 w_im_Mm_groupIn w_se_Mm_groupIn ok_Mm_mould_Mm_groupIn d_Mm_mould_10 (C_Mm_groupIn9 g (ad 52) (ad 53) (ad 54) (ad 55) (ad 56) (ad 57) (ad 58) (ad 59) (ad 60) (ad 61) (ad 62) (ad 63) (ad 64) (ad 65) (ad 66) (ad 67) (ad 68) 0 (nI ((t.1 52).2.2 0)) ((t.1 52).1 0) ((t.1 52).1 1) ((t.1 52).1 2) ((t.1 52).1 3) ((t.1 52).1 4) ((t.1 52).1 5) ((t.1 52).1 6) ((t.1 52).1 7) ((t.1 52).1 8) ((t.1 52).1 9) ((t.1 52).1 10) ((t.1 52).2.1 0) ((t.1 52).2.1 1) (ad 53) ((t.1 53).1) v_mgr_f v_mq_h) rfl rfl (Nat.le_of_ble_eq_true rfl) rfl (by decide) (by omega) (by omega) (fun E cs1 hx => ?_) (fun v cs1 hx => ?_)
  · exact absurd hx.1 (by simp)
  · obtain ⟨e1, rfl⟩ := hx
    rw [co_r] at e1
    cases e1
    refine ⟨rfl, ?_⟩
    refine y_st (st2 := [.int (nI (coN ((t.1 53).1)))]) rfl ?_
    refine y_cs (cs2 := [((ad 52), .inr (12, [.int 0, .ref (ad 53), .int (nI ((t.1 52).2.2 0)), .ref (ad 54), .ref (ad 55), .ref (ad 56), .ref (ad 57), .ref (ad 58), .ref (ad 59), .ref (ad 60), .ref (ad 61), .int ((t.1 52).1 0), .int ((t.1 52).1 1), .int ((t.1 52).1 2), .int ((t.1 52).1 3), .int ((t.1 52).1 4), .int ((t.1 52).1 5), .ref (ad 62), .ref (ad 63), .ref (ad 64), .int ((t.1 52).1 6), .int ((t.1 52).1 7), .int ((t.1 52).1 8), .int ((t.1 52).1 9), .int ((t.1 52).1 10), .ref (ad 65), .ref (ad 66), .ref (ad 67), .ref (ad 68), .long ((t.1 52).2.1 0), .long ((t.1 52).2.1 1)])), ((ad 53), .inl (1, 108, .inl ((t.1 53).1))), ((ad 61), .inl (0, 108, .inl ((rgS ((t.1 53).1) (fa_fill (fun _ => -1) v_mgr_f 108, v_mq_h, 0) 108).1))), ((ad 60), .inl (0, 108, .inl (fun k => nI ((rgS ((t.1 53).1) (fa_fill (fun _ => -1) v_mgr_f 108, v_mq_h, 0) 108).2.1 k))))]) rfl ?_
    refine y_istore_n (lv' := [(1, .int (nI (coN ((t.1 53).1)))), (0, .ref (ad 52))]) d_Mm_mould_13 rfl (by decide) rfl ?_
    refine y_aload_n d_Mm_mould_14 rfl 1 rfl ?_
    refine y_aload_n d_Mm_mould_15 rfl 1 rfl ?_
    refine y_get fs_Mm_7 d_Mm_mould_16 (q0 := 0) rfl rfl ?_
    refine y_callS (As := [.ref (ad 53)]) (rest := [.ref (ad 52)]) (csC := [((ad 53), .inl (1, 108, .inl ((t.1 53).1)))]) (is := [1]) ln_Mm_137 w_st_Mm_gates ok_Mm_mould_Mm_gates d_Mm_mould_19 (C_Mm_gates g (ad 53) ((t.1 53).1)) rfl rfl (Nat.le_of_ble_eq_true rfl) rfl (by decide) (by omega) (by omega) (fun E cs1 hx => ?_) (fun v cs1 hx => ?_)
    · exact absurd hx.1 (by simp)
    · obtain ⟨e1, rfl⟩ := hx
      cases e1
      refine ⟨rfl, ?_⟩
      refine y_st (st2 := [.int (nI (fa_cnt (fun k => decide (((t.1 53).1) k = 103)) 12)), .ref (ad 52)]) rfl ?_
      refine y_cs (cs2 := [((ad 52), .inr (12, [.int 0, .ref (ad 53), .int (nI ((t.1 52).2.2 0)), .ref (ad 54), .ref (ad 55), .ref (ad 56), .ref (ad 57), .ref (ad 58), .ref (ad 59), .ref (ad 60), .ref (ad 61), .int ((t.1 52).1 0), .int ((t.1 52).1 1), .int ((t.1 52).1 2), .int ((t.1 52).1 3), .int ((t.1 52).1 4), .int ((t.1 52).1 5), .ref (ad 62), .ref (ad 63), .ref (ad 64), .int ((t.1 52).1 6), .int ((t.1 52).1 7), .int ((t.1 52).1 8), .int ((t.1 52).1 9), .int ((t.1 52).1 10), .ref (ad 65), .ref (ad 66), .ref (ad 67), .ref (ad 68), .long ((t.1 52).2.1 0), .long ((t.1 52).2.1 1)])), ((ad 53), .inl (1, 108, .inl ((t.1 53).1))), ((ad 61), .inl (0, 108, .inl ((rgS ((t.1 53).1) (fa_fill (fun _ => -1) v_mgr_f 108, v_mq_h, 0) 108).1))), ((ad 60), .inl (0, 108, .inl (fun k => nI ((rgS ((t.1 53).1) (fa_fill (fun _ => -1) v_mgr_f 108, v_mq_h, 0) 108).2.1 k))))]) rfl ?_
      refine y_if_eq (tgt := 32) d_Mm_mould_22 (by decide) (fun c_22 => ?_) (fun c_22 => ?_)
      · exact absurd (nI_z (by have := fa_cnt_le (fun k => decide (((t.1 53).1) k = 103)) 12; omega) c_22) hg
      · refine y_aload_n d_Mm_mould_25 rfl 1 rfl ?_
        refine y_callV (As := []) (rest := [.ref (ad 52)]) (csC := [((ad 52), .inr (12, [.int 0, .ref (ad 53), .int (nI ((t.1 52).2.2 0)), .ref (ad 54), .ref (ad 55), .ref (ad 56), .ref (ad 57), .ref (ad 58), .ref (ad 59), .ref (ad 60), .ref (ad 61), .int ((t.1 52).1 0), .int ((t.1 52).1 1), .int ((t.1 52).1 2), .int ((t.1 52).1 3), .int ((t.1 52).1 4), .int ((t.1 52).1 5), .ref (ad 62), .ref (ad 63), .ref (ad 64), .int ((t.1 52).1 6), .int ((t.1 52).1 7), .int ((t.1 52).1 8), .int ((t.1 52).1 9), .int ((t.1 52).1 10), .ref (ad 65), .ref (ad 66), .ref (ad 67), .ref (ad 68), .long ((t.1 52).2.1 0), .long ((t.1 52).2.1 1)])), ((ad 53), .inl (1, 108, .inl ((t.1 53).1)))]) (is := [0, 1]) (q0 := 0) rfl rfl ln_Mm_281 w_im_Mm_hasCasting w_se_Mm_hasCasting ok_Mm_mould_Mm_hasCasting d_Mm_mould_26 (C_Mm_hasCasting9 g (ad 52) (ad 53) (ad 54) (ad 55) (ad 56) (ad 57) (ad 58) (ad 59) (ad 60) (ad 61) (ad 62) (ad 63) (ad 64) (ad 65) (ad 66) (ad 67) (ad 68) 0 (nI ((t.1 52).2.2 0)) ((t.1 52).1 0) ((t.1 52).1 1) ((t.1 52).1 2) ((t.1 52).1 3) ((t.1 52).1 4) ((t.1 52).1 5) ((t.1 52).1 6) ((t.1 52).1 7) ((t.1 52).1 8) ((t.1 52).1 9) ((t.1 52).1 10) ((t.1 52).2.1 0) ((t.1 52).2.1 1) ((t.1 53).1)) rfl rfl (Nat.le_of_ble_eq_true rfl) rfl (by decide) (by omega) (by omega) (fun E cs1 hx => ?_) (fun v cs1 hx => ?_)
        · exact absurd hx.1 (by simp)
        · obtain ⟨e1, rfl⟩ := hx
          cases e1
          refine ⟨rfl, ?_⟩
          refine y_st (st2 := [.int (z_bi (anB (fun k => decide (((t.1 53).1) k = 99)) 108)), .ref (ad 52)]) rfl ?_
          refine y_cs (cs2 := [((ad 52), .inr (12, [.int 0, .ref (ad 53), .int (nI ((t.1 52).2.2 0)), .ref (ad 54), .ref (ad 55), .ref (ad 56), .ref (ad 57), .ref (ad 58), .ref (ad 59), .ref (ad 60), .ref (ad 61), .int ((t.1 52).1 0), .int ((t.1 52).1 1), .int ((t.1 52).1 2), .int ((t.1 52).1 3), .int ((t.1 52).1 4), .int ((t.1 52).1 5), .ref (ad 62), .ref (ad 63), .ref (ad 64), .int ((t.1 52).1 6), .int ((t.1 52).1 7), .int ((t.1 52).1 8), .int ((t.1 52).1 9), .int ((t.1 52).1 10), .ref (ad 65), .ref (ad 66), .ref (ad 67), .ref (ad 68), .long ((t.1 52).2.1 0), .long ((t.1 52).2.1 1)])), ((ad 53), .inl (1, 108, .inl ((t.1 53).1))), ((ad 61), .inl (0, 108, .inl ((rgS ((t.1 53).1) (fa_fill (fun _ => -1) v_mgr_f 108, v_mq_h, 0) 108).1))), ((ad 60), .inl (0, 108, .inl (fun k => nI ((rgS ((t.1 53).1) (fa_fill (fun _ => -1) v_mgr_f 108, v_mq_h, 0) 108).2.1 k))))]) rfl ?_
          refine y_if_ne (tgt := 36) d_Mm_mould_29 (by decide) (fun c_29 => ?_) (fun c_29 => ?_)
          · refine y_iconst d_Mm_mould_36 (v := 0) (by decide) ?_
            refine y_iconst d_Mm_mould_37 (v := 1) (by decide) ?_
            refine y_callV (As := [.int 0, .int 1]) (rest := []) (csC := [((ad 52), .inr (12, [.int 0, .ref (ad 53), .int (nI ((t.1 52).2.2 0)), .ref (ad 54), .ref (ad 55), .ref (ad 56), .ref (ad 57), .ref (ad 58), .ref (ad 59), .ref (ad 60), .ref (ad 61), .int ((t.1 52).1 0), .int ((t.1 52).1 1), .int ((t.1 52).1 2), .int ((t.1 52).1 3), .int ((t.1 52).1 4), .int ((t.1 52).1 5), .ref (ad 62), .ref (ad 63), .ref (ad 64), .int ((t.1 52).1 6), .int ((t.1 52).1 7), .int ((t.1 52).1 8), .int ((t.1 52).1 9), .int ((t.1 52).1 10), .ref (ad 65), .ref (ad 66), .ref (ad 67), .ref (ad 68), .long ((t.1 52).2.1 0), .long ((t.1 52).2.1 1)]))]) (is := [0]) (q0 := 0) rfl rfl ln_Mm_103 w_im_Mm_fails w_se_Mm_fails ok_Mm_mould_Mm_fails d_Mm_mould_38 (C_Mm_fails0 g (ad 52) (ad 53) (ad 54) (ad 55) (ad 56) (ad 57) (ad 58) (ad 59) (ad 60) (ad 61) (ad 62) (ad 63) (ad 64) (ad 65) (ad 66) (ad 67) (ad 68) 0 (nI ((t.1 52).2.2 0)) ((t.1 52).1 0) ((t.1 52).1 1) ((t.1 52).1 2) ((t.1 52).1 3) ((t.1 52).1 4) ((t.1 52).1 5) ((t.1 52).1 6) ((t.1 52).1 7) ((t.1 52).1 8) ((t.1 52).1 9) ((t.1 52).1 10) ((t.1 52).2.1 0) ((t.1 52).2.1 1) 1) rfl rfl (Nat.le_of_ble_eq_true rfl) rfl (by decide) (by omega) (by omega) (fun E cs1 hx => ?_) (fun v cs1 hx => ?_)
            · exact absurd hx.1 (by simp)
            · obtain ⟨e1, rfl⟩ := hx
              cases e1
              refine ⟨rfl, ?_⟩
              refine y_st (st2 := [.int 0]) rfl ?_
              refine y_cs (cs2 := [((ad 52), .inr (12, [.int 0, .ref (ad 53), .int (nI ((t.1 52).2.2 0)), .ref (ad 54), .ref (ad 55), .ref (ad 56), .ref (ad 57), .ref (ad 58), .ref (ad 59), .ref (ad 60), .ref (ad 61), .int ((t.1 52).1 0), .int ((t.1 52).1 1), .int ((t.1 52).1 2), .int ((t.1 52).1 3), .int ((t.1 52).1 4), .int ((t.1 52).1 5), .ref (ad 62), .ref (ad 63), .ref (ad 64), .int ((t.1 52).1 6), .int ((t.1 52).1 7), .int ((t.1 52).1 8), .int ((t.1 52).1 9), .int ((t.1 52).1 10), .ref (ad 65), .ref (ad 66), .ref (ad 67), .ref (ad 68), .long ((t.1 52).2.1 0), .long ((t.1 52).2.1 1)])), ((ad 53), .inl (1, 108, .inl ((t.1 53).1))), ((ad 61), .inl (0, 108, .inl ((rgS ((t.1 53).1) (fa_fill (fun _ => -1) v_mgr_f 108, v_mq_h, 0) 108).1))), ((ad 60), .inl (0, 108, .inl (fun k => nI ((rgS ((t.1 53).1) (fa_fill (fun _ => -1) v_mgr_f 108, v_mq_h, 0) 108).2.1 k))))]) rfl ?_
              refine y_if_ne (tgt := 90) d_Mm_mould_41 (by decide) (fun c_41 => ?_) (fun c_41 => ?_)
              · exact absurd c_41 (by decide)
              · refine y_aload_n d_Mm_mould_44 rfl 1 rfl ?_
                refine y_iload_n d_Mm_mould_45 rfl 0 rfl ?_
                refine y_aload_n d_Mm_mould_46 rfl 1 rfl ?_
                refine yw_callV (As := []) (rest := [.int (nI (coN ((t.1 53).1))), .ref (ad 52)]) (q0 := 0) rfl rfl ln_Mm_226 w_im_Mm_good w_se_Mm_good ok_Mm_mould_Mm_good d_Mm_mould_47 (fun wA hA => Qx_good (hI.gen (t2 := t) (is := [52, 53, 61, 60]) (L2 := []) hA rfl ⟨kd_52.mpr ⟨_, rfl⟩, kd_53.mpr rfl, kd_61.mpr ⟨_, rfl⟩, kd_60.mpr ⟨_, rfl⟩, trivial⟩ (by decide) (by decide) (fun _ h => nomatch h) (fun _ h => nomatch h) (fun _ _ _ => rfl) (fun h => h) rfl)) rfl rfl (Nat.le_of_ble_eq_true rfl) (by omega) (by omega) (fun wA47 hA47 E wB47 hx => ?_) (fun wA47 hA47 v wB47 hx => ?_)
                · exact absurd hx.1 (by simp)
                · obtain ⟨e1, e2⟩ := hx
                  cases e1
                  refine yw_st (st2 := [.int (gdS ((t.1 52).1 5) (t.2 2) (u.1 2)), .int (nI (coN ((t.1 53).1))), .ref (ad 52)]) rfl ?_
                  subst e2
                  refine y_go hA47 ?_
                  refine y_icmp_le (tgt := 57) d_Mm_mould_50 (by decide) (fun c_50 => ?_) (fun c_50 => ?_)
                  · refine y_iconst d_Mm_mould_57 (v := 0) (by decide) ?_
                    refine y_iconst d_Mm_mould_58 (v := 2) (by decide) ?_
                    refine y_callV (As := [.int 0, .int 2]) (rest := []) (csC := [((ad 52), .inr (12, [.int 0, .ref (ad 53), .int (nI ((t.1 52).2.2 0)), .ref (ad 54), .ref (ad 55), .ref (ad 56), .ref (ad 57), .ref (ad 58), .ref (ad 59), .ref (ad 60), .ref (ad 61), .int ((t.1 52).1 0), .int ((t.1 52).1 1), .int ((t.1 52).1 2), .int ((t.1 52).1 3), .int ((t.1 52).1 4), .int ((t.1 52).1 5), .ref (ad 62), .ref (ad 63), .ref (ad 64), .int ((t.1 52).1 6), .int ((t.1 52).1 7), .int ((t.1 52).1 8), .int ((t.1 52).1 9), .int ((t.1 52).1 10), .ref (ad 65), .ref (ad 66), .ref (ad 67), .ref (ad 68), .long ((t.1 52).2.1 0), .long ((t.1 52).2.1 1)]))]) (is := [0]) (q0 := 0) rfl rfl ln_Mm_103 w_im_Mm_fails w_se_Mm_fails ok_Mm_mould_Mm_fails d_Mm_mould_59 (C_Mm_fails0 g (ad 52) (ad 53) (ad 54) (ad 55) (ad 56) (ad 57) (ad 58) (ad 59) (ad 60) (ad 61) (ad 62) (ad 63) (ad 64) (ad 65) (ad 66) (ad 67) (ad 68) 0 (nI ((t.1 52).2.2 0)) ((t.1 52).1 0) ((t.1 52).1 1) ((t.1 52).1 2) ((t.1 52).1 3) ((t.1 52).1 4) ((t.1 52).1 5) ((t.1 52).1 6) ((t.1 52).1 7) ((t.1 52).1 8) ((t.1 52).1 9) ((t.1 52).1 10) ((t.1 52).2.1 0) ((t.1 52).2.1 1) 2) rfl rfl (Nat.le_of_ble_eq_true rfl) rfl (by decide) (by omega) (by omega) (fun E cs1 hx => ?_) (fun v cs1 hx => ?_)
                    · exact absurd hx.1 (by simp)
                    · obtain ⟨e1, rfl⟩ := hx
                      cases e1
                      refine ⟨rfl, ?_⟩
                      refine y_st (st2 := [.int 0]) rfl ?_
                      refine y_cs (cs2 := [((ad 52), .inr (12, [.int 0, .ref (ad 53), .int (nI ((t.1 52).2.2 0)), .ref (ad 54), .ref (ad 55), .ref (ad 56), .ref (ad 57), .ref (ad 58), .ref (ad 59), .ref (ad 60), .ref (ad 61), .int ((t.1 52).1 0), .int ((t.1 52).1 1), .int ((t.1 52).1 2), .int ((t.1 52).1 3), .int ((t.1 52).1 4), .int ((t.1 52).1 5), .ref (ad 62), .ref (ad 63), .ref (ad 64), .int ((t.1 52).1 6), .int ((t.1 52).1 7), .int ((t.1 52).1 8), .int ((t.1 52).1 9), .int ((t.1 52).1 10), .ref (ad 65), .ref (ad 66), .ref (ad 67), .ref (ad 68), .long ((t.1 52).2.1 0), .long ((t.1 52).2.1 1)])), ((ad 53), .inl (1, 108, .inl ((t.1 53).1))), ((ad 61), .inl (0, 108, .inl ((rgS ((t.1 53).1) (fa_fill (fun _ => -1) v_mgr_f 108, v_mq_h, 0) 108).1))), ((ad 60), .inl (0, 108, .inl (fun k => nI ((rgS ((t.1 53).1) (fa_fill (fun _ => -1) v_mgr_f 108, v_mq_h, 0) 108).2.1 k))))]) rfl ?_
                      refine y_if_ne (tgt := 90) d_Mm_mould_62 (by decide) (fun c_62 => ?_) (fun c_62 => ?_)
                      · exact absurd c_62 (by decide)
                      · refine y_aload_n d_Mm_mould_65 rfl 1 rfl ?_
                        refine y_aload_n d_Mm_mould_66 rfl 1 rfl ?_
                        refine y_get fs_Mm_72 d_Mm_mould_67 (q0 := 0) rfl rfl ?_
                        refine yw_callVL (As := []) (rest := [.ref (ad 52)]) (ci := 13) rfl (fun wA hA => ((hI.gen (t2 := t) (is := [52, 53, 61, 60]) (L2 := []) hA rfl ⟨kd_52.mpr ⟨_, rfl⟩, kd_53.mpr rfl, kd_61.mpr ⟨_, rfl⟩, kd_60.mpr ⟨_, rfl⟩, trivial⟩ (by decide) (by decide) (fun _ h => nomatch h) (fun _ h => nomatch h) (fun _ _ _ => rfl) (fun h => h) rfl).2.1.1 3 (by decide)).ob) ln_Mm_208 w_im_AL_size w_se_AL_size ok_Mm_mould_AL_size d_Mm_mould_70 (fun wA hA => Q_size ((hI.gen (t2 := t) (is := [52, 53, 61, 60]) (L2 := []) hA rfl ⟨kd_52.mpr ⟨_, rfl⟩, kd_53.mpr rfl, kd_61.mpr ⟨_, rfl⟩, kd_60.mpr ⟨_, rfl⟩, trivial⟩ (by decide) (by decide) (fun _ h => nomatch h) (fun _ h => nomatch h) (fun _ _ _ => rfl) (fun h => h) rfl).2.1.1 3 (by decide))) rfl rfl (Nat.le_of_ble_eq_true rfl) (by omega) (by omega) (fun wA70 hA70 E wB70 hx => ?_) (fun wA70 hA70 v wB70 hx => ?_)
                        · exact absurd hx.1 (by simp)
                        · obtain ⟨e1, e2⟩ := hx
                          cases e1
                          refine yw_st (st2 := [.int (nI (u.1 3)), .ref (ad 52)]) rfl ?_
                          subst e2
                          refine y_go hA70 ?_
                          refine y_bipush d_Mm_mould_73 (v := 10) (by decide) ?_
                          refine y_icmp_ne (tgt := 82) d_Mm_mould_75 (by decide) (fun c_75 => ?_) (fun c_75 => ?_)
                          · exact absurd (by rw [hs]; rfl) c_75
                          · refine y_iconst d_Mm_mould_78 (v := 1) (by decide) ?_
                            refine y_goto (tgt := 83) d_Mm_mould_79 (by decide) ?_
                            refine y_iconst d_Mm_mould_83 (v := 3) (by decide) ?_
                            refine y_callV (As := [.int 1, .int 3]) (rest := []) (csC := [((ad 52), .inr (12, [.int 0, .ref (ad 53), .int (nI ((t.1 52).2.2 0)), .ref (ad 54), .ref (ad 55), .ref (ad 56), .ref (ad 57), .ref (ad 58), .ref (ad 59), .ref (ad 60), .ref (ad 61), .int ((t.1 52).1 0), .int ((t.1 52).1 1), .int ((t.1 52).1 2), .int ((t.1 52).1 3), .int ((t.1 52).1 4), .int ((t.1 52).1 5), .ref (ad 62), .ref (ad 63), .ref (ad 64), .int ((t.1 52).1 6), .int ((t.1 52).1 7), .int ((t.1 52).1 8), .int ((t.1 52).1 9), .int ((t.1 52).1 10), .ref (ad 65), .ref (ad 66), .ref (ad 67), .ref (ad 68), .long ((t.1 52).2.1 0), .long ((t.1 52).2.1 1)]))]) (is := [0]) (q0 := 0) rfl rfl ln_Mm_103 w_im_Mm_fails w_se_Mm_fails ok_Mm_mould_Mm_fails d_Mm_mould_84 (C_Mm_fails3 g (ad 52) (ad 53) (ad 54) (ad 55) (ad 56) (ad 57) (ad 58) (ad 59) (ad 60) (ad 61) (ad 62) (ad 63) (ad 64) (ad 65) (ad 66) (ad 67) (ad 68) 0 (nI ((t.1 52).2.2 0)) ((t.1 52).1 0) ((t.1 52).1 1) ((t.1 52).1 2) ((t.1 52).1 3) ((t.1 52).1 4) ((t.1 52).1 5) ((t.1 52).1 6) ((t.1 52).1 7) ((t.1 52).1 8) ((t.1 52).1 9) ((t.1 52).1 10) ((t.1 52).2.1 0) ((t.1 52).2.1 1)) rfl rfl (Nat.le_of_ble_eq_true rfl) rfl (by decide) (by omega) (by omega) (fun E cs1 hx => ?_) (fun v cs1 hx => ?_)
                            · exact absurd hx.1 (by simp)
                            · obtain ⟨e1, rfl⟩ := hx
                              cases e1
                              refine ⟨rfl, ?_⟩
                              refine y_st (st2 := [.int 1]) rfl ?_
                              refine y_cs (cs2 := [((ad 52), .inr (12, [.int 3, .ref (ad 53), .int (nI ((t.1 52).2.2 0)), .ref (ad 54), .ref (ad 55), .ref (ad 56), .ref (ad 57), .ref (ad 58), .ref (ad 59), .ref (ad 60), .ref (ad 61), .int ((t.1 52).1 0), .int ((t.1 52).1 1), .int ((t.1 52).1 2), .int ((t.1 52).1 3), .int ((t.1 52).1 4), .int ((t.1 52).1 5), .ref (ad 62), .ref (ad 63), .ref (ad 64), .int ((t.1 52).1 6), .int ((t.1 52).1 7), .int ((t.1 52).1 8), .int ((t.1 52).1 9), .int ((t.1 52).1 10), .ref (ad 65), .ref (ad 66), .ref (ad 67), .ref (ad 68), .long ((t.1 52).2.1 0), .long ((t.1 52).2.1 1)])), ((ad 53), .inl (1, 108, .inl ((t.1 53).1))), ((ad 61), .inl (0, 108, .inl ((rgS ((t.1 53).1) (fa_fill (fun _ => -1) v_mgr_f 108, v_mq_h, 0) 108).1))), ((ad 60), .inl (0, 108, .inl (fun k => nI ((rgS ((t.1 53).1) (fa_fill (fun _ => -1) v_mgr_f 108, v_mq_h, 0) 108).2.1 k))))]) rfl ?_
                              refine y_if_eq (tgt := 92) d_Mm_mould_87 (by decide) (fun c_87 => ?_) (fun c_87 => ?_)
                              · exact absurd c_87 (by decide)
                              · refine y_iconst d_Mm_mould_90 (v := 0) (by decide) ?_
                                refine y_iret d_Mm_mould_91 rfl rfl ?_
                                exact fun w1 h1 => ⟨rfl, (hI.gen (t2 := t) (is := [52, 53, 61, 60]) (L2 := []) h1 rfl ⟨kd_52.mpr ⟨_, rfl⟩, kd_53.mpr rfl, kd_61.mpr ⟨_, rfl⟩, kd_60.mpr ⟨_, rfl⟩, trivial⟩ (by decide) (by decide) (fun _ h => nomatch h) (fun _ h => nomatch h) (fun _ _ _ => rfl) (fun h => h) rfl)⟩
                  · exact absurd hn c_50
          · exact absurd (z_bi0 c_29) (by rw [hc]; decide)
theorem d_Mm_mould_82 : decode prog_14_method_74_code 82 = .ok (.iconst 0, 1) := zo_3 (zd_b zq_prog_14_method_74_code_2 18 rfl rfl rfl)
theorem d_Mm_mould_92 : decode prog_14_method_74_code 92 = .ok (.bipush 108, 2) := zo_16 (d := 108) (zd_b zq_prog_14_method_74_code_2 28 rfl rfl rfl) (zd_b zq_prog_14_method_74_code_2 29 rfl rfl rfl) (by decide +kernel)
theorem d_Mm_mould_94 : decode prog_14_method_74_code 94 = .ok (.newarray .char, 2) := by decide +kernel
theorem d_Mm_mould_96 : decode prog_14_method_74_code 96 = .ok (.astore_n 2, 1) := zo_77 (zd_b zq_prog_14_method_74_code_3 0 rfl rfl rfl)
theorem d_Mm_mould_97 : decode prog_14_method_74_code 97 = .ok (.iconst 0, 1) := zo_3 (zd_b zq_prog_14_method_74_code_3 1 rfl rfl rfl)
theorem d_Mm_mould_98 : decode prog_14_method_74_code 98 = .ok (.istore_n 3, 1) := zo_62 (zd_b zq_prog_14_method_74_code_3 2 rfl rfl rfl)
theorem d_Mm_mould_120 : decode prog_14_method_74_code 120 = .ok (.iconst 5, 1) := zo_8 (zd_b zq_prog_14_method_74_code_3 24 rfl rfl rfl)
theorem d_Mm_mould_121 : decode prog_14_method_74_code 121 = .ok (.newarray .int, 2) := by decide +kernel
theorem d_Mm_mould_123 : decode prog_14_method_74_code 123 = .ok (.astore_n 3, 1) := zo_78 (zd_b zq_prog_14_method_74_code_3 27 rfl rfl rfl)
theorem d_Mm_mould_124 : decode prog_14_method_74_code 124 = .ok (.aload_n 3, 1) := zo_45 (zd_b zq_prog_14_method_74_code_3 28 rfl rfl rfl)
theorem d_Mm_mould_125 : decode prog_14_method_74_code 125 = .ok (.iconst 0, 1) := zo_3 (zd_b zq_prog_14_method_74_code_3 29 rfl rfl rfl)
theorem d_Mm_mould_126 : decode prog_14_method_74_code 126 = .ok (.aload_n 0, 1) := zo_42 (zd_b zq_prog_14_method_74_code_3 30 rfl rfl rfl)
theorem d_Mm_mould_127 : decode prog_14_method_74_code 127 = .ok (.getfield 13, 3) := zo_180 (d := 0) (e := 13) (zd_b zq_prog_14_method_74_code_3 31 rfl rfl rfl) (zd_b zq_prog_14_method_74_code_4 0 rfl rfl rfl) (zd_b zq_prog_14_method_74_code_4 1 rfl rfl rfl)
theorem d_Mm_mould_130 : decode prog_14_method_74_code 130 = .ok (.iastore, 1) := zo_79 (zd_b zq_prog_14_method_74_code_4 2 rfl rfl rfl)
theorem d_Mm_mould_131 : decode prog_14_method_74_code 131 = .ok (.aload_n 3, 1) := zo_45 (zd_b zq_prog_14_method_74_code_4 3 rfl rfl rfl)
theorem d_Mm_mould_132 : decode prog_14_method_74_code 132 = .ok (.iconst 1, 1) := zo_4 (zd_b zq_prog_14_method_74_code_4 4 rfl rfl rfl)
theorem d_Mm_mould_133 : decode prog_14_method_74_code 133 = .ok (.aload_n 0, 1) := zo_42 (zd_b zq_prog_14_method_74_code_4 5 rfl rfl rfl)
theorem d_Mm_mould_134 : decode prog_14_method_74_code 134 = .ok (.invokevirtual 199, 3) := zo_182 (d := 0) (e := 199) (zd_b zq_prog_14_method_74_code_4 6 rfl rfl rfl) (zd_b zq_prog_14_method_74_code_4 7 rfl rfl rfl) (zd_b zq_prog_14_method_74_code_4 8 rfl rfl rfl)
theorem ok_Mm_mould_Mm_strength : z_ok M_Mm_mould M_Mm_strength 0 := ⟨z_mj8 (i := 109) rfl (by decide +kernel), rfl, ⟨by decide +kernel, by decide +kernel, by decide +kernel⟩, ⟨by decide, by decide⟩, z_mj1 (i := 14) rfl (by decide +kernel), rfl⟩
theorem d_Mm_mould_137 : decode prog_14_method_74_code 137 = .ok (.iastore, 1) := zo_79 (zd_b zq_prog_14_method_74_code_4 9 rfl rfl rfl)
theorem d_Mm_mould_138 : decode prog_14_method_74_code 138 = .ok (.aload_n 3, 1) := zo_45 (zd_b zq_prog_14_method_74_code_4 10 rfl rfl rfl)
theorem d_Mm_mould_139 : decode prog_14_method_74_code 139 = .ok (.iconst 2, 1) := zo_5 (zd_b zq_prog_14_method_74_code_4 11 rfl rfl rfl)
theorem d_Mm_mould_140 : decode prog_14_method_74_code 140 = .ok (.aload_n 0, 1) := zo_42 (zd_b zq_prog_14_method_74_code_4 12 rfl rfl rfl)
