set_option maxHeartbeats 4000000 in
set_option maxRecDepth 100000 in
theorem Qx_Mm_pourF {g : zG} {ad : Nat → Nat} {t : zTT} {u : zNN} {w : zW} (hI : IV g ad t u w) (h0 : ¬ u.1 3 = 0) (h1 : ¬ (¬ (t.1 63).1 1 = 0 ∧ 1250 ≤ (t.1 52).1 6)) : zMB g M_Mm_pour [.ref (ad 52)] w (fun o w1 => o = .inl (some (.int 0)) ∧ IV g ad t u w1) 4 76 := by
  obtain ⟨e_m, wf_m, k_m⟩ := hI.1.2 52 (by decide)
  obtain ⟨v_m_th, rfl⟩ := kd_52.mp k_m
  obtain ⟨e_mi, wf_mi, k_mi⟩ := hI.1.2 63 (by decide)
  obtain rfl := kd_63.mp k_mi
  obtain ⟨e_mr, wf_mr, k_mr⟩ := hI.1.2 64 (by decide)
  obtain rfl := kd_64.mp k_mr
  obtain ⟨e_mf, wf_mf, k_mf⟩ := hI.1.2 54 (by decide)
  obtain ⟨v_mf_f, rfl⟩ := kd_54.mp k_mf
  obtain ⟨e_mh, wf_mh, k_mh⟩ := hI.1.2 55 (by decide)
  obtain ⟨v_mh_f, rfl⟩ := kd_55.mp k_mh
  obtain ⟨e_mn, wf_mn, k_mn⟩ := hI.1.2 56 (by decide)
  obtain ⟨v_mn_f, rfl⟩ := kd_56.mp k_mn
  obtain ⟨e_mt, wf_mt, k_mt⟩ := hI.1.2 57 (by decide)
  obtain ⟨v_mt_f, rfl⟩ := kd_57.mp k_mt
  obtain ⟨e_mz, wf_mz, k_mz⟩ := hI.1.2 58 (by decide)
  obtain ⟨v_mz_f, rfl⟩ := kd_58.mp k_mz
  obtain ⟨e_mc_, wf_mc_, k_mc_⟩ := hI.1.2 59 (by decide)
  obtain ⟨v_mc__f, rfl⟩ := kd_59.mp k_mc_
  obtain ⟨e_mq, wf_mq, k_mq⟩ := hI.1.2 60 (by decide)
  obtain ⟨v_mq_h, rfl⟩ := kd_60.mp k_mq
  obtain ⟨e_mgr, wf_mgr, k_mgr⟩ := hI.1.2 61 (by decide)
  obtain ⟨v_mgr_f, rfl⟩ := kd_61.mp k_mgr
  refine y_of (by decide) rfl (Nat.le_of_ble_eq_true rfl) (y_base (cs := [((ad 52), .inr (12, [.int v_m_th, .ref (ad 53), .int (nI ((t.1 52).2.2 0)), .ref (ad 54), .ref (ad 55), .ref (ad 56), .ref (ad 57), .ref (ad 58), .ref (ad 59), .ref (ad 60), .ref (ad 61), .int ((t.1 52).1 0), .int ((t.1 52).1 1), .int ((t.1 52).1 2), .int ((t.1 52).1 3), .int ((t.1 52).1 4), .int ((t.1 52).1 5), .ref (ad 62), .ref (ad 63), .ref (ad 64), .int ((t.1 52).1 6), .int ((t.1 52).1 7), .int ((t.1 52).1 8), .int ((t.1 52).1 9), .int ((t.1 52).1 10), .ref (ad 65), .ref (ad 66), .ref (ad 67), .ref (ad 68), .long ((t.1 52).2.1 0), .long ((t.1 52).2.1 1)])), ((ad 63), .inl (0, 4, .inl ((t.1 63).1))), ((ad 64), .inl (3, 16, .inr (.inl ((t.1 64).2.1)))), ((ad 54), .inl (0, 108, .inl v_mf_f)), ((ad 55), .inl (0, 108, .inl v_mh_f)), ((ad 56), .inl (0, 108, .inl v_mn_f)), ((ad 57), .inl (0, 108, .inl v_mt_f)), ((ad 58), .inl (0, 108, .inl v_mz_f)), ((ad 59), .inl (2, 108, .inl v_mc__f)), ((ad 60), .inl (0, 108, .inl (fun k => nI (v_mq_h k)))), ((ad 61), .inl (0, 108, .inl v_mgr_f))]) (hI.1.I [52, 63, 64, 54, 55, 56, 57, 58, 59, 60, 61] _ rfl (by decide) (by decide) (List.forall_mem_cons.mpr ⟨wf_m, (List.forall_mem_cons.mpr ⟨wf_mi, (List.forall_mem_cons.mpr ⟨wf_mr, (List.forall_mem_cons.mpr ⟨wf_mf, (List.forall_mem_cons.mpr ⟨wf_mh, (List.forall_mem_cons.mpr ⟨wf_mn, (List.forall_mem_cons.mpr ⟨wf_mt, (List.forall_mem_cons.mpr ⟨wf_mz, (List.forall_mem_cons.mpr ⟨wf_mc_, (List.forall_mem_cons.mpr ⟨wf_mq, (List.forall_mem_cons.mpr ⟨wf_mgr, (fun _ h => nomatch h)⟩)⟩)⟩)⟩)⟩)⟩)⟩)⟩)⟩)⟩)⟩)) ?_)
  refine y_lvE (lv2 := [(0, .ref (ad 52))]) rfl ?_
  refine y_aload_n d_Mm_pour_0 rfl 0 rfl ?_
  refine y_iconst d_Mm_pour_1 (v := 0) (by decide) ?_
  refine y_put fp_Mm_84 d_Mm_pour_2 (fun h => nomatch h) rfl rfl (q0 := 0) rfl (Nat.le_of_ble_eq_true rfl) (cs' := [((ad 52), .inr (12, [.int 0, .ref (ad 53), .int (nI ((t.1 52).2.2 0)), .ref (ad 54), .ref (ad 55), .ref (ad 56), .ref (ad 57), .ref (ad 58), .ref (ad 59), .ref (ad 60), .ref (ad 61), .int ((t.1 52).1 0), .int ((t.1 52).1 1), .int ((t.1 52).1 2), .int ((t.1 52).1 3), .int ((t.1 52).1 4), .int ((t.1 52).1 5), .ref (ad 62), .ref (ad 63), .ref (ad 64), .int ((t.1 52).1 6), .int ((t.1 52).1 7), .int ((t.1 52).1 8), .int ((t.1 52).1 9), .int ((t.1 52).1 10), .ref (ad 65), .ref (ad 66), .ref (ad 67), .ref (ad 68), .long ((t.1 52).2.1 0), .long ((t.1 52).2.1 1)])), ((ad 63), .inl (0, 4, .inl ((t.1 63).1))), ((ad 64), .inl (3, 16, .inr (.inl ((t.1 64).2.1)))), ((ad 54), .inl (0, 108, .inl v_mf_f)), ((ad 55), .inl (0, 108, .inl v_mh_f)), ((ad 56), .inl (0, 108, .inl v_mn_f)), ((ad 57), .inl (0, 108, .inl v_mt_f)), ((ad 58), .inl (0, 108, .inl v_mz_f)), ((ad 59), .inl (2, 108, .inl v_mc__f)), ((ad 60), .inl (0, 108, .inl (fun k => nI (v_mq_h k)))), ((ad 61), .inl (0, 108, .inl v_mgr_f))]) rfl ?_
  refine y_aload_n d_Mm_pour_5 rfl 0 rfl ?_
  refine y_aload_n d_Mm_pour_6 rfl 0 rfl ?_
  refine y_get fs_Mm_72 d_Mm_pour_7 (q0 := 0) rfl rfl ?_
  refine yw_callVL (As := []) (rest := [.ref (ad 52)]) (ci := 13) rfl (fun wA hA => ((hI.gen (t2 := t) (is := [52, 63, 64, 54, 55, 56, 57, 58, 59, 60, 61]) (L2 := []) hA rfl ⟨kd_52.mpr ⟨_, rfl⟩, kd_63.mpr rfl, kd_64.mpr rfl, kd_54.mpr ⟨_, rfl⟩, kd_55.mpr ⟨_, rfl⟩, kd_56.mpr ⟨_, rfl⟩, kd_57.mpr ⟨_, rfl⟩, kd_58.mpr ⟨_, rfl⟩, kd_59.mpr ⟨_, rfl⟩, kd_60.mpr ⟨_, rfl⟩, kd_61.mpr ⟨_, rfl⟩, trivial⟩ (by decide) (by decide) (fun _ h => nomatch h) (fun _ h => nomatch h) (fun _ _ _ => rfl) (fun h => h) rfl).2.1.1 3 (by decide)).ob) ln_Mm_289 w_im_AL_isEmpty w_se_AL_isEmpty ok_Mm_pour_AL_isEmpty d_Mm_pour_10 (fun wA hA => Q_isEmpty ((hI.gen (t2 := t) (is := [52, 63, 64, 54, 55, 56, 57, 58, 59, 60, 61]) (L2 := []) hA rfl ⟨kd_52.mpr ⟨_, rfl⟩, kd_63.mpr rfl, kd_64.mpr rfl, kd_54.mpr ⟨_, rfl⟩, kd_55.mpr ⟨_, rfl⟩, kd_56.mpr ⟨_, rfl⟩, kd_57.mpr ⟨_, rfl⟩, kd_58.mpr ⟨_, rfl⟩, kd_59.mpr ⟨_, rfl⟩, kd_60.mpr ⟨_, rfl⟩, kd_61.mpr ⟨_, rfl⟩, trivial⟩ (by decide) (by decide) (fun _ h => nomatch h) (fun _ h => nomatch h) (fun _ _ _ => rfl) (fun h => h) rfl).2.1.1 3 (by decide))) rfl rfl (Nat.le_of_ble_eq_true rfl) (by omega) (by omega) (fun wA10 hA10 E wB10 hx => ?_) (fun wA10 hA10 v wB10 hx => ?_)
  · exact absurd hx.1 (by simp)
  · obtain ⟨e1, e2⟩ := hx
    rw [if_neg h0] at e1
    cases e1
    refine yw_st (st2 := [.int 0, .ref (ad 52)]) rfl ?_
    subst e2
    refine y_go hA10 ?_
    refine y_iconst d_Mm_pour_13 (v := 1) (by decide) ?_
    refine y_callV (As := [.int 0, .int 1]) (rest := []) (csC := [((ad 52), .inr (12, [.int 0, .ref (ad 53), .int (nI ((t.1 52).2.2 0)), .ref (ad 54), .ref (ad 55), .ref (ad 56), .ref (ad 57), .ref (ad 58), .ref (ad 59), .ref (ad 60), .ref (ad 61), .int ((t.1 52).1 0), .int ((t.1 52).1 1), .int ((t.1 52).1 2), .int ((t.1 52).1 3), .int ((t.1 52).1 4), .int ((t.1 52).1 5), .ref (ad 62), .ref (ad 63), .ref (ad 64), .int ((t.1 52).1 6), .int ((t.1 52).1 7), .int ((t.1 52).1 8), .int ((t.1 52).1 9), .int ((t.1 52).1 10), .ref (ad 65), .ref (ad 66), .ref (ad 67), .ref (ad 68), .long ((t.1 52).2.1 0), .long ((t.1 52).2.1 1)]))]) (is := [0]) (q0 := 0) rfl rfl ln_Mm_103 w_im_Mm_fails w_se_Mm_fails ok_Mm_pour_Mm_fails d_Mm_pour_14 (C_Mm_fails0 g (ad 52) (ad 53) (ad 54) (ad 55) (ad 56) (ad 57) (ad 58) (ad 59) (ad 60) (ad 61) (ad 62) (ad 63) (ad 64) (ad 65) (ad 66) (ad 67) (ad 68) 0 (nI ((t.1 52).2.2 0)) ((t.1 52).1 0) ((t.1 52).1 1) ((t.1 52).1 2) ((t.1 52).1 3) ((t.1 52).1 4) ((t.1 52).1 5) ((t.1 52).1 6) ((t.1 52).1 7) ((t.1 52).1 8) ((t.1 52).1 9) ((t.1 52).1 10) ((t.1 52).2.1 0) ((t.1 52).2.1 1) 1) rfl rfl (Nat.le_of_ble_eq_true rfl) rfl (by decide) (by omega) (by omega) (fun E cs1 hx => ?_) (fun v cs1 hx => ?_)
    · exact absurd hx.1 (by simp)
    · obtain ⟨e1, rfl⟩ := hx
      cases e1
      refine ⟨rfl, ?_⟩
      refine y_st (st2 := [.int 0]) rfl ?_
      refine y_cs (cs2 := [((ad 52), .inr (12, [.int 0, .ref (ad 53), .int (nI ((t.1 52).2.2 0)), .ref (ad 54), .ref (ad 55), .ref (ad 56), .ref (ad 57), .ref (ad 58), .ref (ad 59), .ref (ad 60), .ref (ad 61), .int ((t.1 52).1 0), .int ((t.1 52).1 1), .int ((t.1 52).1 2), .int ((t.1 52).1 3), .int ((t.1 52).1 4), .int ((t.1 52).1 5), .ref (ad 62), .ref (ad 63), .ref (ad 64), .int ((t.1 52).1 6), .int ((t.1 52).1 7), .int ((t.1 52).1 8), .int ((t.1 52).1 9), .int ((t.1 52).1 10), .ref (ad 65), .ref (ad 66), .ref (ad 67), .ref (ad 68), .long ((t.1 52).2.1 0), .long ((t.1 52).2.1 1)])), ((ad 63), .inl (0, 4, .inl ((t.1 63).1))), ((ad 64), .inl (3, 16, .inr (.inl ((t.1 64).2.1)))), ((ad 54), .inl (0, 108, .inl v_mf_f)), ((ad 55), .inl (0, 108, .inl v_mh_f)), ((ad 56), .inl (0, 108, .inl v_mn_f)), ((ad 57), .inl (0, 108, .inl v_mt_f)), ((ad 58), .inl (0, 108, .inl v_mz_f)), ((ad 59), .inl (2, 108, .inl v_mc__f)), ((ad 60), .inl (0, 108, .inl (fun k => nI (v_mq_h k)))), ((ad 61), .inl (0, 108, .inl v_mgr_f))]) rfl ?_
      refine y_if_ne (tgt := 77) d_Mm_pour_17 (by decide) (fun c_17 => ?_) (fun c_17 => ?_)
      · exact absurd c_17 (by decide)
      · refine y_aload_n d_Mm_pour_20 rfl 0 rfl ?_
        refine y_aload_n d_Mm_pour_21 rfl 0 rfl ?_
        refine y_get fs_Mm_62 d_Mm_pour_22 (q0 := 0) rfl rfl ?_
        refine y_iconst d_Mm_pour_25 (v := 1) (by decide) ?_
        refine y_iald d_Mm_pour_26 (q0 := 1) rfl (fun q => q.elim (by decide) (by decide)) (v := ((t.1 63).1) 1) rfl ?_
        refine y_if_eq (tgt := 40) d_Mm_pour_27 (by decide) (fun c_27 => ?_) (fun c_27 => ?_)
        · refine y_iconst d_Mm_pour_40 (v := 1) (by decide) ?_
          refine y_goto (tgt := 45) d_Mm_pour_41 (by decide) ?_
          refine y_iconst d_Mm_pour_45 (v := 2) (by decide) ?_
          refine y_callV (As := [.int 1, .int 2]) (rest := []) (csC := [((ad 52), .inr (12, [.int 0, .ref (ad 53), .int (nI ((t.1 52).2.2 0)), .ref (ad 54), .ref (ad 55), .ref (ad 56), .ref (ad 57), .ref (ad 58), .ref (ad 59), .ref (ad 60), .ref (ad 61), .int ((t.1 52).1 0), .int ((t.1 52).1 1), .int ((t.1 52).1 2), .int ((t.1 52).1 3), .int ((t.1 52).1 4), .int ((t.1 52).1 5), .ref (ad 62), .ref (ad 63), .ref (ad 64), .int ((t.1 52).1 6), .int ((t.1 52).1 7), .int ((t.1 52).1 8), .int ((t.1 52).1 9), .int ((t.1 52).1 10), .ref (ad 65), .ref (ad 66), .ref (ad 67), .ref (ad 68), .long ((t.1 52).2.1 0), .long ((t.1 52).2.1 1)]))]) (is := [0]) (q0 := 0) rfl rfl ln_Mm_103 w_im_Mm_fails w_se_Mm_fails ok_Mm_pour_Mm_fails d_Mm_pour_46 (C_Mm_fails2 g (ad 52) (ad 53) (ad 54) (ad 55) (ad 56) (ad 57) (ad 58) (ad 59) (ad 60) (ad 61) (ad 62) (ad 63) (ad 64) (ad 65) (ad 66) (ad 67) (ad 68) 0 (nI ((t.1 52).2.2 0)) ((t.1 52).1 0) ((t.1 52).1 1) ((t.1 52).1 2) ((t.1 52).1 3) ((t.1 52).1 4) ((t.1 52).1 5) ((t.1 52).1 6) ((t.1 52).1 7) ((t.1 52).1 8) ((t.1 52).1 9) ((t.1 52).1 10) ((t.1 52).2.1 0) ((t.1 52).2.1 1)) rfl rfl (Nat.le_of_ble_eq_true rfl) rfl (by decide) (by omega) (by omega) (fun E cs1 hx => ?_) (fun v cs1 hx => ?_)
          · exact absurd hx.1 (by simp)
          · obtain ⟨e1, rfl⟩ := hx
            cases e1
            refine ⟨rfl, ?_⟩
            refine y_st (st2 := [.int 1]) rfl ?_
            refine y_cs (cs2 := [((ad 52), .inr (12, [.int 2, .ref (ad 53), .int (nI ((t.1 52).2.2 0)), .ref (ad 54), .ref (ad 55), .ref (ad 56), .ref (ad 57), .ref (ad 58), .ref (ad 59), .ref (ad 60), .ref (ad 61), .int ((t.1 52).1 0), .int ((t.1 52).1 1), .int ((t.1 52).1 2), .int ((t.1 52).1 3), .int ((t.1 52).1 4), .int ((t.1 52).1 5), .ref (ad 62), .ref (ad 63), .ref (ad 64), .int ((t.1 52).1 6), .int ((t.1 52).1 7), .int ((t.1 52).1 8), .int ((t.1 52).1 9), .int ((t.1 52).1 10), .ref (ad 65), .ref (ad 66), .ref (ad 67), .ref (ad 68), .long ((t.1 52).2.1 0), .long ((t.1 52).2.1 1)])), ((ad 63), .inl (0, 4, .inl ((t.1 63).1))), ((ad 64), .inl (3, 16, .inr (.inl ((t.1 64).2.1)))), ((ad 54), .inl (0, 108, .inl v_mf_f)), ((ad 55), .inl (0, 108, .inl v_mh_f)), ((ad 56), .inl (0, 108, .inl v_mn_f)), ((ad 57), .inl (0, 108, .inl v_mt_f)), ((ad 58), .inl (0, 108, .inl v_mz_f)), ((ad 59), .inl (2, 108, .inl v_mc__f)), ((ad 60), .inl (0, 108, .inl (fun k => nI (v_mq_h k)))), ((ad 61), .inl (0, 108, .inl v_mgr_f))]) rfl ?_
            refine y_if_ne (tgt := 77) d_Mm_pour_49 (by decide) (fun c_49 => ?_) (fun c_49 => ?_)
            · refine y_iconst d_Mm_pour_77 (v := 0) (by decide) ?_
              refine y_iret d_Mm_pour_78 rfl rfl ?_
              exact fun w1 h1 => ⟨rfl, (hI.gen (t2 := t) (is := [52, 63, 64, 54, 55, 56, 57, 58, 59, 60, 61]) (L2 := []) h1 rfl ⟨kd_52.mpr ⟨_, rfl⟩, kd_63.mpr rfl, kd_64.mpr rfl, kd_54.mpr ⟨_, rfl⟩, kd_55.mpr ⟨_, rfl⟩, kd_56.mpr ⟨_, rfl⟩, kd_57.mpr ⟨_, rfl⟩, kd_58.mpr ⟨_, rfl⟩, kd_59.mpr ⟨_, rfl⟩, kd_60.mpr ⟨_, rfl⟩, kd_61.mpr ⟨_, rfl⟩, trivial⟩ (by decide) (by decide) (fun _ h => nomatch h) (fun _ h => nomatch h) (fun _ _ _ => rfl) (fun h => h) rfl)⟩
            · exact absurd c_49 (by decide)
        · refine y_aload_n d_Mm_pour_30 rfl 0 rfl ?_
          refine y_get fs_Mm_257 d_Mm_pour_31 (q0 := 0) rfl rfl ?_
          refine y_sipush d_Mm_pour_34 (v := 1250) (by decide) ?_
          refine y_icmp_ge (tgt := 44) d_Mm_pour_37 (by decide) (fun c_37 => ?_) (fun c_37 => ?_)
          · exact absurd ⟨c_27, c_37⟩ h1
          · refine y_iconst d_Mm_pour_40 (v := 1) (by decide) ?_
            refine y_goto (tgt := 45) d_Mm_pour_41 (by decide) ?_
            refine y_iconst d_Mm_pour_45 (v := 2) (by decide) ?_
            refine y_callV (As := [.int 1, .int 2]) (rest := []) (csC := [((ad 52), .inr (12, [.int 0, .ref (ad 53), .int (nI ((t.1 52).2.2 0)), .ref (ad 54), .ref (ad 55), .ref (ad 56), .ref (ad 57), .ref (ad 58), .ref (ad 59), .ref (ad 60), .ref (ad 61), .int ((t.1 52).1 0), .int ((t.1 52).1 1), .int ((t.1 52).1 2), .int ((t.1 52).1 3), .int ((t.1 52).1 4), .int ((t.1 52).1 5), .ref (ad 62), .ref (ad 63), .ref (ad 64), .int ((t.1 52).1 6), .int ((t.1 52).1 7), .int ((t.1 52).1 8), .int ((t.1 52).1 9), .int ((t.1 52).1 10), .ref (ad 65), .ref (ad 66), .ref (ad 67), .ref (ad 68), .long ((t.1 52).2.1 0), .long ((t.1 52).2.1 1)]))]) (is := [0]) (q0 := 0) rfl rfl ln_Mm_103 w_im_Mm_fails w_se_Mm_fails ok_Mm_pour_Mm_fails d_Mm_pour_46 (C_Mm_fails2 g (ad 52) (ad 53) (ad 54) (ad 55) (ad 56) (ad 57) (ad 58) (ad 59) (ad 60) (ad 61) (ad 62) (ad 63) (ad 64) (ad 65) (ad 66) (ad 67) (ad 68) 0 (nI ((t.1 52).2.2 0)) ((t.1 52).1 0) ((t.1 52).1 1) ((t.1 52).1 2) ((t.1 52).1 3) ((t.1 52).1 4) ((t.1 52).1 5) ((t.1 52).1 6) ((t.1 52).1 7) ((t.1 52).1 8) ((t.1 52).1 9) ((t.1 52).1 10) ((t.1 52).2.1 0) ((t.1 52).2.1 1)) rfl rfl (Nat.le_of_ble_eq_true rfl) rfl (by decide) (by omega) (by omega) (fun E cs1 hx => ?_) (fun v cs1 hx => ?_)
            · exact absurd hx.1 (by simp)
            · obtain ⟨e1, rfl⟩ := hx
              cases e1
              refine ⟨rfl, ?_⟩
              refine y_st (st2 := [.int 1]) rfl ?_
              refine y_cs (cs2 := [((ad 52), .inr (12, [.int 2, .ref (ad 53), .int (nI ((t.1 52).2.2 0)), .ref (ad 54), .ref (ad 55), .ref (ad 56), .ref (ad 57), .ref (ad 58), .ref (ad 59), .ref (ad 60), .ref (ad 61), .int ((t.1 52).1 0), .int ((t.1 52).1 1), .int ((t.1 52).1 2), .int ((t.1 52).1 3), .int ((t.1 52).1 4), .int ((t.1 52).1 5), .ref (ad 62), .ref (ad 63), .ref (ad 64), .int ((t.1 52).1 6), .int ((t.1 52).1 7), .int ((t.1 52).1 8), .int ((t.1 52).1 9), .int ((t.1 52).1 10), .ref (ad 65), .ref (ad 66), .ref (ad 67), .ref (ad 68), .long ((t.1 52).2.1 0), .long ((t.1 52).2.1 1)])), ((ad 63), .inl (0, 4, .inl ((t.1 63).1))), ((ad 64), .inl (3, 16, .inr (.inl ((t.1 64).2.1)))), ((ad 54), .inl (0, 108, .inl v_mf_f)), ((ad 55), .inl (0, 108, .inl v_mh_f)), ((ad 56), .inl (0, 108, .inl v_mn_f)), ((ad 57), .inl (0, 108, .inl v_mt_f)), ((ad 58), .inl (0, 108, .inl v_mz_f)), ((ad 59), .inl (2, 108, .inl v_mc__f)), ((ad 60), .inl (0, 108, .inl (fun k => nI (v_mq_h k)))), ((ad 61), .inl (0, 108, .inl v_mgr_f))]) rfl ?_
              refine y_if_ne (tgt := 77) d_Mm_pour_49 (by decide) (fun c_49 => ?_) (fun c_49 => ?_)
              · refine y_iconst d_Mm_pour_77 (v := 0) (by decide) ?_
                refine y_iret d_Mm_pour_78 rfl rfl ?_
                exact fun w1 h1 => ⟨rfl, (hI.gen (t2 := t) (is := [52, 63, 64, 54, 55, 56, 57, 58, 59, 60, 61]) (L2 := []) h1 rfl ⟨kd_52.mpr ⟨_, rfl⟩, kd_63.mpr rfl, kd_64.mpr rfl, kd_54.mpr ⟨_, rfl⟩, kd_55.mpr ⟨_, rfl⟩, kd_56.mpr ⟨_, rfl⟩, kd_57.mpr ⟨_, rfl⟩, kd_58.mpr ⟨_, rfl⟩, kd_59.mpr ⟨_, rfl⟩, kd_60.mpr ⟨_, rfl⟩, kd_61.mpr ⟨_, rfl⟩, trivial⟩ (by decide) (by decide) (fun _ h => nomatch h) (fun _ h => nomatch h) (fun _ _ _ => rfl) (fun h => h) rfl)⟩
              · exact absurd c_49 (by decide)
theorem d_Mm_pour_44 : decode prog_14_method_77_code 44 = .ok (.iconst 0, 1) := zo_3 (zd_b zq_prog_14_method_77_code_1 12 rfl rfl rfl)
theorem d_Mm_pour_52 : decode prog_14_method_77_code 52 = .ok (.aload_n 0, 1) := zo_42 (zd_b zq_prog_14_method_77_code_1 20 rfl rfl rfl)
theorem d_Mm_pour_53 : decode prog_14_method_77_code 53 = .ok (.aload_n 0, 1) := zo_42 (zd_b zq_prog_14_method_77_code_1 21 rfl rfl rfl)
theorem d_Mm_pour_54 : decode prog_14_method_77_code 54 = .ok (.getfield 78, 3) := zo_180 (d := 0) (e := 78) (zd_b zq_prog_14_method_77_code_1 22 rfl rfl rfl) (zd_b zq_prog_14_method_77_code_1 23 rfl rfl rfl) (zd_b zq_prog_14_method_77_code_1 24 rfl rfl rfl)
theorem d_Mm_pour_57 : decode prog_14_method_77_code 57 = .ok (.invokevirtual 208, 3) := zo_182 (d := 0) (e := 208) (zd_b zq_prog_14_method_77_code_1 25 rfl rfl rfl) (zd_b zq_prog_14_method_77_code_1 26 rfl rfl rfl) (zd_b zq_prog_14_method_77_code_1 27 rfl rfl rfl)
theorem ok_Mm_pour_AL_size : z_ok M_Mm_pour M_AL_size 0 := ⟨z_mj2 (i := 172) rfl (by decide +kernel), rfl, ⟨by decide +kernel, by decide +kernel, by decide +kernel⟩, ⟨by decide, by decide⟩, z_mj1 (i := 13) rfl (by decide +kernel), rfl⟩
theorem d_Mm_pour_60 : decode prog_14_method_77_code 60 = .ok (.bipush 30, 2) := zo_16 (d := 30) (zd_b zq_prog_14_method_77_code_1 28 rfl rfl rfl) (zd_b zq_prog_14_method_77_code_1 29 rfl rfl rfl) (by decide +kernel)
theorem d_Mm_pour_62 : decode prog_14_method_77_code 62 = .ok (.if_icmp .ne 7, 3) := zo_160 (d := 0) (e := 7) (zd_b zq_prog_14_method_77_code_1 30 rfl rfl rfl) (zd_b zq_prog_14_method_77_code_1 31 rfl rfl rfl) (zd_b zq_prog_14_method_77_code_2 0 rfl rfl rfl) (by decide +kernel)
theorem d_Mm_pour_65 : decode prog_14_method_77_code 65 = .ok (.iconst 1, 1) := zo_4 (zd_b zq_prog_14_method_77_code_2 1 rfl rfl rfl)
theorem d_Mm_pour_66 : decode prog_14_method_77_code 66 = .ok (.goto 4, 3) := zo_167 (d := 0) (e := 4) (zd_b zq_prog_14_method_77_code_2 2 rfl rfl rfl) (zd_b zq_prog_14_method_77_code_2 3 rfl rfl rfl) (zd_b zq_prog_14_method_77_code_2 4 rfl rfl rfl) (by decide +kernel)
theorem d_Mm_pour_70 : decode prog_14_method_77_code 70 = .ok (.iconst 3, 1) := zo_6 (zd_b zq_prog_14_method_77_code_2 6 rfl rfl rfl)
theorem d_Mm_pour_71 : decode prog_14_method_77_code 71 = .ok (.invokevirtual 103, 3) := zo_182 (d := 0) (e := 103) (zd_b zq_prog_14_method_77_code_2 7 rfl rfl rfl) (zd_b zq_prog_14_method_77_code_2 8 rfl rfl rfl) (zd_b zq_prog_14_method_77_code_2 9 rfl rfl rfl)
theorem d_Mm_pour_74 : decode prog_14_method_77_code 74 = .ok (.ifCond .eq 5, 3) := zo_153 (d := 0) (e := 5) (zd_b zq_prog_14_method_77_code_2 10 rfl rfl rfl) (zd_b zq_prog_14_method_77_code_2 11 rfl rfl rfl) (zd_b zq_prog_14_method_77_code_2 12 rfl rfl rfl) (by decide +kernel)
