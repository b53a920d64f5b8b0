set_option maxHeartbeats 4000000 in
set_option maxRecDepth 100000 in
theorem Qx_Mm_pourG {g : zG} {ad : Nat → Nat} {t : zTT} {u : zNN} {w : zW} (hI : IV g ad t u w) (h0 : ¬ u.1 3 = 0) (h1 : ¬ (t.1 63).1 1 = 0) (h2 : 1250 ≤ (t.1 52).1 6) (h3 : u.1 5 = 30) : zMB g M_Mm_pour [.ref (ad 52)] w (fun o w1 => o = .inl (some (.int 0)) ∧ IV g ad t u w1) 4 76 := by
  obtain ⟨e_m, wf_m, k_m⟩ := hI.1.2 52 (by decide)
  obtain ⟨v_m_th, rfl⟩ := kd_52.mp k_m
  obtain ⟨e_mi, wf_mi, k_mi⟩ := hI.1.2 63 (by decide)
  obtain rfl := kd_63.mp k_mi
  obtain ⟨e_mr, wf_mr, k_mr⟩ := hI.1.2 64 (by decide)
  obtain rfl := kd_64.mp k_mr
  obtain ⟨e_mf, wf_mf, k_mf⟩ := hI.1.2 54 (by decide)
  obtain ⟨v_mf_f, rfl⟩ := kd_54.mp k_mf
  obtain ⟨e_mh, wf_mh, k_mh⟩ := hI.1.2 55 (by decide)
  obtain ⟨v_mh_f, rfl⟩ := kd_55.mp k_mh
  obtain ⟨e_mn, wf_mn, k_mn⟩ := hI.1.2 56 (by decide)
  obtain ⟨v_mn_f, rfl⟩ := kd_56.mp k_mn
  obtain ⟨e_mt, wf_mt, k_mt⟩ := hI.1.2 57 (by decide)
  obtain ⟨v_mt_f, rfl⟩ := kd_57.mp k_mt
  obtain ⟨e_mz, wf_mz, k_mz⟩ := hI.1.2 58 (by decide)
  obtain ⟨v_mz_f, rfl⟩ := kd_58.mp k_mz
  obtain ⟨e_mc_, wf_mc_, k_mc_⟩ := hI.1.2 59 (by decide)
  obtain ⟨v_mc__f, rfl⟩ := kd_59.mp k_mc_
  obtain ⟨e_mq, wf_mq, k_mq⟩ := hI.1.2 60 (by decide)
  obtain ⟨v_mq_h, rfl⟩ := kd_60.mp k_mq
  obtain ⟨e_mgr, wf_mgr, k_mgr⟩ := hI.1.2 61 (by decide)
  obtain ⟨v_mgr_f, rfl⟩ := kd_61.mp k_mgr
  refine y_of (by decide) rfl (Nat.le_of_ble_eq_true rfl) (y_base (cs := [((ad 52), .inr (12, [.int v_m_th, .ref (ad 53), .int (nI ((t.1 52).2.2 0)), .ref (ad 54), .ref (ad 55), .ref (ad 56), .ref (ad 57), .ref (ad 58), .ref (ad 59), .ref (ad 60), .ref (ad 61), .int ((t.1 52).1 0), .int ((t.1 52).1 1), .int ((t.1 52).1 2), .int ((t.1 52).1 3), .int ((t.1 52).1 4), .int ((t.1 52).1 5), .ref (ad 62), .ref (ad 63), .ref (ad 64), .int ((t.1 52).1 6), .int ((t.1 52).1 7), .int ((t.1 52).1 8), .int ((t.1 52).1 9), .int ((t.1 52).1 10), .ref (ad 65), .ref (ad 66), .ref (ad 67), .ref (ad 68), .long ((t.1 52).2.1 0), .long ((t.1 52).2.1 1)])), ((ad 63), .inl (0, 4, .inl ((t.1 63).1))), ((ad 64), .inl (3, 16, .inr (.inl ((t.1 64).2.1)))), ((ad 54), .inl (0, 108, .inl v_mf_f)), ((ad 55), .inl (0, 108, .inl v_mh_f)), ((ad 56), .inl (0, 108, .inl v_mn_f)), ((ad 57), .inl (0, 108, .inl v_mt_f)), ((ad 58), .inl (0, 108, .inl v_mz_f)), ((ad 59), .inl (2, 108, .inl v_mc__f)), ((ad 60), .inl (0, 108, .inl (fun k => nI (v_mq_h k)))), ((ad 61), .inl (0, 108, .inl v_mgr_f))]) (hI.1.I [52, 63, 64, 54, 55, 56, 57, 58, 59, 60, 61] _ rfl (by decide) (by decide) (List.forall_mem_cons.mpr ⟨wf_m, (List.forall_mem_cons.mpr ⟨wf_mi, (List.forall_mem_cons.mpr ⟨wf_mr, (List.forall_mem_cons.mpr ⟨wf_mf, (List.forall_mem_cons.mpr ⟨wf_mh, (List.forall_mem_cons.mpr ⟨wf_mn, (List.forall_mem_cons.mpr ⟨wf_mt, (List.forall_mem_cons.mpr ⟨wf_mz, (List.forall_mem_cons.mpr ⟨wf_mc_, (List.forall_mem_cons.mpr ⟨wf_mq, (List.forall_mem_cons.mpr ⟨wf_mgr, (fun _ h => nomatch h)⟩)⟩)⟩)⟩)⟩)⟩)⟩)⟩)⟩)⟩)⟩)) ?_)
  refine y_lvE (lv2 := [(0, .ref (ad 52))]) rfl ?_
  refine y_aload_n d_Mm_pour_0 rfl 0 rfl ?_
  refine y_iconst d_Mm_pour_1 (v := 0) (by decide) ?_
  refine y_put fp_Mm_84 d_Mm_pour_2 (fun h => nomatch h) rfl rfl (q0 := 0) rfl (Nat.le_of_ble_eq_true rfl) (cs' := [((ad 52), .inr (12, [.int 0, .ref (ad 53), .int (nI ((t.1 52).2.2 0)), .ref (ad 54), .ref (ad 55), .ref (ad 56), .ref (ad 57), .ref (ad 58), .ref (ad 59), .ref (ad 60), .ref (ad 61), .int ((t.1 52).1 0), .int ((t.1 52).1 1), .int ((t.1 52).1 2), .int ((t.1 52).1 3), .int ((t.1 52).1 4), .int ((t.1 52).1 5), .ref (ad 62), .ref (ad 63), .ref (ad 64), .int ((t.1 52).1 6), .int ((t.1 52).1 7), .int ((t.1 52).1 8), .int ((t.1 52).1 9), .int ((t.1 52).1 10), .ref (ad 65), .ref (ad 66), .ref (ad 67), .ref (ad 68), .long ((t.1 52).2.1 0), .long ((t.1 52).2.1 1)])), ((ad 63), .inl (0, 4, .inl ((t.1 63).1))), ((ad 64), .inl (3, 16, .inr (.inl ((t.1 64).2.1)))), ((ad 54), .inl (0, 108, .inl v_mf_f)), ((ad 55), .inl (0, 108, .inl v_mh_f)), ((ad 56), .inl (0, 108, .inl v_mn_f)), ((ad 57), .inl (0, 108, .inl v_mt_f)), ((ad 58), .inl (0, 108, .inl v_mz_f)), ((ad 59), .inl (2, 108, .inl v_mc__f)), ((ad 60), .inl (0, 108, .inl (fun k => nI (v_mq_h k)))), ((ad 61), .inl (0, 108, .inl v_mgr_f))]) rfl ?_
  refine y_aload_n d_Mm_pour_5 rfl 0 rfl ?_
  refine y_aload_n d_Mm_pour_6 rfl 0 rfl ?_
  refine y_get fs_Mm_72 d_Mm_pour_7 (q0 := 0) rfl rfl ?_
  refine yw_callVL (As := []) (rest := [.ref (ad 52)]) (ci := 13) rfl (fun wA hA => ((hI.gen (t2 := t) (is := [52, 63, 64, 54, 55, 56, 57, 58, 59, 60, 61]) (L2 := []) hA rfl ⟨kd_52.mpr ⟨_, rfl⟩, kd_63.mpr rfl, kd_64.mpr rfl, kd_54.mpr ⟨_, rfl⟩, kd_55.mpr ⟨_, rfl⟩, kd_56.mpr ⟨_, rfl⟩, kd_57.mpr ⟨_, rfl⟩, kd_58.mpr ⟨_, rfl⟩, kd_59.mpr ⟨_, rfl⟩, kd_60.mpr ⟨_, rfl⟩, kd_61.mpr ⟨_, rfl⟩, trivial⟩ (by decide) (by decide) (fun _ h => nomatch h) (fun _ h => nomatch h) (fun _ _ _ => rfl) (fun h => h) rfl).2.1.1 3 (by decide)).ob) ln_Mm_289 w_im_AL_isEmpty w_se_AL_isEmpty ok_Mm_pour_AL_isEmpty d_Mm_pour_10 (fun wA hA => Q_isEmpty ((hI.gen (t2 := t) (is := [52, 63, 64, 54, 55, 56, 57, 58, 59, 60, 61]) (L2 := []) hA rfl ⟨kd_52.mpr ⟨_, rfl⟩, kd_63.mpr rfl, kd_64.mpr rfl, kd_54.mpr ⟨_, rfl⟩, kd_55.mpr ⟨_, rfl⟩, kd_56.mpr ⟨_, rfl⟩, kd_57.mpr ⟨_, rfl⟩, kd_58.mpr ⟨_, rfl⟩, kd_59.mpr ⟨_, rfl⟩, kd_60.mpr ⟨_, rfl⟩, kd_61.mpr ⟨_, rfl⟩, trivial⟩ (by decide) (by decide) (fun _ h => nomatch h) (fun _ h => nomatch h) (fun _ _ _ => rfl) (fun h => h) rfl).2.1.1 3 (by decide))) rfl rfl (Nat.le_of_ble_eq_true rfl) (by omega) (by omega) (fun wA10 hA10 E wB10 hx => ?_) (fun wA10 hA10 v wB10 hx => ?_)
  · exact absurd hx.1 (by simp)
  · obtain ⟨e1, e2⟩ := hx
    rw [if_neg h0] at e1
    cases e1
    refine yw_st (st2 := [.int 0, .ref (ad 52)]) rfl ?_
    subst e2
    refine y_go hA10 ?_
    refine y_iconst d_Mm_pour_13 (v := 1) (by decide) ?_
    refine y_callV (As := [.int 0, .int 1]) (rest := []) (csC := [((ad 52), .inr (12, [.int 0, .ref (ad 53), .int (nI ((t.1 52).2.2 0)), .ref (ad 54), .ref (ad 55), .ref (ad 56), .ref (ad 57), .ref (ad 58), .ref (ad 59), .ref (ad 60), .ref (ad 61), .int ((t.1 52).1 0), .int ((t.1 52).1 1), .int ((t.1 52).1 2), .int ((t.1 52).1 3), .int ((t.1 52).1 4), .int ((t.1 52).1 5), .ref (ad 62), .ref (ad 63), .ref (ad 64), .int ((t.1 52).1 6), .int ((t.1 52).1 7), .int ((t.1 52).1 8), .int ((t.1 52).1 9), .int ((t.1 52).1 10), .ref (ad 65), .ref (ad 66), .ref (ad 67), .ref (ad 68), .long ((t.1 52).2.1 0), .long ((t.1 52).2.1 1)]))]) (is := [0]) (q0 := 0) rfl rfl ln_Mm_103 w_im_Mm_fails w_se_Mm_fails ok_Mm_pour_Mm_fails d_Mm_pour_14 (C_Mm_fails0 g (ad 52) (ad 53) (ad 54) (ad 55) (ad 56) (ad 57) (ad 58) (ad 59) (ad 60) (ad 61) (ad 62) (ad 63) (ad 64) (ad 65) (ad 66) (ad 67) (ad 68) 0 (nI ((t.1 52).2.2 0)) ((t.1 52).1 0) ((t.1 52).1 1) ((t.1 52).1 2) ((t.1 52).1 3) ((t.1 52).1 4) ((t.1 52).1 5) ((t.1 52).1 6) ((t.1 52).1 7) ((t.1 52).1 8) ((t.1 52).1 9) ((t.1 52).1 10) ((t.1 52).2.1 0) ((t.1 52).2.1 1) 1) rfl rfl (Nat.le_of_ble_eq_true rfl) rfl (by decide) (by omega) (by omega) (fun E cs1 hx => ?_) (fun v cs1 hx => ?_)
    · exact absurd hx.1 (by simp)
    · obtain ⟨e1, rfl⟩ := hx
      cases e1
      refine ⟨rfl, ?_⟩
      refine y_st (st2 := [.int 0]) rfl ?_
      refine y_cs (cs2 := [((ad 52), .inr (12, [.int 0, .ref (ad 53), .int (nI ((t.1 52).2.2 0)), .ref (ad 54), .ref (ad 55), .ref (ad 56), .ref (ad 57), .ref (ad 58), .ref (ad 59), .ref (ad 60), .ref (ad 61), .int ((t.1 52).1 0), .int ((t.1 52).1 1), .int ((t.1 52).1 2), .int ((t.1 52).1 3), .int ((t.1 52).1 4), .int ((t.1 52).1 5), .ref (ad 62), .ref (ad 63), .ref (ad 64), .int ((t.1 52).1 6), .int ((t.1 52).1 7), .int ((t.1 52).1 8), .int ((t.1 52).1 9), .int ((t.1 52).1 10), .ref (ad 65), .ref (ad 66), .ref (ad 67), .ref (ad 68), .long ((t.1 52).2.1 0), .long ((t.1 52).2.1 1)])), ((ad 63), .inl (0, 4, .inl ((t.1 63).1))), ((ad 64), .inl (3, 16, .inr (.inl ((t.1 64).2.1)))), ((ad 54), .inl (0, 108, .inl v_mf_f)), ((ad 55), .inl (0, 108, .inl v_mh_f)), ((ad 56), .inl (0, 108, .inl v_mn_f)), ((ad 57), .inl (0, 108, .inl v_mt_f)), ((ad 58), .inl (0, 108, .inl v_mz_f)), ((ad 59), .inl (2, 108, .inl v_mc__f)), ((ad 60), .inl (0, 108, .inl (fun k => nI (v_mq_h k)))), ((ad 61), .inl (0, 108, .inl v_mgr_f))]) rfl ?_
      refine y_if_ne (tgt := 77) d_Mm_pour_17 (by decide) (fun c_17 => ?_) (fun c_17 => ?_)
      · exact absurd c_17 (by decide)
      · refine y_aload_n d_Mm_pour_20 rfl 0 rfl ?_
        refine y_aload_n d_Mm_pour_21 rfl 0 rfl ?_
        refine y_get fs_Mm_62 d_Mm_pour_22 (q0 := 0) rfl rfl ?_
        refine y_iconst d_Mm_pour_25 (v := 1) (by decide) ?_
        refine y_iald d_Mm_pour_26 (q0 := 1) rfl (fun q => q.elim (by decide) (by decide)) (v := ((t.1 63).1) 1) rfl ?_
        refine y_if_eq (tgt := 40) d_Mm_pour_27 (by decide) (fun c_27 => ?_) (fun c_27 => ?_)
        · exact absurd c_27 h1
        · refine y_aload_n d_Mm_pour_30 rfl 0 rfl ?_
          refine y_get fs_Mm_257 d_Mm_pour_31 (q0 := 0) rfl rfl ?_
          refine y_sipush d_Mm_pour_34 (v := 1250) (by decide) ?_
          refine y_icmp_ge (tgt := 44) d_Mm_pour_37 (by decide) (fun c_37 => ?_) (fun c_37 => ?_)
          · refine y_iconst d_Mm_pour_44 (v := 0) (by decide) ?_
            refine y_iconst d_Mm_pour_45 (v := 2) (by decide) ?_
            refine y_callV (As := [.int 0, .int 2]) (rest := []) (csC := [((ad 52), .inr (12, [.int 0, .ref (ad 53), .int (nI ((t.1 52).2.2 0)), .ref (ad 54), .ref (ad 55), .ref (ad 56), .ref (ad 57), .ref (ad 58), .ref (ad 59), .ref (ad 60), .ref (ad 61), .int ((t.1 52).1 0), .int ((t.1 52).1 1), .int ((t.1 52).1 2), .int ((t.1 52).1 3), .int ((t.1 52).1 4), .int ((t.1 52).1 5), .ref (ad 62), .ref (ad 63), .ref (ad 64), .int ((t.1 52).1 6), .int ((t.1 52).1 7), .int ((t.1 52).1 8), .int ((t.1 52).1 9), .int ((t.1 52).1 10), .ref (ad 65), .ref (ad 66), .ref (ad 67), .ref (ad 68), .long ((t.1 52).2.1 0), .long ((t.1 52).2.1 1)]))]) (is := [0]) (q0 := 0) rfl rfl ln_Mm_103 w_im_Mm_fails w_se_Mm_fails ok_Mm_pour_Mm_fails d_Mm_pour_46 (C_Mm_fails0 g (ad 52) (ad 53) (ad 54) (ad 55) (ad 56) (ad 57) (ad 58) (ad 59) (ad 60) (ad 61) (ad 62) (ad 63) (ad 64) (ad 65) (ad 66) (ad 67) (ad 68) 0 (nI ((t.1 52).2.2 0)) ((t.1 52).1 0) ((t.1 52).1 1) ((t.1 52).1 2) ((t.1 52).1 3) ((t.1 52).1 4) ((t.1 52).1 5) ((t.1 52).1 6) ((t.1 52).1 7) ((t.1 52).1 8) ((t.1 52).1 9) ((t.1 52).1 10) ((t.1 52).2.1 0) ((t.1 52).2.1 1) 2) rfl rfl (Nat.le_of_ble_eq_true rfl) rfl (by decide) (by omega) (by omega) (fun E cs1 hx => ?_) (fun v cs1 hx => ?_)
            · exact absurd hx.1 (by simp)
            · obtain ⟨e1, rfl⟩ := hx
              cases e1
              refine ⟨rfl, ?_⟩
              refine y_st (st2 := [.int 0]) rfl ?_
              refine y_cs (cs2 := [((ad 52), .inr (12, [.int 0, .ref (ad 53), .int (nI ((t.1 52).2.2 0)), .ref (ad 54), .ref (ad 55), .ref (ad 56), .ref (ad 57), .ref (ad 58), .ref (ad 59), .ref (ad 60), .ref (ad 61), .int ((t.1 52).1 0), .int ((t.1 52).1 1), .int ((t.1 52).1 2), .int ((t.1 52).1 3), .int ((t.1 52).1 4), .int ((t.1 52).1 5), .ref (ad 62), .ref (ad 63), .ref (ad 64), .int ((t.1 52).1 6), .int ((t.1 52).1 7), .int ((t.1 52).1 8), .int ((t.1 52).1 9), .int ((t.1 52).1 10), .ref (ad 65), .ref (ad 66), .ref (ad 67), .ref (ad 68), .long ((t.1 52).2.1 0), .long ((t.1 52).2.1 1)])), ((ad 63), .inl (0, 4, .inl ((t.1 63).1))), ((ad 64), .inl (3, 16, .inr (.inl ((t.1 64).2.1)))), ((ad 54), .inl (0, 108, .inl v_mf_f)), ((ad 55), .inl (0, 108, .inl v_mh_f)), ((ad 56), .inl (0, 108, .inl v_mn_f)), ((ad 57), .inl (0, 108, .inl v_mt_f)), ((ad 58), .inl (0, 108, .inl v_mz_f)), ((ad 59), .inl (2, 108, .inl v_mc__f)), ((ad 60), .inl (0, 108, .inl (fun k => nI (v_mq_h k)))), ((ad 61), .inl (0, 108, .inl v_mgr_f))]) rfl ?_
              refine y_if_ne (tgt := 77) d_Mm_pour_49 (by decide) (fun c_49 => ?_) (fun c_49 => ?_)
              · exact absurd c_49 (by decide)
              · refine y_aload_n d_Mm_pour_52 rfl 0 rfl ?_
                refine y_aload_n d_Mm_pour_53 rfl 0 rfl ?_
                refine y_get fs_Mm_78 d_Mm_pour_54 (q0 := 0) rfl rfl ?_
                refine yw_callVL (As := []) (rest := [.ref (ad 52)]) (ci := 13) rfl (fun wA hA => ((hI.gen (t2 := t) (is := [52, 63, 64, 54, 55, 56, 57, 58, 59, 60, 61]) (L2 := []) hA rfl ⟨kd_52.mpr ⟨_, rfl⟩, kd_63.mpr rfl, kd_64.mpr rfl, kd_54.mpr ⟨_, rfl⟩, kd_55.mpr ⟨_, rfl⟩, kd_56.mpr ⟨_, rfl⟩, kd_57.mpr ⟨_, rfl⟩, kd_58.mpr ⟨_, rfl⟩, kd_59.mpr ⟨_, rfl⟩, kd_60.mpr ⟨_, rfl⟩, kd_61.mpr ⟨_, rfl⟩, trivial⟩ (by decide) (by decide) (fun _ h => nomatch h) (fun _ h => nomatch h) (fun _ _ _ => rfl) (fun h => h) rfl).2.1.1 5 (by decide)).ob) ln_Mm_208 w_im_AL_size w_se_AL_size ok_Mm_pour_AL_size d_Mm_pour_57 (fun wA hA => Q_size ((hI.gen (t2 := t) (is := [52, 63, 64, 54, 55, 56, 57, 58, 59, 60, 61]) (L2 := []) hA rfl ⟨kd_52.mpr ⟨_, rfl⟩, kd_63.mpr rfl, kd_64.mpr rfl, kd_54.mpr ⟨_, rfl⟩, kd_55.mpr ⟨_, rfl⟩, kd_56.mpr ⟨_, rfl⟩, kd_57.mpr ⟨_, rfl⟩, kd_58.mpr ⟨_, rfl⟩, kd_59.mpr ⟨_, rfl⟩, kd_60.mpr ⟨_, rfl⟩, kd_61.mpr ⟨_, rfl⟩, trivial⟩ (by decide) (by decide) (fun _ h => nomatch h) (fun _ h => nomatch h) (fun _ _ _ => rfl) (fun h => h) rfl).2.1.1 5 (by decide))) rfl rfl (Nat.le_of_ble_eq_true rfl) (by omega) (by omega) (fun wA57 hA57 E wB57 hx => ?_) (fun wA57 hA57 v wB57 hx => ?_)
                · exact absurd hx.1 (by simp)
                · obtain ⟨e1, e2⟩ := hx
                  cases e1
                  refine yw_st (st2 := [.int (nI (u.1 5)), .ref (ad 52)]) rfl ?_
                  subst e2
                  refine y_go hA57 ?_
                  refine y_bipush d_Mm_pour_60 (v := 30) (by decide) ?_
                  refine y_icmp_ne (tgt := 69) d_Mm_pour_62 (by decide) (fun c_62 => ?_) (fun c_62 => ?_)
                  · exact absurd (by rw [h3]; rfl) c_62
                  · refine y_iconst d_Mm_pour_65 (v := 1) (by decide) ?_
                    refine y_goto (tgt := 70) d_Mm_pour_66 (by decide) ?_
                    refine y_iconst d_Mm_pour_70 (v := 3) (by decide) ?_
                    refine y_callV (As := [.int 1, .int 3]) (rest := []) (csC := [((ad 52), .inr (12, [.int 0, .ref (ad 53), .int (nI ((t.1 52).2.2 0)), .ref (ad 54), .ref (ad 55), .ref (ad 56), .ref (ad 57), .ref (ad 58), .ref (ad 59), .ref (ad 60), .ref (ad 61), .int ((t.1 52).1 0), .int ((t.1 52).1 1), .int ((t.1 52).1 2), .int ((t.1 52).1 3), .int ((t.1 52).1 4), .int ((t.1 52).1 5), .ref (ad 62), .ref (ad 63), .ref (ad 64), .int ((t.1 52).1 6), .int ((t.1 52).1 7), .int ((t.1 52).1 8), .int ((t.1 52).1 9), .int ((t.1 52).1 10), .ref (ad 65), .ref (ad 66), .ref (ad 67), .ref (ad 68), .long ((t.1 52).2.1 0), .long ((t.1 52).2.1 1)]))]) (is := [0]) (q0 := 0) rfl rfl ln_Mm_103 w_im_Mm_fails w_se_Mm_fails ok_Mm_pour_Mm_fails d_Mm_pour_71 (C_Mm_fails3 g (ad 52) (ad 53) (ad 54) (ad 55) (ad 56) (ad 57) (ad 58) (ad 59) (ad 60) (ad 61) (ad 62) (ad 63) (ad 64) (ad 65) (ad 66) (ad 67) (ad 68) 0 (nI ((t.1 52).2.2 0)) ((t.1 52).1 0) ((t.1 52).1 1) ((t.1 52).1 2) ((t.1 52).1 3) ((t.1 52).1 4) ((t.1 52).1 5) ((t.1 52).1 6) ((t.1 52).1 7) ((t.1 52).1 8) ((t.1 52).1 9) ((t.1 52).1 10) ((t.1 52).2.1 0) ((t.1 52).2.1 1)) rfl rfl (Nat.le_of_ble_eq_true rfl) rfl (by decide) (by omega) (by omega) (fun E cs1 hx => ?_) (fun v cs1 hx => ?_)
                    · exact absurd hx.1 (by simp)
                    · obtain ⟨e1, rfl⟩ := hx
                      cases e1
                      refine ⟨rfl, ?_⟩
                      refine y_st (st2 := [.int 1]) rfl ?_
                      refine y_cs (cs2 := [((ad 52), .inr (12, [.int 3, .ref (ad 53), .int (nI ((t.1 52).2.2 0)), .ref (ad 54), .ref (ad 55), .ref (ad 56), .ref (ad 57), .ref (ad 58), .ref (ad 59), .ref (ad 60), .ref (ad 61), .int ((t.1 52).1 0), .int ((t.1 52).1 1), .int ((t.1 52).1 2), .int ((t.1 52).1 3), .int ((t.1 52).1 4), .int ((t.1 52).1 5), .ref (ad 62), .ref (ad 63), .ref (ad 64), .int ((t.1 52).1 6), .int ((t.1 52).1 7), .int ((t.1 52).1 8), .int ((t.1 52).1 9), .int ((t.1 52).1 10), .ref (ad 65), .ref (ad 66), .ref (ad 67), .ref (ad 68), .long ((t.1 52).2.1 0), .long ((t.1 52).2.1 1)])), ((ad 63), .inl (0, 4, .inl ((t.1 63).1))), ((ad 64), .inl (3, 16, .inr (.inl ((t.1 64).2.1)))), ((ad 54), .inl (0, 108, .inl v_mf_f)), ((ad 55), .inl (0, 108, .inl v_mh_f)), ((ad 56), .inl (0, 108, .inl v_mn_f)), ((ad 57), .inl (0, 108, .inl v_mt_f)), ((ad 58), .inl (0, 108, .inl v_mz_f)), ((ad 59), .inl (2, 108, .inl v_mc__f)), ((ad 60), .inl (0, 108, .inl (fun k => nI (v_mq_h k)))), ((ad 61), .inl (0, 108, .inl v_mgr_f))]) rfl ?_
                      refine y_if_eq (tgt := 79) d_Mm_pour_74 (by decide) (fun c_74 => ?_) (fun c_74 => ?_)
                      · exact absurd c_74 (by decide)
                      · refine y_iconst d_Mm_pour_77 (v := 0) (by decide) ?_
                        refine y_iret d_Mm_pour_78 rfl rfl ?_
                        exact fun w1 h1 => ⟨rfl, (hI.gen (t2 := t) (is := [52, 63, 64, 54, 55, 56, 57, 58, 59, 60, 61]) (L2 := []) h1 rfl ⟨kd_52.mpr ⟨_, rfl⟩, kd_63.mpr rfl, kd_64.mpr rfl, kd_54.mpr ⟨_, rfl⟩, kd_55.mpr ⟨_, rfl⟩, kd_56.mpr ⟨_, rfl⟩, kd_57.mpr ⟨_, rfl⟩, kd_58.mpr ⟨_, rfl⟩, kd_59.mpr ⟨_, rfl⟩, kd_60.mpr ⟨_, rfl⟩, kd_61.mpr ⟨_, rfl⟩, trivial⟩ (by decide) (by decide) (fun _ h => nomatch h) (fun _ h => nomatch h) (fun _ _ _ => rfl) (fun h => h) rfl)⟩
          · exact absurd h2 c_37
theorem d_Mm_pour_69 : decode prog_14_method_77_code 69 = .ok (.iconst 0, 1) := zo_3 (zd_b zq_prog_14_method_77_code_2 5 rfl rfl rfl)
theorem d_Mm_pour_79 : decode prog_14_method_77_code 79 = .ok (.aload_n 0, 1) := zo_42 (zd_b zq_prog_14_method_77_code_2 15 rfl rfl rfl)
theorem d_Mm_pour_80 : decode prog_14_method_77_code 80 = .ok (.getfield 72, 3) := zo_180 (d := 0) (e := 72) (zd_b zq_prog_14_method_77_code_2 16 rfl rfl rfl) (zd_b zq_prog_14_method_77_code_2 17 rfl rfl rfl) (zd_b zq_prog_14_method_77_code_2 18 rfl rfl rfl)
theorem d_Mm_pour_83 : decode prog_14_method_77_code 83 = .ok (.iconst 0, 1) := zo_3 (zd_b zq_prog_14_method_77_code_2 19 rfl rfl rfl)
theorem d_Mm_pour_84 : decode prog_14_method_77_code 84 = .ok (.invokevirtual 229, 3) := zo_182 (d := 0) (e := 229) (zd_b zq_prog_14_method_77_code_2 20 rfl rfl rfl) (zd_b zq_prog_14_method_77_code_2 21 rfl rfl rfl) (zd_b zq_prog_14_method_77_code_2 22 rfl rfl rfl)
theorem ok_Mm_pour_AL_remove : z_ok M_Mm_pour M_AL_remove 1 := ⟨z_mj6 (i := 122) rfl (by decide +kernel), rfl, ⟨by decide +kernel, by decide +kernel, by decide +kernel⟩, ⟨by decide, by decide⟩, z_mj1 (i := 13) rfl (by decide +kernel), rfl⟩
theorem d_Mm_pour_87 : decode prog_14_method_77_code 87 = .ok (.checkcast 292, 3) := zo_192 (d := 1) (e := 36) (zd_b zq_prog_14_method_77_code_2 23 rfl rfl rfl) (zd_b zq_prog_14_method_77_code_2 24 rfl rfl rfl) (zd_b zq_prog_14_method_77_code_2 25 rfl rfl rfl)
theorem lk_Mm_292 : Cond.classLink "IronpourModel" 292 (z_an 1) ∈ z_gw := z_mj9 (i := 1) rfl (by decide +kernel)
theorem d_Mm_pour_90 : decode prog_14_method_77_code 90 = .ok (.astore_n 1, 1) := zo_76 (zd_b zq_prog_14_method_77_code_2 26 rfl rfl rfl)
theorem d_Mm_pour_91 : decode prog_14_method_77_code 91 = .ok (.aload_n 0, 1) := zo_42 (zd_b zq_prog_14_method_77_code_2 27 rfl rfl rfl)
theorem d_Mm_pour_92 : decode prog_14_method_77_code 92 = .ok (.getfield 75, 3) := zo_180 (d := 0) (e := 75) (zd_b zq_prog_14_method_77_code_2 28 rfl rfl rfl) (zd_b zq_prog_14_method_77_code_2 29 rfl rfl rfl) (zd_b zq_prog_14_method_77_code_2 30 rfl rfl rfl)
theorem d_Mm_pour_95 : decode prog_14_method_77_code 95 = .ok (.iconst 0, 1) := zo_3 (zd_b zq_prog_14_method_77_code_2 31 rfl rfl rfl)
theorem d_Mm_pour_96 : decode prog_14_method_77_code 96 = .ok (.invokevirtual 229, 3) := zo_182 (d := 0) (e := 229) (zd_b zq_prog_14_method_77_code_3 0 rfl rfl rfl) (zd_b zq_prog_14_method_77_code_3 1 rfl rfl rfl) (zd_b zq_prog_14_method_77_code_3 2 rfl rfl rfl)
theorem d_Mm_pour_99 : decode prog_14_method_77_code 99 = .ok (.checkcast 215, 3) := zo_192 (d := 0) (e := 215) (zd_b zq_prog_14_method_77_code_3 3 rfl rfl rfl) (zd_b zq_prog_14_method_77_code_3 4 rfl rfl rfl) (zd_b zq_prog_14_method_77_code_3 5 rfl rfl rfl)
theorem d_Mm_pour_102 : decode prog_14_method_77_code 102 = .ok (.astore_n 2, 1) := zo_77 (zd_b zq_prog_14_method_77_code_3 6 rfl rfl rfl)
theorem d_Mm_pour_103 : decode prog_14_method_77_code 103 = .ok (.iconst 2, 1) := zo_5 (zd_b zq_prog_14_method_77_code_3 7 rfl rfl rfl)
theorem d_Mm_pour_104 : decode prog_14_method_77_code 104 = .ok (.aload_n 1, 1) := zo_43 (zd_b zq_prog_14_method_77_code_3 8 rfl rfl rfl)
theorem d_Mm_pour_105 : decode prog_14_method_77_code 105 = .ok (.invokestatic 134, 3) := zo_184 (d := 0) (e := 134) (zd_b zq_prog_14_method_77_code_3 9 rfl rfl rfl) (zd_b zq_prog_14_method_77_code_3 10 rfl rfl rfl) (zd_b zq_prog_14_method_77_code_3 11 rfl rfl rfl)
theorem ok_Mm_pour_Mm_cellsIn : z_ok M_Mm_pour M_Mm_cellsIn 1 := ⟨z_mj8 (i := 7) rfl (by decide +kernel), rfl, ⟨by decide +kernel, by decide +kernel, by decide +kernel⟩, ⟨by decide, by decide⟩, z_mj1 (i := 14) rfl (by decide +kernel), rfl⟩
theorem d_Mm_pour_108 : decode prog_14_method_77_code 108 = .ok (.imul, 1) := zo_104 (zd_b zq_prog_14_method_77_code_3 12 rfl rfl rfl)
theorem d_Mm_pour_109 : decode prog_14_method_77_code 109 = .ok (.istore_n 3, 1) := zo_62 (zd_b zq_prog_14_method_77_code_3 13 rfl rfl rfl)
theorem d_Mm_pour_110 : decode prog_14_method_77_code 110 = .ok (.iload_n 3, 1) := zo_29 (zd_b zq_prog_14_method_77_code_3 14 rfl rfl rfl)
theorem d_Mm_pour_111 : decode prog_14_method_77_code 111 = .ok (.aload_n 0, 1) := zo_42 (zd_b zq_prog_14_method_77_code_3 15 rfl rfl rfl)
theorem d_Mm_pour_112 : decode prog_14_method_77_code 112 = .ok (.getfield 62, 3) := zo_180 (d := 0) (e := 62) (zd_b zq_prog_14_method_77_code_3 16 rfl rfl rfl) (zd_b zq_prog_14_method_77_code_3 17 rfl rfl rfl) (zd_b zq_prog_14_method_77_code_3 18 rfl rfl rfl)
theorem d_Mm_pour_115 : decode prog_14_method_77_code 115 = .ok (.iconst 1, 1) := zo_4 (zd_b zq_prog_14_method_77_code_3 19 rfl rfl rfl)
theorem d_Mm_pour_116 : decode prog_14_method_77_code 116 = .ok (.iaload, 1) := zo_46 (zd_b zq_prog_14_method_77_code_3 20 rfl rfl rfl)
theorem d_Mm_pour_117 : decode prog_14_method_77_code 117 = .ok (.invokestatic 182, 3) := zo_184 (d := 0) (e := 182) (zd_b zq_prog_14_method_77_code_3 21 rfl rfl rfl) (zd_b zq_prog_14_method_77_code_3 22 rfl rfl rfl) (zd_b zq_prog_14_method_77_code_3 23 rfl rfl rfl)
theorem d_Mm_pour_120 : decode prog_14_method_77_code 120 = .ok (.istore 4, 2) := zo_54 (d := 4) (zd_b zq_prog_14_method_77_code_3 24 rfl rfl rfl) (zd_b zq_prog_14_method_77_code_3 25 rfl rfl rfl)
theorem d_Mm_pour_122 : decode prog_14_method_77_code 122 = .ok (.bipush 6, 2) := zo_16 (d := 6) (zd_b zq_prog_14_method_77_code_3 26 rfl rfl rfl) (zd_b zq_prog_14_method_77_code_3 27 rfl rfl rfl) (by decide +kernel)
theorem d_Mm_pour_124 : decode prog_14_method_77_code 124 = .ok (.newarray .int, 2) := by decide +kernel
theorem d_Mm_pour_126 : decode prog_14_method_77_code 126 = .ok (.astore 5, 2) := zo_58 (d := 5) (zd_b zq_prog_14_method_77_code_3 30 rfl rfl rfl) (zd_b zq_prog_14_method_77_code_3 31 rfl rfl rfl)
theorem d_Mm_pour_128 : decode prog_14_method_77_code 128 = .ok (.iconst 4, 1) := zo_7 (zd_b zq_prog_14_method_77_code_4 0 rfl rfl rfl)
theorem d_Mm_pour_129 : decode prog_14_method_77_code 129 = .ok (.newarray .long, 2) := by decide +kernel
theorem d_Mm_pour_131 : decode prog_14_method_77_code 131 = .ok (.astore 6, 2) := zo_58 (d := 6) (zd_b zq_prog_14_method_77_code_4 3 rfl rfl rfl) (zd_b zq_prog_14_method_77_code_4 4 rfl rfl rfl)
theorem d_Mm_pour_133 : decode prog_14_method_77_code 133 = .ok (.aload_n 0, 1) := zo_42 (zd_b zq_prog_14_method_77_code_4 5 rfl rfl rfl)
theorem d_Mm_pour_134 : decode prog_14_method_77_code 134 = .ok (.getfield 62, 3) := zo_180 (d := 0) (e := 62) (zd_b zq_prog_14_method_77_code_4 6 rfl rfl rfl) (zd_b zq_prog_14_method_77_code_4 7 rfl rfl rfl) (zd_b zq_prog_14_method_77_code_4 8 rfl rfl rfl)
theorem d_Mm_pour_137 : decode prog_14_method_77_code 137 = .ok (.iconst 1, 1) := zo_4 (zd_b zq_prog_14_method_77_code_4 9 rfl rfl rfl)
theorem d_Mm_pour_138 : decode prog_14_method_77_code 138 = .ok (.iaload, 1) := zo_46 (zd_b zq_prog_14_method_77_code_4 10 rfl rfl rfl)
theorem d_Mm_pour_139 : decode prog_14_method_77_code 139 = .ok (.istore 7, 2) := zo_54 (d := 7) (zd_b zq_prog_14_method_77_code_4 11 rfl rfl rfl) (zd_b zq_prog_14_method_77_code_4 12 rfl rfl rfl)
theorem d_Mm_pour_141 : decode prog_14_method_77_code 141 = .ok (.iconst 0, 1) := zo_3 (zd_b zq_prog_14_method_77_code_4 13 rfl rfl rfl)
theorem d_Mm_pour_142 : decode prog_14_method_77_code 142 = .ok (.istore 8, 2) := zo_54 (d := 8) (zd_b zq_prog_14_method_77_code_4 14 rfl rfl rfl) (zd_b zq_prog_14_method_77_code_4 15 rfl rfl rfl)
theorem d_Mm_pour_195 : decode prog_14_method_77_code 195 = .ok (.aload_n 0, 1) := zo_42 (zd_b zq_prog_14_method_77_code_6 3 rfl rfl rfl)
theorem d_Mm_pour_196 : decode prog_14_method_77_code 196 = .ok (.getfield 62, 3) := zo_180 (d := 0) (e := 62) (zd_b zq_prog_14_method_77_code_6 4 rfl rfl rfl) (zd_b zq_prog_14_method_77_code_6 5 rfl rfl rfl) (zd_b zq_prog_14_method_77_code_6 6 rfl rfl rfl)
