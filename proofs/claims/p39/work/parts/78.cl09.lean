set_option maxHeartbeats 4000000 in
set_option maxRecDepth 100000 in
theorem Qx_Ip_isSound {g : zG} {ad : Nat → Nat} {t : zTT} {u : zNN} {w : zW} (hI : IV g ad t u w) : zMB g M_Ip_isSound [.ref (ad 0)] w (fun o w1 => zri [] o ∧ IVm g ad t u w1) 0 0 := by
  obtain ⟨e_a, wf_a, k_a⟩ := hI.1.2 0 (by decide)
  obtain rfl := kd_0.mp k_a
  obtain ⟨e_ta, wf_ta, k_ta⟩ := hI.1.2 5 (by decide)
  obtain rfl := kd_5.mp k_ta
  obtain ⟨e_ta1, wf_ta1, k_ta1⟩ := hI.1.2 6 (by decide)
  obtain rfl := kd_6.mp k_ta1
  obtain ⟨e_ta2, wf_ta2, k_ta2⟩ := hI.1.2 7 (by decide)
  obtain rfl := kd_7.mp k_ta2
  obtain ⟨e_taz, wf_taz, k_taz⟩ := hI.1.2 8 (by decide)
  obtain rfl := kd_8.mp k_taz
  obtain ⟨e_taz1, wf_taz1, k_taz1⟩ := hI.1.2 9 (by decide)
  obtain rfl := kd_9.mp k_taz1
  obtain ⟨e_taz2, wf_taz2, k_taz2⟩ := hI.1.2 10 (by decide)
  obtain rfl := kd_10.mp k_taz2
  obtain ⟨e_taz3, wf_taz3, k_taz3⟩ := hI.1.2 11 (by decide)
  obtain rfl := kd_11.mp k_taz3
  obtain ⟨e_taz4, wf_taz4, k_taz4⟩ := hI.1.2 12 (by decide)
  obtain rfl := kd_12.mp k_taz4
  obtain ⟨e_taz5, wf_taz5, k_taz5⟩ := hI.1.2 13 (by decide)
  obtain rfl := kd_13.mp k_taz5
  obtain ⟨e_taz6, wf_taz6, k_taz6⟩ := hI.1.2 14 (by decide)
  obtain rfl := kd_14.mp k_taz6
  obtain ⟨e_ta4, wf_ta4, k_ta4⟩ := hI.1.2 15 (by decide)
  obtain ⟨c_ta4_0, rfl⟩ := kd_15.mp k_ta4
  obtain ⟨e_ta5, wf_ta5, k_ta5⟩ := hI.1.2 16 (by decide)
  obtain rfl := kd_16.mp k_ta5
  obtain ⟨e_ta6, wf_ta6, k_ta6⟩ := hI.1.2 17 (by decide)
  obtain rfl := kd_17.mp k_ta6
  have hJ := hI.1.I [0, 5, 6, 7, 8, 9, 10, 11, 12, 13, 14, 15, 16, 17] [((ad 0), .inr (11, [.ref (ad 1), .ref (ad 5), .ref (ad 18), .ref (ad 31), .ref (ad 32), .ref (ad 36), .ref (ad 42), .ref (ad 45), .ref (ad 47), .ref (ad 49), .ref (ad 50), .ref (ad 51)])), ((ad 5), .inr (10, [.ref (ad 6), .ref (ad 7), .ref (ad 8), .ref (ad 15), .ref (ad 16), .ref (ad 17), .int ((t.1 5).1 0), .int ((t.1 5).1 1)])), ((ad 6), .inl (1, 108, .inl ((t.1 6).1))), ((ad 7), .inl (0, 108, .inl ((t.1 7).1))), ((ad 8), .inr (2, [.ref (ad 9), .ref (ad 10), .ref (ad 11), .ref (ad 12), .ref (ad 13), .ref (ad 14), .int ((t.1 8).1 0)])), ((ad 9), .inl (0, 108, .inl ((t.1 9).1))), ((ad 10), .inl (0, 108, .inl ((t.1 10).1))), ((ad 11), .inl (0, 108, .inl ((t.1 11).1))), ((ad 12), .inl (0, 108, .inl ((t.1 12).1))), ((ad 13), .inl (0, 108, .inl ((t.1 13).1))), ((ad 14), .inl (0, 108, .inl ((t.1 14).1))), ((ad 15), .inl (2, 108, .inl ((t.1 15).1))), ((ad 16), .inl (2, 108, .inl ((t.1 16).1))), ((ad 17), .inl (0, 108, .inl (fun k => nI (((t.1 17).2.2) k))))] rfl (by decide) (by decide) (List.forall_mem_cons.mpr ⟨wf_a, (List.forall_mem_cons.mpr ⟨wf_ta, (List.forall_mem_cons.mpr ⟨wf_ta1, (List.forall_mem_cons.mpr ⟨wf_ta2, (List.forall_mem_cons.mpr ⟨wf_taz, (List.forall_mem_cons.mpr ⟨wf_taz1, (List.forall_mem_cons.mpr ⟨wf_taz2, (List.forall_mem_cons.mpr ⟨wf_taz3, (List.forall_mem_cons.mpr ⟨wf_taz4, (List.forall_mem_cons.mpr ⟨wf_taz5, (List.forall_mem_cons.mpr ⟨wf_taz6, (List.forall_mem_cons.mpr ⟨wf_ta4, (List.forall_mem_cons.mpr ⟨wf_ta5, (List.forall_mem_cons.mpr ⟨wf_ta6, (fun _ h => nomatch h)⟩)⟩)⟩)⟩)⟩)⟩)⟩)⟩)⟩)⟩)⟩)⟩)⟩)⟩)
  refine y_of (by decide) rfl (Nat.le_of_ble_eq_true rfl) (y_base (cs := [((ad 0), .inr (11, [.ref (ad 1), .ref (ad 5), .ref (ad 18), .ref (ad 31), .ref (ad 32), .ref (ad 36), .ref (ad 42), .ref (ad 45), .ref (ad 47), .ref (ad 49), .ref (ad 50), .ref (ad 51)])), ((ad 5), .inr (10, [.ref (ad 6), .ref (ad 7), .ref (ad 8), .ref (ad 15), .ref (ad 16), .ref (ad 17), .int ((t.1 5).1 0), .int ((t.1 5).1 1)])), ((ad 6), .inl (1, 108, .inl ((t.1 6).1))), ((ad 7), .inl (0, 108, .inl ((t.1 7).1))), ((ad 8), .inr (2, [.ref (ad 9), .ref (ad 10), .ref (ad 11), .ref (ad 12), .ref (ad 13), .ref (ad 14), .int ((t.1 8).1 0)])), ((ad 9), .inl (0, 108, .inl ((t.1 9).1))), ((ad 10), .inl (0, 108, .inl ((t.1 10).1))), ((ad 11), .inl (0, 108, .inl ((t.1 11).1))), ((ad 12), .inl (0, 108, .inl ((t.1 12).1))), ((ad 13), .inl (0, 108, .inl ((t.1 13).1))), ((ad 14), .inl (0, 108, .inl ((t.1 14).1))), ((ad 15), .inl (2, 108, .inl ((t.1 15).1))), ((ad 16), .inl (2, 108, .inl ((t.1 16).1))), ((ad 17), .inl (0, 108, .inl (fun k => nI (((t.1 17).2.2) k))))]) hJ ?_)
  refine y_lvE (lv2 := [(0, .ref (ad 0))]) rfl ?_
  refine y_aload_n d_Ip_isSound_0 rfl 0 rfl ?_
  refine yw_callV (As := []) (rest := []) (q0 := 0) rfl rfl ln_Ip_497 w_im_Ip_ironBalances w_se_Ip_ironBalances ok_Ip_isSound_Ip_ironBalances d_Ip_isSound_1 (fun wA hA => Q_ironBalances (hI.gen (t2 := t) (is := [0, 5, 6, 7, 8, 9, 10, 11, 12, 13, 14, 15, 16, 17]) (L2 := []) hA rfl ⟨kd_0.mpr rfl, kd_5.mpr rfl, kd_6.mpr rfl, kd_7.mpr rfl, kd_8.mpr rfl, kd_9.mpr rfl, kd_10.mpr rfl, kd_11.mpr rfl, kd_12.mpr rfl, kd_13.mpr rfl, kd_14.mpr rfl, kd_15.mpr ⟨c_ta4_0, rfl⟩, kd_16.mpr rfl, kd_17.mpr rfl, trivial⟩ (by decide) (by decide) (fun _ h => nomatch h) (fun _ h => nomatch h) (fun _ _ _ => rfl) (fun h => h) rfl)) rfl rfl (Nat.le_of_ble_eq_true rfl) (by omega) (by omega) (fun wA1 hA1 E wB1 hx => ?_) (fun wA1 hA1 v wB1 hx => ?_)
  · exact absurd hx.1 (by simp)
  · obtain ⟨⟨b9, e1⟩, e2⟩ := hx
    cases e1
    refine yw_st (st2 := [.int b9]) rfl ?_
    subst e2
    refine y_go hA1 ?_
    refine y_if_ne (tgt := 9) d_Ip_isSound_4 (by decide) (fun c_4 => ?_) (fun c_4 => ?_)
    · refine y_iconst d_Ip_isSound_9 (v := 0) (by decide) ?_
      refine y_istore_n (lv' := [(1, .int 0), (0, .ref (ad 0))]) d_Ip_isSound_10 rfl (by decide) rfl ?_
      refine y_end (fun wC2 hC2 => ?_)
      obtain rfl := z_I.same hJ hC2
      exact L_Qx_Ip_isSound_11 g hI  (4 + 1) 0  (Nat.zero_le _) (by omega) 
    · refine y_iconst d_Ip_isSound_7 (v := 0) (by decide) ?_
      refine y_iret d_Ip_isSound_8 rfl rfl ?_
      exact fun w1 h1 => ⟨Or.inl ⟨_, rfl⟩, IVm.of (hI.gen (t2 := t) (is := [0, 5, 6, 7, 8, 9, 10, 11, 12, 13, 14, 15, 16, 17]) (L2 := []) h1 rfl ⟨kd_0.mpr rfl, kd_5.mpr rfl, kd_6.mpr rfl, kd_7.mpr rfl, kd_8.mpr rfl, kd_9.mpr rfl, kd_10.mpr rfl, kd_11.mpr rfl, kd_12.mpr rfl, kd_13.mpr rfl, kd_14.mpr rfl, kd_15.mpr ⟨c_ta4_0, rfl⟩, kd_16.mpr rfl, kd_17.mpr rfl, trivial⟩ (by decide) (by decide) (fun _ h => nomatch h) (fun _ h => nomatch h) (fun _ _ _ => rfl) (fun h => h) rfl) (fun _ _ => rfl) rfl⟩

