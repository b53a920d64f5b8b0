set_option maxHeartbeats 4000000 in
theorem Qx_Mm_shrunkAnewE {g : zG} {ad : Nat → Nat} {t : zTT} {u : zNN} {w : zW} (hI : IV g ad t u w) (h : Int32) (hh : ¬ (1200 ≤ h ∧ h ≤ 1500)) : zMB g M_Mm_shrunkAnew [.ref (ad 52), .int h] w (fun o w1 => o = .inl (some (.int 0)) ∧ IV g ad t u w1) 0 0 := by
  obtain ⟨e_m, w_m, k_m⟩ := hI.1.2 52 (by decide)
  obtain ⟨v_m_th, rfl⟩ := kd_52.mp k_m
  obtain ⟨e_mp, w_mp, k_mp⟩ := hI.1.2 53 (by decide)
  obtain rfl := kd_53.mp k_mp
  refine ((C_Mm_shrunkAnewE g (ad 52) (ad 53) (ad 54) (ad 55) (ad 56) (ad 57) (ad 58) (ad 59) (ad 60) (ad 61) (ad 62) (ad 63) (ad 64) (ad 65) (ad 66) (ad 67) (ad 68) v_m_th (nI ((t.1 52).2.2 0)) ((t.1 52).1 0) ((t.1 52).1 1) ((t.1 52).1 2) ((t.1 52).1 3) ((t.1 52).1 4) ((t.1 52).1 5) ((t.1 52).1 6) ((t.1 52).1 7) ((t.1 52).1 8) ((t.1 52).1 9) ((t.1 52).1 10) ((t.1 52).2.1 0) ((t.1 52).2.1 1) ((t.1 53).1) h hh).at (hI.1.I [52, 53] _ rfl (by decide) (by decide) (List.forall_mem_cons.mpr ⟨w_m, (List.forall_mem_cons.mpr ⟨w_mp, (fun _ h => nomatch h)⟩)⟩))).mono (Nat.le_of_ble_eq_true rfl) (Nat.le_of_ble_eq_true rfl) (fun o w1 hp => ?_)
  obtain ⟨cs1, hp, hi9⟩ := hp
  obtain ⟨e1, e2⟩ := hp
  subst e1; subst e2
  exact ⟨rfl, hI.fix (t2 := t) (is := [52, 53]) hi9 rfl ⟨kd_52.mpr ⟨_, rfl⟩, kd_53.mpr rfl, trivial⟩ (by decide) (by decide) (fun _ _ _ => rfl) (fun h => h) rfl⟩
theorem K_Mm_shrunkAnew {g : zG} {ad : Nat → Nat} {t : zTT} {u : zNN} {w : zW} (hI : IVm g ad t u w) (h : Int32) : zMB g M_Mm_shrunkAnew [.ref (ad 52), .int h] w (MKx g ad t u.1) 10 300 := by
  obtain ⟨s, hI⟩ := hI
  by_cases hh : 1200 ≤ h ∧ h ≤ 1500
  · exact (Qx_Mm_shrunkAnewW hI h hh).mono (by decide) (by decide) (fun o w1 h => ⟨h.1, u, rfl, ⟨_, h.2⟩⟩)
  · exact (Qx_Mm_shrunkAnewE hI h hh).mono (by decide) (by decide) (fun o w1 h => ⟨⟨_, h.1⟩, u, rfl, ⟨_, h.2⟩⟩)
set_option maxHeartbeats 4000000 in
theorem Qx_Mm_lastPlaceW {g : zG} {ad : Nat → Nat} {t : zTT} {u : zNN} {w : zW} (hI : IV g ad t u w) (h : Int32) (hh : 1200 ≤ h ∧ h ≤ 1500) : zMB g M_Mm_lastPlace [.ref (ad 52), .int h] w (fun o w1 => (∃ v : Int32, o = .inl (some (.int v))) ∧ IV g ad t u w1) 0 0 := by
  obtain ⟨e_m, w_m, k_m⟩ := hI.1.2 52 (by decide)
  obtain ⟨v_m_th, rfl⟩ := kd_52.mp k_m
  obtain ⟨e_mp, w_mp, k_mp⟩ := hI.1.2 53 (by decide)
  obtain rfl := kd_53.mp k_mp
  obtain ⟨e_mf, w_mf, k_mf⟩ := hI.1.2 54 (by decide)
  obtain ⟨v_mf_f, rfl⟩ := kd_54.mp k_mf
  obtain ⟨e_mh, w_mh, k_mh⟩ := hI.1.2 55 (by decide)
  obtain ⟨v_mh_f, rfl⟩ := kd_55.mp k_mh
  obtain ⟨e_mt, w_mt, k_mt⟩ := hI.1.2 57 (by decide)
  obtain ⟨v_mt_f, rfl⟩ := kd_57.mp k_mt
  obtain ⟨e_mz, w_mz, k_mz⟩ := hI.1.2 58 (by decide)
  obtain ⟨v_mz_f, rfl⟩ := kd_58.mp k_mz
  obtain ⟨e_mn, w_mn, k_mn⟩ := hI.1.2 56 (by decide)
  obtain ⟨v_mn_f, rfl⟩ := kd_56.mp k_mn
  obtain ⟨e_mc_, w_mc_, k_mc_⟩ := hI.1.2 59 (by decide)
  obtain ⟨v_mc__f, rfl⟩ := kd_59.mp k_mc_
  obtain ⟨e_mq, w_mq, k_mq⟩ := hI.1.2 60 (by decide)
  obtain ⟨v_mq_h, rfl⟩ := kd_60.mp k_mq
  refine ((C_Mm_lastPlaceW g (ad 52) (ad 53) (ad 54) (ad 55) (ad 56) (ad 57) (ad 58) (ad 59) (ad 60) (ad 61) (ad 62) (ad 63) (ad 64) (ad 65) (ad 66) (ad 67) (ad 68) v_m_th (nI ((t.1 52).2.2 0)) ((t.1 52).1 0) ((t.1 52).1 1) ((t.1 52).1 2) ((t.1 52).1 3) ((t.1 52).1 4) ((t.1 52).1 5) ((t.1 52).1 6) ((t.1 52).1 7) ((t.1 52).1 8) ((t.1 52).1 9) ((t.1 52).1 10) ((t.1 52).2.1 0) ((t.1 52).2.1 1) ((t.1 53).1) v_mf_f v_mh_f v_mn_f v_mt_f v_mz_f v_mc__f v_mq_h h hh).at (hI.1.I [52, 53, 54, 55, 57, 58, 56, 59, 60] _ rfl (by decide) (by decide) (List.forall_mem_cons.mpr ⟨w_m, (List.forall_mem_cons.mpr ⟨w_mp, (List.forall_mem_cons.mpr ⟨w_mf, (List.forall_mem_cons.mpr ⟨w_mh, (List.forall_mem_cons.mpr ⟨w_mt, (List.forall_mem_cons.mpr ⟨w_mz, (List.forall_mem_cons.mpr ⟨w_mn, (List.forall_mem_cons.mpr ⟨w_mc_, (List.forall_mem_cons.mpr ⟨w_mq, (fun _ h => nomatch h)⟩)⟩)⟩)⟩)⟩)⟩)⟩)⟩)⟩))).mono (Nat.le_of_ble_eq_true rfl) (Nat.le_of_ble_eq_true rfl) (fun o w1 hp => ?_)
  obtain ⟨cs1, hp, hi9⟩ := hp
  obtain ⟨v9, th9, fl9, he9, nx9, mt9, fz9, ic9, qn9, e1, e2⟩ := hp
  subst e1; subst e2
  exact ⟨⟨_, rfl⟩, hI.fix (t2 := t) (is := [52, 53, 54, 55, 57, 58, 56, 59, 60]) hi9 rfl ⟨kd_52.mpr ⟨_, rfl⟩, kd_53.mpr rfl, kd_54.mpr ⟨_, rfl⟩, kd_55.mpr ⟨_, rfl⟩, kd_57.mpr ⟨_, rfl⟩, kd_58.mpr ⟨_, rfl⟩, kd_56.mpr ⟨_, rfl⟩, kd_59.mpr ⟨_, rfl⟩, kd_60.mpr ⟨_, rfl⟩, trivial⟩ (by decide) (by decide) (fun _ _ _ => rfl) (fun h => h) rfl⟩
set_option maxHeartbeats 4000000 in
theorem Qx_Mm_lastPlaceE {g : zG} {ad : Nat → Nat} {t : zTT} {u : zNN} {w : zW} (hI : IV g ad t u w) (h : Int32) (hh : ¬ (1200 ≤ h ∧ h ≤ 1500)) : zMB g M_Mm_lastPlace [.ref (ad 52), .int h] w (fun o w1 => o = .inl (some (.int 0)) ∧ IV g ad t u w1) 0 0 := by
  obtain ⟨e_m, w_m, k_m⟩ := hI.1.2 52 (by decide)
  obtain ⟨v_m_th, rfl⟩ := kd_52.mp k_m
  obtain ⟨e_mp, w_mp, k_mp⟩ := hI.1.2 53 (by decide)
  obtain rfl := kd_53.mp k_mp
  refine ((C_Mm_lastPlaceE g (ad 52) (ad 53) (ad 54) (ad 55) (ad 56) (ad 57) (ad 58) (ad 59) (ad 60) (ad 61) (ad 62) (ad 63) (ad 64) (ad 65) (ad 66) (ad 67) (ad 68) v_m_th (nI ((t.1 52).2.2 0)) ((t.1 52).1 0) ((t.1 52).1 1) ((t.1 52).1 2) ((t.1 52).1 3) ((t.1 52).1 4) ((t.1 52).1 5) ((t.1 52).1 6) ((t.1 52).1 7) ((t.1 52).1 8) ((t.1 52).1 9) ((t.1 52).1 10) ((t.1 52).2.1 0) ((t.1 52).2.1 1) ((t.1 53).1) h hh).at (hI.1.I [52, 53] _ rfl (by decide) (by decide) (List.forall_mem_cons.mpr ⟨w_m, (List.forall_mem_cons.mpr ⟨w_mp, (fun _ h => nomatch h)⟩)⟩))).mono (Nat.le_of_ble_eq_true rfl) (Nat.le_of_ble_eq_true rfl) (fun o w1 hp => ?_)
  obtain ⟨cs1, hp, hi9⟩ := hp
  obtain ⟨e1, e2⟩ := hp
  subst e1; subst e2
  exact ⟨rfl, hI.fix (t2 := t) (is := [52, 53]) hi9 rfl ⟨kd_52.mpr ⟨_, rfl⟩, kd_53.mpr rfl, trivial⟩ (by decide) (by decide) (fun _ _ _ => rfl) (fun h => h) rfl⟩
theorem K_Mm_lastPlace {g : zG} {ad : Nat → Nat} {t : zTT} {u : zNN} {w : zW} (hI : IVm g ad t u w) (h : Int32) : zMB g M_Mm_lastPlace [.ref (ad 52), .int h] w (MKx g ad t u.1) 10 300 := by
  obtain ⟨s, hI⟩ := hI
  by_cases hh : 1200 ≤ h ∧ h ≤ 1500
  · exact (Qx_Mm_lastPlaceW hI h hh).mono (by decide) (by decide) (fun o w1 h => ⟨h.1, u, rfl, ⟨_, h.2⟩⟩)
  · exact (Qx_Mm_lastPlaceE hI h hh).mono (by decide) (by decide) (fun o w1 h => ⟨⟨_, h.1⟩, u, rfl, ⟨_, h.2⟩⟩)
set_option maxHeartbeats 4000000 in
theorem Qx_Mm_bestFeederW {g : zG} {ad : Nat → Nat} {t : zTT} {u : zNN} {w : zW} (hI : IV g ad t u w) (h : Int32) (hh : 1200 ≤ h ∧ h ≤ 1500) : zMB g M_Mm_bestFeeder [.ref (ad 52), .int h] w (fun o w1 => (∃ v : Int32, o = .inl (some (.int v))) ∧ IV g ad t u w1) 0 0 := by
  obtain ⟨e_m, w_m, k_m⟩ := hI.1.2 52 (by decide)
  obtain ⟨v_m_th, rfl⟩ := kd_52.mp k_m
  obtain ⟨e_mp, w_mp, k_mp⟩ := hI.1.2 53 (by decide)
  obtain rfl := kd_53.mp k_mp
  obtain ⟨e_mf, w_mf, k_mf⟩ := hI.1.2 54 (by decide)
  obtain ⟨v_mf_f, rfl⟩ := kd_54.mp k_mf
  obtain ⟨e_mh, w_mh, k_mh⟩ := hI.1.2 55 (by decide)
  obtain ⟨v_mh_f, rfl⟩ := kd_55.mp k_mh
  obtain ⟨e_mt, w_mt, k_mt⟩ := hI.1.2 57 (by decide)
  obtain ⟨v_mt_f, rfl⟩ := kd_57.mp k_mt
  obtain ⟨e_mz, w_mz, k_mz⟩ := hI.1.2 58 (by decide)
  obtain ⟨v_mz_f, rfl⟩ := kd_58.mp k_mz
  obtain ⟨e_mn, w_mn, k_mn⟩ := hI.1.2 56 (by decide)
  obtain ⟨v_mn_f, rfl⟩ := kd_56.mp k_mn
  obtain ⟨e_mc_, w_mc_, k_mc_⟩ := hI.1.2 59 (by decide)
  obtain ⟨v_mc__f, rfl⟩ := kd_59.mp k_mc_
  obtain ⟨e_mq, w_mq, k_mq⟩ := hI.1.2 60 (by decide)
  obtain ⟨v_mq_h, rfl⟩ := kd_60.mp k_mq
  refine ((C_Mm_bestFeederW g (ad 52) (ad 53) (ad 54) (ad 55) (ad 56) (ad 57) (ad 58) (ad 59) (ad 60) (ad 61) (ad 62) (ad 63) (ad 64) (ad 65) (ad 66) (ad 67) (ad 68) v_m_th (nI ((t.1 52).2.2 0)) ((t.1 52).1 0) ((t.1 52).1 1) ((t.1 52).1 2) ((t.1 52).1 3) ((t.1 52).1 4) ((t.1 52).1 5) ((t.1 52).1 6) ((t.1 52).1 7) ((t.1 52).1 8) ((t.1 52).1 9) ((t.1 52).1 10) ((t.1 52).2.1 0) ((t.1 52).2.1 1) ((t.1 53).1) v_mf_f v_mh_f v_mn_f v_mt_f v_mz_f v_mc__f v_mq_h h hh).at (hI.1.I [52, 53, 54, 55, 57, 58, 56, 59, 60] _ rfl (by decide) (by decide) (List.forall_mem_cons.mpr ⟨w_m, (List.forall_mem_cons.mpr ⟨w_mp, (List.forall_mem_cons.mpr ⟨w_mf, (List.forall_mem_cons.mpr ⟨w_mh, (List.forall_mem_cons.mpr ⟨w_mt, (List.forall_mem_cons.mpr ⟨w_mz, (List.forall_mem_cons.mpr ⟨w_mn, (List.forall_mem_cons.mpr ⟨w_mc_, (List.forall_mem_cons.mpr ⟨w_mq, (fun _ h => nomatch h)⟩)⟩)⟩)⟩)⟩)⟩)⟩)⟩)⟩))).mono (Nat.le_of_ble_eq_true rfl) (Nat.le_of_ble_eq_true rfl) (fun o w1 hp => ?_)
  obtain ⟨cs1, hp, hi9⟩ := hp
  obtain ⟨v9, th9, fl9, he9, nx9, mt9, fz9, ic9, qn9, e1, e2⟩ := hp
  subst e1; subst e2
  exact ⟨⟨_, rfl⟩, hI.fix (t2 := t) (is := [52, 53, 54, 55, 57, 58, 56, 59, 60]) hi9 rfl ⟨kd_52.mpr ⟨_, rfl⟩, kd_53.mpr rfl, kd_54.mpr ⟨_, rfl⟩, kd_55.mpr ⟨_, rfl⟩, kd_57.mpr ⟨_, rfl⟩, kd_58.mpr ⟨_, rfl⟩, kd_56.mpr ⟨_, rfl⟩, kd_59.mpr ⟨_, rfl⟩, kd_60.mpr ⟨_, rfl⟩, trivial⟩ (by decide) (by decide) (fun _ _ _ => rfl) (fun h => h) rfl⟩
set_option maxHeartbeats 4000000 in
theorem Qx_Mm_bestFeederE {g : zG} {ad : Nat → Nat} {t : zTT} {u : zNN} {w : zW} (hI : IV g ad t u w) (h : Int32) (hh : ¬ (1200 ≤ h ∧ h ≤ 1500)) : zMB g M_Mm_bestFeeder [.ref (ad 52), .int h] w (fun o w1 => o = .inl (some (.int 0)) ∧ IV g ad t u w1) 0 0 := by
  obtain ⟨e_m, w_m, k_m⟩ := hI.1.2 52 (by decide)
  obtain ⟨v_m_th, rfl⟩ := kd_52.mp k_m
  obtain ⟨e_mp, w_mp, k_mp⟩ := hI.1.2 53 (by decide)
  obtain rfl := kd_53.mp k_mp
  refine ((C_Mm_bestFeederE g (ad 52) (ad 53) (ad 54) (ad 55) (ad 56) (ad 57) (ad 58) (ad 59) (ad 60) (ad 61) (ad 62) (ad 63) (ad 64) (ad 65) (ad 66) (ad 67) (ad 68) v_m_th (nI ((t.1 52).2.2 0)) ((t.1 52).1 0) ((t.1 52).1 1) ((t.1 52).1 2) ((t.1 52).1 3) ((t.1 52).1 4) ((t.1 52).1 5) ((t.1 52).1 6) ((t.1 52).1 7) ((t.1 52).1 8) ((t.1 52).1 9) ((t.1 52).1 10) ((t.1 52).2.1 0) ((t.1 52).2.1 1) ((t.1 53).1) h hh).at (hI.1.I [52, 53] _ rfl (by decide) (by decide) (List.forall_mem_cons.mpr ⟨w_m, (List.forall_mem_cons.mpr ⟨w_mp, (fun _ h => nomatch h)⟩)⟩))).mono (Nat.le_of_ble_eq_true rfl) (Nat.le_of_ble_eq_true rfl) (fun o w1 hp => ?_)
  obtain ⟨cs1, hp, hi9⟩ := hp
  obtain ⟨e1, e2⟩ := hp
  subst e1; subst e2
  exact ⟨rfl, hI.fix (t2 := t) (is := [52, 53]) hi9 rfl ⟨kd_52.mpr ⟨_, rfl⟩, kd_53.mpr rfl, trivial⟩ (by decide) (by decide) (fun _ _ _ => rfl) (fun h => h) rfl⟩
theorem K_Mm_bestFeeder {g : zG} {ad : Nat → Nat} {t : zTT} {u : zNN} {w : zW} (hI : IVm g ad t u w) (h : Int32) : zMB g M_Mm_bestFeeder [.ref (ad 52), .int h] w (MKx g ad t u.1) 10 300 := by
  obtain ⟨s, hI⟩ := hI
  by_cases hh : 1200 ≤ h ∧ h ≤ 1500
  · exact (Qx_Mm_bestFeederW hI h hh).mono (by decide) (by decide) (fun o w1 h => ⟨h.1, u, rfl, ⟨_, h.2⟩⟩)
  · exact (Qx_Mm_bestFeederE hI h hh).mono (by decide) (by decide) (fun o w1 h => ⟨⟨_, h.1⟩, u, rfl, ⟨_, h.2⟩⟩)
set_option maxHeartbeats 4000000 in
theorem Qx_Mm_millN {g : zG} {ad : Nat → Nat} {t : zTT} {u : zNN} {w : zW} (hI : IV g ad t u w) (m1 : Int32) (m2 : Int32) (m3 : Int32) (m4 : Int32) (hw : ((0 ≤ m1 ∧ m1 ≤ 20) ∧ (0 ≤ m2 ∧ m2 ≤ 20) ∧ (0 ≤ m3 ∧ m3 ≤ 20) ∧ (0 ≤ m4 ∧ m4 ≤ 50))) : zMB g M_Mm_mill [.ref (ad 52), .int m1, .int m2, .int m3, .int m4] w (fun o w1 => o = .inl (some (.int (S_Mm_strength (ad 52) (ad 53) (ad 54) (ad 55) (ad 56) (ad 57) (ad 58) (ad 59) (ad 60) (ad 61) (ad 62) (ad 63) (ad 64) (ad 65) (ad 66) (ad 67) (ad 68) 0 (nI ((t.1 52).2.2 0)) (S_Mm_most (((t.1 52).1 0) + m1)) (S_Mm_most (((t.1 52).1 1) + m2)) (S_Mm_most (((t.1 52).1 2) + m3)) (((t.1 52).1 3) - ((((t.1 52).1 3) * m4) / 100)) (((t.1 52).1 4) - ((((t.1 52).1 4) * m4) / 100)) ((t.1 52).1 5) ((t.1 52).1 6) ((t.1 52).1 7) ((t.1 52).1 8) ((t.1 52).1 9) ((t.1 52).1 10) ((t.1 52).2.1 0) ((t.1 52).2.1 1)))) ∧ IV g ad (zup t.1 [(52, ((upd (upd (upd (upd (upd ((t.1 52).1) 0 (S_Mm_most (((t.1 52).1 0) + m1))) 1 (S_Mm_most (((t.1 52).1 1) + m2))) 2 (S_Mm_most (((t.1 52).1 2) + m3))) 3 (((t.1 52).1 3) - ((((t.1 52).1 3) * m4) / 100))) 4 (((t.1 52).1 4) - ((((t.1 52).1 4) * m4) / 100))), (t.1 52).2.1, (t.1 52).2.2))], t.2) u w1) 0 0 := by
  obtain ⟨e_m, w_m, k_m⟩ := hI.1.2 52 (by decide)
  obtain ⟨v_m_th, rfl⟩ := kd_52.mp k_m
  refine ((C_Mm_millN g (ad 52) (ad 53) (ad 54) (ad 55) (ad 56) (ad 57) (ad 58) (ad 59) (ad 60) (ad 61) (ad 62) (ad 63) (ad 64) (ad 65) (ad 66) (ad 67) (ad 68) v_m_th (nI ((t.1 52).2.2 0)) ((t.1 52).1 0) ((t.1 52).1 1) ((t.1 52).1 2) ((t.1 52).1 3) ((t.1 52).1 4) ((t.1 52).1 5) ((t.1 52).1 6) ((t.1 52).1 7) ((t.1 52).1 8) ((t.1 52).1 9) ((t.1 52).1 10) ((t.1 52).2.1 0) ((t.1 52).2.1 1) m1 m2 m3 m4 hw).at (hI.1.I [52] _ rfl (by decide) (by decide) (List.forall_mem_cons.mpr ⟨w_m, (fun _ h => nomatch h)⟩))).mono (Nat.le_of_ble_eq_true rfl) (Nat.le_of_ble_eq_true rfl) (fun o w1 hp => ?_)
  obtain ⟨cs1, hp, hi9⟩ := hp
  obtain ⟨e1, e2⟩ := hp
  subst e1; subst e2
  exact ⟨rfl, hI.fix (t2 := (zup t.1 [(52, ((upd (upd (upd (upd (upd ((t.1 52).1) 0 (S_Mm_most (((t.1 52).1 0) + m1))) 1 (S_Mm_most (((t.1 52).1 1) + m2))) 2 (S_Mm_most (((t.1 52).1 2) + m3))) 3 (((t.1 52).1 3) - ((((t.1 52).1 3) * m4) / 100))) 4 (((t.1 52).1 4) - ((((t.1 52).1 4) * m4) / 100))), (t.1 52).2.1, (t.1 52).2.2))], t.2)) (is := [52]) hi9 rfl ⟨kd_52.mpr ⟨_, rfl⟩, trivial⟩ (by decide) (by decide) (fun i hi hn => zup_out (fun q => hn ((by decide : ∀ j ∈ ([52] : List Nat), j ∈ ([52] : List Nat)) i q))) (fun h => h) rfl⟩
set_option maxHeartbeats 4000000 in
theorem Qx_Mm_millE {g : zG} {ad : Nat → Nat} {t : zTT} {u : zNN} {w : zW} (hI : IV g ad t u w) (m1 : Int32) (m2 : Int32) (m3 : Int32) (m4 : Int32) (hw : ¬ ((0 ≤ m1 ∧ m1 ≤ 20) ∧ (0 ≤ m2 ∧ m2 ≤ 20) ∧ (0 ≤ m3 ∧ m3 ≤ 20) ∧ (0 ≤ m4 ∧ m4 ≤ 50))) : zMB g M_Mm_mill [.ref (ad 52), .int m1, .int m2, .int m3, .int m4] w (fun o w1 => o = .inl (some (.int 0)) ∧ IV g ad t u w1) 0 0 := by
  obtain ⟨e_m, w_m, k_m⟩ := hI.1.2 52 (by decide)
  obtain ⟨v_m_th, rfl⟩ := kd_52.mp k_m
  refine ((C_Mm_millE g (ad 52) (ad 53) (ad 54) (ad 55) (ad 56) (ad 57) (ad 58) (ad 59) (ad 60) (ad 61) (ad 62) (ad 63) (ad 64) (ad 65) (ad 66) (ad 67) (ad 68) v_m_th (nI ((t.1 52).2.2 0)) ((t.1 52).1 0) ((t.1 52).1 1) ((t.1 52).1 2) ((t.1 52).1 3) ((t.1 52).1 4) ((t.1 52).1 5) ((t.1 52).1 6) ((t.1 52).1 7) ((t.1 52).1 8) ((t.1 52).1 9) ((t.1 52).1 10) ((t.1 52).2.1 0) ((t.1 52).2.1 1) m1 m2 m3 m4 hw).at (hI.1.I [52] _ rfl (by decide) (by decide) (List.forall_mem_cons.mpr ⟨w_m, (fun _ h => nomatch h)⟩))).mono (Nat.le_of_ble_eq_true rfl) (Nat.le_of_ble_eq_true rfl) (fun o w1 hp => ?_)
  obtain ⟨cs1, hp, hi9⟩ := hp
  obtain ⟨e1, e2⟩ := hp
  subst e1; subst e2
  exact ⟨rfl, hI.fix (t2 := t) (is := [52]) hi9 rfl ⟨kd_52.mpr ⟨_, rfl⟩, trivial⟩ (by decide) (by decide) (fun _ _ _ => rfl) (fun h => h) rfl⟩
noncomputable def tK_Mm_mill (m1 m2 m3 m4 : Int32) (t : zTT) : zTT := (if (0 ≤ m1 ∧ m1 ≤ 20) ∧ (0 ≤ m2 ∧ m2 ≤ 20) ∧ (0 ≤ m3 ∧ m3 ≤ 20) ∧ (0 ≤ m4 ∧ m4 ≤ 50) then (zup t.1 [(52, ((upd (upd (upd (upd (upd ((t.1 52).1) 0 (S_Mm_most (((t.1 52).1 0) + m1))) 1 (S_Mm_most (((t.1 52).1 1) + m2))) 2 (S_Mm_most (((t.1 52).1 2) + m3))) 3 (((t.1 52).1 3) - ((((t.1 52).1 3) * m4) / 100))) 4 (((t.1 52).1 4) - ((((t.1 52).1 4) * m4) / 100))), (t.1 52).2.1, (t.1 52).2.2))], t.2) else t)
theorem K_Mm_mill {g : zG} {ad : Nat → Nat} {t : zTT} {u : zNN} {w : zW} (hI : IVm g ad t u w) (m1 m2 m3 m4 : Int32) : zMB g M_Mm_mill [.ref (ad 52), .int m1, .int m2, .int m3, .int m4] w (MKx g ad (tK_Mm_mill m1 m2 m3 m4 t) u.1) 10 300 := by
  obtain ⟨s, hI⟩ := hI
  by_cases hw : (0 ≤ m1 ∧ m1 ≤ 20) ∧ (0 ≤ m2 ∧ m2 ≤ 20) ∧ (0 ≤ m3 ∧ m3 ≤ 20) ∧ (0 ≤ m4 ∧ m4 ≤ 50)
  · have eT : (tK_Mm_mill m1 m2 m3 m4 t) = (zup t.1 [(52, ((upd (upd (upd (upd (upd ((t.1 52).1) 0 (S_Mm_most (((t.1 52).1 0) + m1))) 1 (S_Mm_most (((t.1 52).1 1) + m2))) 2 (S_Mm_most (((t.1 52).1 2) + m3))) 3 (((t.1 52).1 3) - ((((t.1 52).1 3) * m4) / 100))) 4 (((t.1 52).1 4) - ((((t.1 52).1 4) * m4) / 100))), (t.1 52).2.1, (t.1 52).2.2))], t.2) := by unfold tK_Mm_mill; rw [if_pos hw]
    rw [eT]
    exact (Qx_Mm_millN hI m1 m2 m3 m4 hw).mono (by decide) (by decide) (fun o w1 h => ⟨⟨_, h.1⟩, u, rfl, IVm.zu h.2⟩)
  · have eT : (tK_Mm_mill m1 m2 m3 m4 t) = t := by unfold tK_Mm_mill; rw [if_neg hw]
    rw [eT]
    exact (Qx_Mm_millE hI m1 m2 m3 m4 hw).mono (by decide) (by decide) (fun o w1 h => ⟨⟨_, h.1⟩, u, rfl, ⟨_, h.2⟩⟩)
set_option maxHeartbeats 4000000 in
theorem Qx_Mm_sand99 {g : zG} {ad : Nat → Nat} {t : zTT} {u : zNN} {w : zW} (hI : IV g ad t u w) : zMB g M_Mm_sand [.ref (ad 52), .int 99] w (fun o w1 => o = .inl (some (.int ((t.1 52).1 0))) ∧ IV g ad t u w1) 0 0 := by
  obtain ⟨e_m, w_m, k_m⟩ := hI.1.2 52 (by decide)
  obtain ⟨v_m_th, rfl⟩ := kd_52.mp k_m
  refine ((C_Mm_sand99 g (ad 52) (ad 53) (ad 54) (ad 55) (ad 56) (ad 57) (ad 58) (ad 59) (ad 60) (ad 61) (ad 62) (ad 63) (ad 64) (ad 65) (ad 66) (ad 67) (ad 68) v_m_th (nI ((t.1 52).2.2 0)) ((t.1 52).1 0) ((t.1 52).1 1) ((t.1 52).1 2) ((t.1 52).1 3) ((t.1 52).1 4) ((t.1 52).1 5) ((t.1 52).1 6) ((t.1 52).1 7) ((t.1 52).1 8) ((t.1 52).1 9) ((t.1 52).1 10) ((t.1 52).2.1 0) ((t.1 52).2.1 1)).at (hI.1.I [52] _ rfl (by decide) (by decide) (List.forall_mem_cons.mpr ⟨w_m, (fun _ h => nomatch h)⟩))).mono (Nat.le_of_ble_eq_true rfl) (Nat.le_of_ble_eq_true rfl) (fun o w1 hp => ?_)
  obtain ⟨cs1, hp, hi9⟩ := hp
  obtain ⟨e1, e2⟩ := hp
  subst e1; subst e2
  exact ⟨rfl, hI.fix (t2 := t) (is := [52]) hi9 rfl ⟨kd_52.mpr ⟨_, rfl⟩, trivial⟩ (by decide) (by decide) (fun _ _ _ => rfl) (fun h => h) rfl⟩
set_option maxHeartbeats 4000000 in
theorem Qx_Mm_sand119 {g : zG} {ad : Nat → Nat} {t : zTT} {u : zNN} {w : zW} (hI : IV g ad t u w) : zMB g M_Mm_sand [.ref (ad 52), .int 119] w (fun o w1 => o = .inl (some (.int ((t.1 52).1 1))) ∧ IV g ad t u w1) 0 0 := by
  obtain ⟨e_m, w_m, k_m⟩ := hI.1.2 52 (by decide)
  obtain ⟨v_m_th, rfl⟩ := kd_52.mp k_m
  refine ((C_Mm_sand119 g (ad 52) (ad 53) (ad 54) (ad 55) (ad 56) (ad 57) (ad 58) (ad 59) (ad 60) (ad 61) (ad 62) (ad 63) (ad 64) (ad 65) (ad 66) (ad 67) (ad 68) v_m_th (nI ((t.1 52).2.2 0)) ((t.1 52).1 0) ((t.1 52).1 1) ((t.1 52).1 2) ((t.1 52).1 3) ((t.1 52).1 4) ((t.1 52).1 5) ((t.1 52).1 6) ((t.1 52).1 7) ((t.1 52).1 8) ((t.1 52).1 9) ((t.1 52).1 10) ((t.1 52).2.1 0) ((t.1 52).2.1 1)).at (hI.1.I [52] _ rfl (by decide) (by decide) (List.forall_mem_cons.mpr ⟨w_m, (fun _ h => nomatch h)⟩))).mono (Nat.le_of_ble_eq_true rfl) (Nat.le_of_ble_eq_true rfl) (fun o w1 hp => ?_)
  obtain ⟨cs1, hp, hi9⟩ := hp
  obtain ⟨e1, e2⟩ := hp
  subst e1; subst e2
  exact ⟨rfl, hI.fix (t2 := t) (is := [52]) hi9 rfl ⟨kd_52.mpr ⟨_, rfl⟩, trivial⟩ (by decide) (by decide) (fun _ _ _ => rfl) (fun h => h) rfl⟩
set_option maxHeartbeats 4000000 in
theorem Qx_Mm_sand107 {g : zG} {ad : Nat → Nat} {t : zTT} {u : zNN} {w : zW} (hI : IV g ad t u w) : zMB g M_Mm_sand [.ref (ad 52), .int 107] w (fun o w1 => o = .inl (some (.int ((t.1 52).1 2))) ∧ IV g ad t u w1) 0 0 := by
  obtain ⟨e_m, w_m, k_m⟩ := hI.1.2 52 (by decide)
  obtain ⟨v_m_th, rfl⟩ := kd_52.mp k_m
  refine ((C_Mm_sand107 g (ad 52) (ad 53) (ad 54) (ad 55) (ad 56) (ad 57) (ad 58) (ad 59) (ad 60) (ad 61) (ad 62) (ad 63) (ad 64) (ad 65) (ad 66) (ad 67) (ad 68) v_m_th (nI ((t.1 52).2.2 0)) ((t.1 52).1 0) ((t.1 52).1 1) ((t.1 52).1 2) ((t.1 52).1 3) ((t.1 52).1 4) ((t.1 52).1 5) ((t.1 52).1 6) ((t.1 52).1 7) ((t.1 52).1 8) ((t.1 52).1 9) ((t.1 52).1 10) ((t.1 52).2.1 0) ((t.1 52).2.1 1)).at (hI.1.I [52] _ rfl (by decide) (by decide) (List.forall_mem_cons.mpr ⟨w_m, (fun _ h => nomatch h)⟩))).mono (Nat.le_of_ble_eq_true rfl) (Nat.le_of_ble_eq_true rfl) (fun o w1 hp => ?_)
  obtain ⟨cs1, hp, hi9⟩ := hp
  obtain ⟨e1, e2⟩ := hp
  subst e1; subst e2
  exact ⟨rfl, hI.fix (t2 := t) (is := [52]) hi9 rfl ⟨kd_52.mpr ⟨_, rfl⟩, trivial⟩ (by decide) (by decide) (fun _ _ _ => rfl) (fun h => h) rfl⟩
set_option maxHeartbeats 4000000 in
theorem Qx_Mm_sand102 {g : zG} {ad : Nat → Nat} {t : zTT} {u : zNN} {w : zW} (hI : IV g ad t u w) : zMB g M_Mm_sand [.ref (ad 52), .int 102] w (fun o w1 => o = .inl (some (.int ((t.1 52).1 3))) ∧ IV g ad t u w1) 0 0 := by
  obtain ⟨e_m, w_m, k_m⟩ := hI.1.2 52 (by decide)
  obtain ⟨v_m_th, rfl⟩ := kd_52.mp k_m
  refine ((C_Mm_sand102 g (ad 52) (ad 53) (ad 54) (ad 55) (ad 56) (ad 57) (ad 58) (ad 59) (ad 60) (ad 61) (ad 62) (ad 63) (ad 64) (ad 65) (ad 66) (ad 67) (ad 68) v_m_th (nI ((t.1 52).2.2 0)) ((t.1 52).1 0) ((t.1 52).1 1) ((t.1 52).1 2) ((t.1 52).1 3) ((t.1 52).1 4) ((t.1 52).1 5) ((t.1 52).1 6) ((t.1 52).1 7) ((t.1 52).1 8) ((t.1 52).1 9) ((t.1 52).1 10) ((t.1 52).2.1 0) ((t.1 52).2.1 1)).at (hI.1.I [52] _ rfl (by decide) (by decide) (List.forall_mem_cons.mpr ⟨w_m, (fun _ h => nomatch h)⟩))).mono (Nat.le_of_ble_eq_true rfl) (Nat.le_of_ble_eq_true rfl) (fun o w1 hp => ?_)
  obtain ⟨cs1, hp, hi9⟩ := hp
  obtain ⟨e1, e2⟩ := hp
  subst e1; subst e2
  exact ⟨rfl, hI.fix (t2 := t) (is := [52]) hi9 rfl ⟨kd_52.mpr ⟨_, rfl⟩, trivial⟩ (by decide) (by decide) (fun _ _ _ => rfl) (fun h => h) rfl⟩
set_option maxHeartbeats 4000000 in
theorem Qx_Mm_sand98 {g : zG} {ad : Nat → Nat} {t : zTT} {u : zNN} {w : zW} (hI : IV g ad t u w) : zMB g M_Mm_sand [.ref (ad 52), .int 98] w (fun o w1 => o = .inl (some (.int ((t.1 52).1 4))) ∧ IV g ad t u w1) 0 0 := by
  obtain ⟨e_m, w_m, k_m⟩ := hI.1.2 52 (by decide)
  obtain ⟨v_m_th, rfl⟩ := kd_52.mp k_m
  refine ((C_Mm_sand98 g (ad 52) (ad 53) (ad 54) (ad 55) (ad 56) (ad 57) (ad 58) (ad 59) (ad 60) (ad 61) (ad 62) (ad 63) (ad 64) (ad 65) (ad 66) (ad 67) (ad 68) v_m_th (nI ((t.1 52).2.2 0)) ((t.1 52).1 0) ((t.1 52).1 1) ((t.1 52).1 2) ((t.1 52).1 3) ((t.1 52).1 4) ((t.1 52).1 5) ((t.1 52).1 6) ((t.1 52).1 7) ((t.1 52).1 8) ((t.1 52).1 9) ((t.1 52).1 10) ((t.1 52).2.1 0) ((t.1 52).2.1 1)).at (hI.1.I [52] _ rfl (by decide) (by decide) (List.forall_mem_cons.mpr ⟨w_m, (fun _ h => nomatch h)⟩))).mono (Nat.le_of_ble_eq_true rfl) (Nat.le_of_ble_eq_true rfl) (fun o w1 hp => ?_)
  obtain ⟨cs1, hp, hi9⟩ := hp
  obtain ⟨e1, e2⟩ := hp
  subst e1; subst e2
  exact ⟨rfl, hI.fix (t2 := t) (is := [52]) hi9 rfl ⟨kd_52.mpr ⟨_, rfl⟩, trivial⟩ (by decide) (by decide) (fun _ _ _ => rfl) (fun h => h) rfl⟩
set_option maxHeartbeats 4000000 in
theorem Qx_Mm_sand115 {g : zG} {ad : Nat → Nat} {t : zTT} {u : zNN} {w : zW} (hI : IV g ad t u w) : zMB g M_Mm_sand [.ref (ad 52), .int 115] w (fun o w1 => o = .inl (some (.int (S_Mm_strength (ad 52) (ad 53) (ad 54) (ad 55) (ad 56) (ad 57) (ad 58) (ad 59) (ad 60) (ad 61) (ad 62) (ad 63) (ad 64) (ad 65) (ad 66) (ad 67) (ad 68) 0 (nI ((t.1 52).2.2 0)) ((t.1 52).1 0) ((t.1 52).1 1) ((t.1 52).1 2) ((t.1 52).1 3) ((t.1 52).1 4) ((t.1 52).1 5) ((t.1 52).1 6) ((t.1 52).1 7) ((t.1 52).1 8) ((t.1 52).1 9) ((t.1 52).1 10) ((t.1 52).2.1 0) ((t.1 52).2.1 1)))) ∧ IV g ad t u w1) 0 0 := by
  obtain ⟨e_m, w_m, k_m⟩ := hI.1.2 52 (by decide)
  obtain ⟨v_m_th, rfl⟩ := kd_52.mp k_m
  refine ((C_Mm_sand115 g (ad 52) (ad 53) (ad 54) (ad 55) (ad 56) (ad 57) (ad 58) (ad 59) (ad 60) (ad 61) (ad 62) (ad 63) (ad 64) (ad 65) (ad 66) (ad 67) (ad 68) v_m_th (nI ((t.1 52).2.2 0)) ((t.1 52).1 0) ((t.1 52).1 1) ((t.1 52).1 2) ((t.1 52).1 3) ((t.1 52).1 4) ((t.1 52).1 5) ((t.1 52).1 6) ((t.1 52).1 7) ((t.1 52).1 8) ((t.1 52).1 9) ((t.1 52).1 10) ((t.1 52).2.1 0) ((t.1 52).2.1 1)).at (hI.1.I [52] _ rfl (by decide) (by decide) (List.forall_mem_cons.mpr ⟨w_m, (fun _ h => nomatch h)⟩))).mono (Nat.le_of_ble_eq_true rfl) (Nat.le_of_ble_eq_true rfl) (fun o w1 hp => ?_)
  obtain ⟨cs1, hp, hi9⟩ := hp
  obtain ⟨e1, e2⟩ := hp
  subst e1; subst e2
  exact ⟨rfl, hI.fix (t2 := t) (is := [52]) hi9 rfl ⟨kd_52.mpr ⟨_, rfl⟩, trivial⟩ (by decide) (by decide) (fun _ _ _ => rfl) (fun h => h) rfl⟩
set_option maxHeartbeats 4000000 in
theorem Qx_Mm_sand100 {g : zG} {ad : Nat → Nat} {t : zTT} {u : zNN} {w : zW} (hI : IV g ad t u w) : zMB g M_Mm_sand [.ref (ad 52), .int 100] w (fun o w1 => o = .inl (some (.int (S_Mm_draught (ad 52) (ad 53) (ad 54) (ad 55) (ad 56) (ad 57) (ad 58) (ad 59) (ad 60) (ad 61) (ad 62) (ad 63) (ad 64) (ad 65) (ad 66) (ad 67) (ad 68) 0 (nI ((t.1 52).2.2 0)) ((t.1 52).1 0) ((t.1 52).1 1) ((t.1 52).1 2) ((t.1 52).1 3) ((t.1 52).1 4) ((t.1 52).1 5) ((t.1 52).1 6) ((t.1 52).1 7) ((t.1 52).1 8) ((t.1 52).1 9) ((t.1 52).1 10) ((t.1 52).2.1 0) ((t.1 52).2.1 1)))) ∧ IV g ad t u w1) 0 0 := by
  obtain ⟨e_m, w_m, k_m⟩ := hI.1.2 52 (by decide)
  obtain ⟨v_m_th, rfl⟩ := kd_52.mp k_m
  refine ((C_Mm_sand100 g (ad 52) (ad 53) (ad 54) (ad 55) (ad 56) (ad 57) (ad 58) (ad 59) (ad 60) (ad 61) (ad 62) (ad 63) (ad 64) (ad 65) (ad 66) (ad 67) (ad 68) v_m_th (nI ((t.1 52).2.2 0)) ((t.1 52).1 0) ((t.1 52).1 1) ((t.1 52).1 2) ((t.1 52).1 3) ((t.1 52).1 4) ((t.1 52).1 5) ((t.1 52).1 6) ((t.1 52).1 7) ((t.1 52).1 8) ((t.1 52).1 9) ((t.1 52).1 10) ((t.1 52).2.1 0) ((t.1 52).2.1 1)).at (hI.1.I [52] _ rfl (by decide) (by decide) (List.forall_mem_cons.mpr ⟨w_m, (fun _ h => nomatch h)⟩))).mono (Nat.le_of_ble_eq_true rfl) (Nat.le_of_ble_eq_true rfl) (fun o w1 hp => ?_)
  obtain ⟨cs1, hp, hi9⟩ := hp
  obtain ⟨e1, e2⟩ := hp
  subst e1; subst e2
  exact ⟨rfl, hI.fix (t2 := t) (is := [52]) hi9 rfl ⟨kd_52.mpr ⟨_, rfl⟩, trivial⟩ (by decide) (by decide) (fun _ _ _ => rfl) (fun h => h) rfl⟩
