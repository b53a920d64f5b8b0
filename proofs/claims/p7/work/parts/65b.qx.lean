set_option maxHeartbeats 4000000 in
theorem Q_Ip_looseX {g : zG} {ad : Nat → Nat} {t : zTT} {u : zNN} {w : zW} (hI : IV g ad t u w) : zMB g M_Ip_loose [.ref (ad 0)] w (fun o w1 => (o = .inl (some (.int (nI (loN t.1))))) ∧ IV g ad t u w1) 0 0 := by
  obtain ⟨e_a, w_a, k_a⟩ := hI.1.2 0 (by decide)
  obtain rfl := kd_0.mp k_a
  obtain ⟨e_pa, w_pa, k_pa⟩ := hI.1.2 1 (by decide)
  obtain rfl := kd_1.mp k_pa
  obtain ⟨e_pa1, w_pa1, k_pa1⟩ := hI.1.2 2 (by decide)
  obtain rfl := kd_2.mp k_pa1
  obtain ⟨e_pa2, w_pa2, k_pa2⟩ := hI.1.2 3 (by decide)
  obtain ⟨v_pa2_f, rfl⟩ := kd_3.mp k_pa2
  obtain ⟨e_pa3, w_pa3, k_pa3⟩ := hI.1.2 4 (by decide)
  obtain ⟨v_pa3_h, rfl⟩ := kd_4.mp k_pa3
  refine ((C_Ip_loose g (ad 0) (ad 1) (ad 5) (ad 18) (ad 31) (ad 32) (ad 36) (ad 42) (ad 45) (ad 47) (ad 49) (ad 50) (ad 51) (ad 2) (ad 3) (ad 4) t.1 v_pa2_f v_pa3_h t.2.2.1).at (hI.1.I [0, 1, 2, 3, 4] _ rfl (by decide) (by decide) (List.forall_mem_cons.mpr ⟨w_a, (List.forall_mem_cons.mpr ⟨w_pa, (List.forall_mem_cons.mpr ⟨w_pa1, (List.forall_mem_cons.mpr ⟨w_pa2, (List.forall_mem_cons.mpr ⟨w_pa3, (fun _ h => nomatch h)⟩)⟩)⟩)⟩)⟩))).mono (Nat.le_of_ble_eq_true rfl) (Nat.le_of_ble_eq_true rfl) (fun o w1 hp => ?_)
  obtain ⟨cs1, hp, hi9⟩ := hp
  obtain ⟨e1, e2⟩ := hp
  subst e1; subst e2
  exact ⟨(by rw [lo_c]), hI.fix (t2 := t) (is := [0, 1, 2, 3, 4]) hi9 rfl ⟨kd_0.mpr rfl, kd_1.mpr rfl, kd_2.mpr rfl, kd_3.mpr ⟨_, rfl⟩, kd_4.mpr ⟨_, rfl⟩, trivial⟩ (by decide) (by decide) (fun _ _ _ _ h => h) (fun h => h)⟩
set_option maxHeartbeats 4000000 in
theorem Q_Mm_looseX {g : zG} {ad : Nat → Nat} {t : zTT} {u : zNN} {w : zW} (hI : IV g ad t u w) : zMB g M_Mm_loose [.ref (ad 52)] w (fun o w1 => (o = .inl (some (.int (nI (loN t.2.1))))) ∧ IV g ad t u w1) 0 0 := by
  obtain ⟨e_m, w_m, k_m⟩ := hI.1.2 52 (by decide)
  obtain ⟨v_m_th, v_m_cl, v_m_wa, v_m_co_, v_m_fi, v_m_bu, v_m_ho, v_m_lh, v_m_mg, v_m_wd, v_m_po, v_m_de, rfl⟩ := kd_52.mp k_m
  obtain ⟨e_mp, w_mp, k_mp⟩ := hI.1.2 53 (by decide)
  obtain rfl := kd_53.mp k_mp
  obtain ⟨e_mgr, w_mgr, k_mgr⟩ := hI.1.2 61 (by decide)
  obtain ⟨v_mgr_f, rfl⟩ := kd_61.mp k_mgr
  obtain ⟨e_mq, w_mq, k_mq⟩ := hI.1.2 60 (by decide)
  obtain ⟨v_mq_h, rfl⟩ := kd_60.mp k_mq
  refine ((C_Mm_loose9 g (ad 52) (ad 53) (ad 54) (ad 55) (ad 56) (ad 57) (ad 58) (ad 59) (ad 60) (ad 61) (ad 62) (ad 63) (ad 64) (ad 65) (ad 66) (ad 67) (ad 68) v_m_th (nI t.2.2.2.1) v_m_cl v_m_wa v_m_co_ v_m_fi v_m_bu v_m_ho v_m_lh v_m_mg v_m_wd (t.2.2.2.2 3) (t.2.2.2.2 4) v_m_po v_m_de t.2.1 v_mgr_f v_mq_h).at (hI.1.I [52, 53, 61, 60] _ rfl (by decide) (by decide) (List.forall_mem_cons.mpr ⟨w_m, (List.forall_mem_cons.mpr ⟨w_mp, (List.forall_mem_cons.mpr ⟨w_mgr, (List.forall_mem_cons.mpr ⟨w_mq, (fun _ h => nomatch h)⟩)⟩)⟩)⟩))).mono (Nat.le_of_ble_eq_true rfl) (Nat.le_of_ble_eq_true rfl) (fun o w1 hp => ?_)
  obtain ⟨cs1, hp, hi9⟩ := hp
  obtain ⟨e1, e2⟩ := hp
  subst e1; subst e2
  exact ⟨(by rw [lo_r]), hI.fix (t2 := t) (is := [52, 53, 61, 60]) hi9 rfl ⟨kd_52.mpr ⟨_, _, _, _, _, _, _, _, _, _, _, _, rfl⟩, kd_53.mpr rfl, kd_61.mpr ⟨_, rfl⟩, kd_60.mpr ⟨_, rfl⟩, trivial⟩ (by decide) (by decide) (fun _ _ _ _ h => h) (fun h => h)⟩
