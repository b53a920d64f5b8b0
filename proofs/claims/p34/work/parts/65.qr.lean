set_option maxHeartbeats 4000000 in
theorem Q_Mm_drawE {g : zG} {ad : Nat → Nat} {t : zTT} {u : zNN} {w : zW} (hI : IV g ad t u w) (k x y u8 v8 : Int32) (hd : ¬ (0 ≤ z_ix 0 k ∧ (0 ≤ x ∧ x < 12 ∧ 0 ≤ y ∧ y < 9) ∧ 1 ≤ u8 ∧ u8 ≤ 12 - x ∧ 1 ≤ v8 ∧ v8 ≤ 9 - y)) : zMB g M_Mm_draw [.ref (ad 52), .int k, .int x, .int y, .int u8, .int v8] w (fun o w1 => (∃ v : Int32, o = .inl (some (.int v))) ∧ IV g ad t u w1) 0 0 := by
  obtain ⟨e_m, w_m, k_m⟩ := hI.1.2 52 (by decide)
  obtain ⟨v_m_th, v_m_cl, v_m_wa, v_m_co_, v_m_fi, v_m_bu, v_m_ho, v_m_lh, v_m_mg, v_m_wd, v_m_po, v_m_de, rfl⟩ := kd_52.mp k_m
  obtain ⟨e_mp, w_mp, k_mp⟩ := hI.1.2 53 (by decide)
  obtain rfl := kd_53.mp k_mp
  refine ((C_Mm_drawE g (ad 52) (ad 53) (ad 54) (ad 55) (ad 56) (ad 57) (ad 58) (ad 59) (ad 60) (ad 61) (ad 62) (ad 63) (ad 64) (ad 65) (ad 66) (ad 67) (ad 68) v_m_th (nI t.2.2.2.1) v_m_cl v_m_wa v_m_co_ v_m_fi v_m_bu v_m_ho v_m_lh v_m_mg v_m_wd (t.2.2.2.2 3) (t.2.2.2.2 4) v_m_po v_m_de t.2.1 k x y u8 v8 hd).at (hI.1.I [52, 53] _ rfl (by decide) (by decide) (List.forall_mem_cons.mpr ⟨w_m, (List.forall_mem_cons.mpr ⟨w_mp, (fun _ h => nomatch h)⟩)⟩))).mono (Nat.le_of_ble_eq_true rfl) (Nat.le_of_ble_eq_true rfl) (fun o w1 hp => ?_)
  obtain ⟨cs1, hp, hi9⟩ := hp
  obtain ⟨e1, e2⟩ := hp
  subst e1; subst e2
  exact ⟨⟨_, rfl⟩, hI.fix (t2 := t) (is := [52, 53]) hi9 rfl ⟨kd_52.mpr ⟨_, _, _, _, _, _, _, _, _, _, _, _, rfl⟩, kd_53.mpr rfl, trivial⟩ (by decide) (by decide) (fun _ _ _ _ h => h) (fun h => h)⟩
set_option maxHeartbeats 4000000 in
theorem Q_Mm_drawN {g : zG} {ad : Nat → Nat} {t : zTT} {u : zNN} {w : zW} (hI : IV g ad t u w) (kd : Int32) (hk : z_kind kd) (hki : 0 ≤ z_ix 0 kd) (x y u9 v9 : Nat) (hx : x + u9 ≤ 12) (hy : y + v9 ≤ 9) (hu : 1 ≤ u9) (hv : 1 ≤ v9) : zMB g M_Mm_draw [.ref (ad 52), .int kd, .int (nI x), .int (nI y), .int (nI u9), .int (nI v9)] w (fun o w1 => (o = .inl (some (.int (nI (prect kd x y u9 (t.2.1, 0) v9).2))) ∧ ∃ fs : List Value, w1 (ad 52) = some (.inr (12, .int 0 :: fs))) ∧ IV g ad (t.1, (prect kd x y u9 (t.2.1, 0) v9).1, t.2.2) u w1) 0 0 := by
  obtain ⟨e_m, w_m, k_m⟩ := hI.1.2 52 (by decide)
  obtain ⟨v_m_th, v_m_cl, v_m_wa, v_m_co_, v_m_fi, v_m_bu, v_m_ho, v_m_lh, v_m_mg, v_m_wd, v_m_po, v_m_de, rfl⟩ := kd_52.mp k_m
  obtain ⟨e_mp, w_mp, k_mp⟩ := hI.1.2 53 (by decide)
  obtain rfl := kd_53.mp k_mp
  refine ((C_Mm_drawN g (ad 52) (ad 53) (ad 54) (ad 55) (ad 56) (ad 57) (ad 58) (ad 59) (ad 60) (ad 61) (ad 62) (ad 63) (ad 64) (ad 65) (ad 66) (ad 67) (ad 68) v_m_th (nI t.2.2.2.1) v_m_cl v_m_wa v_m_co_ v_m_fi v_m_bu v_m_ho v_m_lh v_m_mg v_m_wd (t.2.2.2.2 3) (t.2.2.2.2 4) v_m_po v_m_de t.2.1 kd hk hki x y u9 v9 hx hy hu hv).at (hI.1.I [52, 53] _ rfl (by decide) (by decide) (List.forall_mem_cons.mpr ⟨w_m, (List.forall_mem_cons.mpr ⟨w_mp, (fun _ h => nomatch h)⟩)⟩))).mono (Nat.le_of_ble_eq_true rfl) (Nat.le_of_ble_eq_true rfl) (fun o w1 hp => ?_)
  obtain ⟨cs1, hp, hi9⟩ := hp
  obtain ⟨e1, e2⟩ := hp
  subst e1; subst e2
  exact ⟨⟨rfl, _, hi9.1 _ (List.mem_cons_self)⟩, hI.fix (t2 := (t.1, (prect kd x y u9 (t.2.1, 0) v9).1, t.2.2)) (is := [52, 53]) hi9 rfl ⟨kd_52.mpr ⟨_, _, _, _, _, _, _, _, _, _, _, _, rfl⟩, kd_53.mpr rfl, trivial⟩ (by decide) (by decide) (fun i e hi hn => KD.cg i e hi (fun _ => rfl) (fun _ => rfl) (fun _ => ⟨rfl, rfl, rfl⟩) (fun _ => ⟨rfl, rfl, rfl⟩) (fun e => absurd (by rw [e]; decide) hn)) (fun h => ⟨h.1, prect_ch hk h.2.1 v9, h.2.2⟩)⟩
set_option maxHeartbeats 4000000 in
theorem Q_Mm_cellE {g : zG} {ad : Nat → Nat} {t : zTT} {u : zNN} {w : zW} (hI : IV g ad t u w) (x y : Int32) (hz : z_cl x y = none) : zMB g M_Mm_cell [.ref (ad 52), .int x, .int y] w (fun o w1 => ((∃ v : Int32, o = .inl (some (.int v))) ∧ ∃ fs : List Value, w1 (ad 52) = some (.inr (12, .int 1 :: fs))) ∧ IV g ad t u w1) 0 0 := by
  obtain ⟨e_m, w_m, k_m⟩ := hI.1.2 52 (by decide)
  obtain ⟨v_m_th, v_m_cl, v_m_wa, v_m_co_, v_m_fi, v_m_bu, v_m_ho, v_m_lh, v_m_mg, v_m_wd, v_m_po, v_m_de, rfl⟩ := kd_52.mp k_m
  obtain ⟨e_mp, w_mp, k_mp⟩ := hI.1.2 53 (by decide)
  obtain rfl := kd_53.mp k_mp
  refine ((C_Mm_cellE g (ad 52) (ad 53) (ad 54) (ad 55) (ad 56) (ad 57) (ad 58) (ad 59) (ad 60) (ad 61) (ad 62) (ad 63) (ad 64) (ad 65) (ad 66) (ad 67) (ad 68) v_m_th (nI t.2.2.2.1) v_m_cl v_m_wa v_m_co_ v_m_fi v_m_bu v_m_ho v_m_lh v_m_mg v_m_wd (t.2.2.2.2 3) (t.2.2.2.2 4) v_m_po v_m_de t.2.1 x y hz).at (hI.1.I [52, 53] _ rfl (by decide) (by decide) (List.forall_mem_cons.mpr ⟨w_m, (List.forall_mem_cons.mpr ⟨w_mp, (fun _ h => nomatch h)⟩)⟩))).mono (Nat.le_of_ble_eq_true rfl) (Nat.le_of_ble_eq_true rfl) (fun o w1 hp => ?_)
  obtain ⟨cs1, hp, hi9⟩ := hp
  obtain ⟨e1, e2⟩ := hp
  subst e1; subst e2
  exact ⟨⟨⟨_, rfl⟩, _, hi9.1 _ (List.mem_cons_self)⟩, hI.fix (t2 := t) (is := [52, 53]) hi9 rfl ⟨kd_52.mpr ⟨_, _, _, _, _, _, _, _, _, _, _, _, rfl⟩, kd_53.mpr rfl, trivial⟩ (by decide) (by decide) (fun _ _ _ _ h => h) (fun h => h)⟩
set_option maxHeartbeats 4000000 in
theorem Q_Mm_cellN {g : zG} {ad : Nat → Nat} {t : zTT} {u : zNN} {w : zW} (hI : IV g ad t u w) (x0 y0 : Nat) (hx0 : x0 < 12) (hy0 : y0 < 9) : zMB g M_Mm_cell [.ref (ad 52), .int (nI x0), .int (nI y0)] w (fun o w1 => (o = .inl (some (.int (t.2.1 (12 * y0 + x0)))) ∧ ∃ fs : List Value, w1 (ad 52) = some (.inr (12, .int 0 :: fs))) ∧ IV g ad t u w1) 0 0 := by
  obtain ⟨e_m, w_m, k_m⟩ := hI.1.2 52 (by decide)
  obtain ⟨v_m_th, v_m_cl, v_m_wa, v_m_co_, v_m_fi, v_m_bu, v_m_ho, v_m_lh, v_m_mg, v_m_wd, v_m_po, v_m_de, rfl⟩ := kd_52.mp k_m
  obtain ⟨e_mp, w_mp, k_mp⟩ := hI.1.2 53 (by decide)
  obtain rfl := kd_53.mp k_mp
  refine ((C_Mm_cellN g (ad 52) (ad 53) (ad 54) (ad 55) (ad 56) (ad 57) (ad 58) (ad 59) (ad 60) (ad 61) (ad 62) (ad 63) (ad 64) (ad 65) (ad 66) (ad 67) (ad 68) v_m_th (nI t.2.2.2.1) v_m_cl v_m_wa v_m_co_ v_m_fi v_m_bu v_m_ho v_m_lh v_m_mg v_m_wd (t.2.2.2.2 3) (t.2.2.2.2 4) v_m_po v_m_de t.2.1 x0 y0 hx0 hy0 hI.2.2.2.1).at (hI.1.I [52, 53] _ rfl (by decide) (by decide) (List.forall_mem_cons.mpr ⟨w_m, (List.forall_mem_cons.mpr ⟨w_mp, (fun _ h => nomatch h)⟩)⟩))).mono (Nat.le_of_ble_eq_true rfl) (Nat.le_of_ble_eq_true rfl) (fun o w1 hp => ?_)
  obtain ⟨cs1, hp, hi9⟩ := hp
  obtain ⟨e1, e2⟩ := hp
  subst e1; subst e2
  exact ⟨⟨rfl, _, hi9.1 _ (List.mem_cons_self)⟩, hI.fix (t2 := t) (is := [52, 53]) hi9 rfl ⟨kd_52.mpr ⟨_, _, _, _, _, _, _, _, _, _, _, _, rfl⟩, kd_53.mpr rfl, trivial⟩ (by decide) (by decide) (fun _ _ _ _ h => h) (fun h => h)⟩
set_option maxHeartbeats 4000000 in
theorem Q_Mm_partE {g : zG} {ad : Nat → Nat} {t : zTT} {u : zNN} {w : zW} (hI : IV g ad t u w) (r : Int32) (hw : ¬ (1 ≤ r ∧ r ≤ 8)) : zMB g M_Mm_part [.ref (ad 52), .int r] w (fun o w1 => ((∃ v : Int32, o = .inl (some (.int v))) ∧ ∃ fs : List Value, w1 (ad 52) = some (.inr (12, .int 1 :: fs))) ∧ IV g ad t u w1) 0 0 := by
  obtain ⟨e_m, w_m, k_m⟩ := hI.1.2 52 (by decide)
  obtain ⟨v_m_th, v_m_cl, v_m_wa, v_m_co_, v_m_fi, v_m_bu, v_m_ho, v_m_lh, v_m_mg, v_m_wd, v_m_po, v_m_de, rfl⟩ := kd_52.mp k_m
  refine ((C_Mm_partE g (ad 52) (ad 53) (ad 54) (ad 55) (ad 56) (ad 57) (ad 58) (ad 59) (ad 60) (ad 61) (ad 62) (ad 63) (ad 64) (ad 65) (ad 66) (ad 67) (ad 68) v_m_th (nI t.2.2.2.1) v_m_cl v_m_wa v_m_co_ v_m_fi v_m_bu v_m_ho v_m_lh v_m_mg v_m_wd (t.2.2.2.2 3) (t.2.2.2.2 4) v_m_po v_m_de r hw).at (hI.1.I [52] _ rfl (by decide) (by decide) (List.forall_mem_cons.mpr ⟨w_m, (fun _ h => nomatch h)⟩))).mono (Nat.le_of_ble_eq_true rfl) (Nat.le_of_ble_eq_true rfl) (fun o w1 hp => ?_)
  obtain ⟨cs1, hp, hi9⟩ := hp
  obtain ⟨e1, e2⟩ := hp
  subst e1; subst e2
  exact ⟨⟨⟨_, rfl⟩, _, hi9.1 _ (List.mem_cons_self)⟩, hI.fix (t2 := t) (is := [52]) hi9 rfl ⟨kd_52.mpr ⟨_, _, _, _, _, _, _, _, _, _, _, _, rfl⟩, trivial⟩ (by decide) (by decide) (fun _ _ _ _ h => h) (fun h => h)⟩
set_option maxHeartbeats 4000000 in
theorem Q_Mm_partN {g : zG} {ad : Nat → Nat} {t : zTT} {u : zNN} {w : zW} (hI : IV g ad t u w) (p9 : Nat) (h1 : 1 ≤ p9) (h2 : p9 < 9) (hw : (1 ≤ nI p9 ∧ nI p9 ≤ 8)) : zMB g M_Mm_part [.ref (ad 52), .int (nI p9)] w (fun o w1 => (o = .inl (some (.int (nI t.2.2.2.1))) ∧ ∃ fs : List Value, w1 (ad 52) = some (.inr (12, .int 0 :: fs))) ∧ IV g ad (t.1, t.2.1, t.2.2.1, p9, t.2.2.2.2) u w1) 0 0 := by
  obtain ⟨e_m, w_m, k_m⟩ := hI.1.2 52 (by decide)
  obtain ⟨v_m_th, v_m_cl, v_m_wa, v_m_co_, v_m_fi, v_m_bu, v_m_ho, v_m_lh, v_m_mg, v_m_wd, v_m_po, v_m_de, rfl⟩ := kd_52.mp k_m
  refine ((C_Mm_partN g (ad 52) (ad 53) (ad 54) (ad 55) (ad 56) (ad 57) (ad 58) (ad 59) (ad 60) (ad 61) (ad 62) (ad 63) (ad 64) (ad 65) (ad 66) (ad 67) (ad 68) v_m_th (nI t.2.2.2.1) v_m_cl v_m_wa v_m_co_ v_m_fi v_m_bu v_m_ho v_m_lh v_m_mg v_m_wd (t.2.2.2.2 3) (t.2.2.2.2 4) v_m_po v_m_de (nI p9) hw).at (hI.1.I [52] _ rfl (by decide) (by decide) (List.forall_mem_cons.mpr ⟨w_m, (fun _ h => nomatch h)⟩))).mono (Nat.le_of_ble_eq_true rfl) (Nat.le_of_ble_eq_true rfl) (fun o w1 hp => ?_)
  obtain ⟨cs1, hp, hi9⟩ := hp
  obtain ⟨e1, e2⟩ := hp
  subst e1; subst e2
  exact ⟨⟨rfl, _, hi9.1 _ (List.mem_cons_self)⟩, hI.fix (t2 := (t.1, t.2.1, t.2.2.1, p9, t.2.2.2.2)) (is := [52]) hi9 rfl ⟨kd_52.mpr ⟨_, _, _, _, _, _, _, _, _, _, _, _, rfl⟩, trivial⟩ (by decide) (by decide) (fun i e hi hn => KD.cg i e hi (fun _ => rfl) (fun _ => rfl) (fun _ => ⟨rfl, rfl, rfl⟩) (fun e => absurd (by rw [e]; decide) hn) (fun _ => rfl)) (fun h => ⟨h.1, h.2.1, h.2.2.1, ⟨h1, h2⟩⟩)⟩
set_option maxHeartbeats 4000000 in
theorem Q_Mm_undercut {g : zG} {ad : Nat → Nat} {t : zTT} {u : zNN} {w : zW} (hI : IV g ad t u w) : zMB g M_Mm_undercut [.ref (ad 52)] w (fun o w1 => (o = .inl (some (.int (nI (ucT t.2.1 t.2.2.2.1 12))))) ∧ IV g ad t u w1) 0 0 := by
  obtain ⟨e_m, w_m, k_m⟩ := hI.1.2 52 (by decide)
  obtain ⟨v_m_th, v_m_cl, v_m_wa, v_m_co_, v_m_fi, v_m_bu, v_m_ho, v_m_lh, v_m_mg, v_m_wd, v_m_po, v_m_de, rfl⟩ := kd_52.mp k_m
  obtain ⟨e_mp, w_mp, k_mp⟩ := hI.1.2 53 (by decide)
  obtain rfl := kd_53.mp k_mp
  refine ((C_Mm_undercut g (ad 52) (ad 53) (ad 54) (ad 55) (ad 56) (ad 57) (ad 58) (ad 59) (ad 60) (ad 61) (ad 62) (ad 63) (ad 64) (ad 65) (ad 66) (ad 67) (ad 68) v_m_th v_m_cl v_m_wa v_m_co_ v_m_fi v_m_bu v_m_ho v_m_lh v_m_mg v_m_wd (t.2.2.2.2 3) (t.2.2.2.2 4) v_m_po v_m_de t.2.1 t.2.2.2.1 hI.2.2.2.2.2.1 hI.2.2.2.2.2.2 hI.2.2.2.1).at (hI.1.I [52, 53] _ rfl (by decide) (by decide) (List.forall_mem_cons.mpr ⟨w_m, (List.forall_mem_cons.mpr ⟨w_mp, (fun _ h => nomatch h)⟩)⟩))).mono (Nat.le_of_ble_eq_true rfl) (Nat.le_of_ble_eq_true rfl) (fun o w1 hp => ?_)
  obtain ⟨cs1, hp, hi9⟩ := hp
  obtain ⟨e1, e2⟩ := hp
  subst e1; subst e2
  exact ⟨rfl, hI.fix (t2 := t) (is := [52, 53]) hi9 rfl ⟨kd_52.mpr ⟨_, _, _, _, _, _, _, _, _, _, _, _, rfl⟩, kd_53.mpr rfl, trivial⟩ (by decide) (by decide) (fun _ _ _ _ h => h) (fun h => h)⟩
set_option maxHeartbeats 4000000 in
theorem Q_Mm_cores {g : zG} {ad : Nat → Nat} {t : zTT} {u : zNN} {w : zW} (hI : IV g ad t u w) : zMB g M_Mm_cores [.ref (ad 52)] w (fun o w1 => (∃ v : Int32, o = .inl (some (.int v))) ∧ IV g ad t u w1) 0 0 := by
  obtain ⟨e_m, w_m, k_m⟩ := hI.1.2 52 (by decide)
  obtain ⟨v_m_th, v_m_cl, v_m_wa, v_m_co_, v_m_fi, v_m_bu, v_m_ho, v_m_lh, v_m_mg, v_m_wd, v_m_po, v_m_de, rfl⟩ := kd_52.mp k_m
  obtain ⟨e_mp, w_mp, k_mp⟩ := hI.1.2 53 (by decide)
  obtain rfl := kd_53.mp k_mp
  obtain ⟨e_mgr, w_mgr, k_mgr⟩ := hI.1.2 61 (by decide)
  obtain ⟨v_mgr_f, rfl⟩ := kd_61.mp k_mgr
  obtain ⟨e_mq, w_mq, k_mq⟩ := hI.1.2 60 (by decide)
  obtain ⟨v_mq_h, rfl⟩ := kd_60.mp k_mq
  refine ((C_Mm_coresW g (ad 52) (ad 53) (ad 54) (ad 55) (ad 56) (ad 57) (ad 58) (ad 59) (ad 60) (ad 61) (ad 62) (ad 63) (ad 64) (ad 65) (ad 66) (ad 67) (ad 68) v_m_th (nI t.2.2.2.1) v_m_cl v_m_wa v_m_co_ v_m_fi v_m_bu v_m_ho v_m_lh v_m_mg v_m_wd (t.2.2.2.2 3) (t.2.2.2.2 4) v_m_po v_m_de t.2.1 v_mgr_f v_mq_h).at (hI.1.I [52, 53, 61, 60] _ rfl (by decide) (by decide) (List.forall_mem_cons.mpr ⟨w_m, (List.forall_mem_cons.mpr ⟨w_mp, (List.forall_mem_cons.mpr ⟨w_mgr, (List.forall_mem_cons.mpr ⟨w_mq, (fun _ h => nomatch h)⟩)⟩)⟩)⟩))).mono (Nat.le_of_ble_eq_true rfl) (Nat.le_of_ble_eq_true rfl) (fun o w1 hp => ?_)
  obtain ⟨cs1, hp, hi9⟩ := hp
  obtain ⟨v9, gp9, qn9, e1, e2⟩ := hp
  subst e1; subst e2
  exact ⟨⟨_, rfl⟩, hI.fix (t2 := t) (is := [52, 53, 61, 60]) hi9 rfl ⟨kd_52.mpr ⟨_, _, _, _, _, _, _, _, _, _, _, _, rfl⟩, kd_53.mpr rfl, kd_61.mpr ⟨_, rfl⟩, kd_60.mpr ⟨_, rfl⟩, trivial⟩ (by decide) (by decide) (fun _ _ _ _ h => h) (fun h => h)⟩
set_option maxHeartbeats 4000000 in
theorem Q_Mm_loose {g : zG} {ad : Nat → Nat} {t : zTT} {u : zNN} {w : zW} (hI : IV g ad t u w) : zMB g M_Mm_loose [.ref (ad 52)] w (fun o w1 => (∃ v : Int32, o = .inl (some (.int v))) ∧ IV g ad t u w1) 0 0 := by
  obtain ⟨e_m, w_m, k_m⟩ := hI.1.2 52 (by decide)
  obtain ⟨v_m_th, v_m_cl, v_m_wa, v_m_co_, v_m_fi, v_m_bu, v_m_ho, v_m_lh, v_m_mg, v_m_wd, v_m_po, v_m_de, rfl⟩ := kd_52.mp k_m
  obtain ⟨e_mp, w_mp, k_mp⟩ := hI.1.2 53 (by decide)
  obtain rfl := kd_53.mp k_mp
  obtain ⟨e_mgr, w_mgr, k_mgr⟩ := hI.1.2 61 (by decide)
  obtain ⟨v_mgr_f, rfl⟩ := kd_61.mp k_mgr
  obtain ⟨e_mq, w_mq, k_mq⟩ := hI.1.2 60 (by decide)
  obtain ⟨v_mq_h, rfl⟩ := kd_60.mp k_mq
  refine ((C_Mm_looseW g (ad 52) (ad 53) (ad 54) (ad 55) (ad 56) (ad 57) (ad 58) (ad 59) (ad 60) (ad 61) (ad 62) (ad 63) (ad 64) (ad 65) (ad 66) (ad 67) (ad 68) v_m_th (nI t.2.2.2.1) v_m_cl v_m_wa v_m_co_ v_m_fi v_m_bu v_m_ho v_m_lh v_m_mg v_m_wd (t.2.2.2.2 3) (t.2.2.2.2 4) v_m_po v_m_de t.2.1 v_mgr_f v_mq_h).at (hI.1.I [52, 53, 61, 60] _ rfl (by decide) (by decide) (List.forall_mem_cons.mpr ⟨w_m, (List.forall_mem_cons.mpr ⟨w_mp, (List.forall_mem_cons.mpr ⟨w_mgr, (List.forall_mem_cons.mpr ⟨w_mq, (fun _ h => nomatch h)⟩)⟩)⟩)⟩))).mono (Nat.le_of_ble_eq_true rfl) (Nat.le_of_ble_eq_true rfl) (fun o w1 hp => ?_)
  obtain ⟨cs1, hp, hi9⟩ := hp
  obtain ⟨v9, gp9, qn9, e1, e2⟩ := hp
  subst e1; subst e2
  exact ⟨⟨_, rfl⟩, hI.fix (t2 := t) (is := [52, 53, 61, 60]) hi9 rfl ⟨kd_52.mpr ⟨_, _, _, _, _, _, _, _, _, _, _, _, rfl⟩, kd_53.mpr rfl, kd_61.mpr ⟨_, rfl⟩, kd_60.mpr ⟨_, rfl⟩, trivial⟩ (by decide) (by decide) (fun _ _ _ _ h => h) (fun h => h)⟩
set_option maxHeartbeats 4000000 in
theorem Q_Mm_weight {g : zG} {ad : Nat → Nat} {t : zTT} {u : zNN} {w : zW} (hI : IV g ad t u w) : zMB g M_Mm_weight [.ref (ad 52)] w (fun o w1 => (o = .inl (some (.int (2 * nI (fa_cnt (fun k => tmB (t.2.1 k)) 108))))) ∧ IV g ad t u w1) 0 0 := by
  obtain ⟨e_m, w_m, k_m⟩ := hI.1.2 52 (by decide)
  obtain ⟨v_m_th, v_m_cl, v_m_wa, v_m_co_, v_m_fi, v_m_bu, v_m_ho, v_m_lh, v_m_mg, v_m_wd, v_m_po, v_m_de, rfl⟩ := kd_52.mp k_m
  obtain ⟨e_mp, w_mp, k_mp⟩ := hI.1.2 53 (by decide)
  obtain rfl := kd_53.mp k_mp
  refine ((C_Mm_weight g (ad 52) (ad 53) (ad 54) (ad 55) (ad 56) (ad 57) (ad 58) (ad 59) (ad 60) (ad 61) (ad 62) (ad 63) (ad 64) (ad 65) (ad 66) (ad 67) (ad 68) v_m_th (nI t.2.2.2.1) v_m_cl v_m_wa v_m_co_ v_m_fi v_m_bu v_m_ho v_m_lh v_m_mg v_m_wd (t.2.2.2.2 3) (t.2.2.2.2 4) v_m_po v_m_de t.2.1).at (hI.1.I [52, 53] _ rfl (by decide) (by decide) (List.forall_mem_cons.mpr ⟨w_m, (List.forall_mem_cons.mpr ⟨w_mp, (fun _ h => nomatch h)⟩)⟩))).mono (Nat.le_of_ble_eq_true rfl) (Nat.le_of_ble_eq_true rfl) (fun o w1 hp => ?_)
  obtain ⟨cs1, hp, hi9⟩ := hp
  obtain ⟨e1, e2⟩ := hp
  subst e1; subst e2
  exact ⟨rfl, hI.fix (t2 := t) (is := [52, 53]) hi9 rfl ⟨kd_52.mpr ⟨_, _, _, _, _, _, _, _, _, _, _, _, rfl⟩, kd_53.mpr rfl, trivial⟩ (by decide) (by decide) (fun _ _ _ _ h => h) (fun h => h)⟩
set_option maxHeartbeats 4000000 in
theorem Q_Mm_filledIn {g : zG} {ad : Nat → Nat} {t : zTT} {u : zNN} {w : zW} (hI : IV g ad t u w) (x y : Int32) : zMB g M_Mm_filledIn [.ref (ad 52), .int x, .int y] w (fun o w1 => (∃ v : Int32, o = .inl (some (.int v))) ∧ IV g ad t u w1) 0 0 := by
  obtain ⟨e_m, w_m, k_m⟩ := hI.1.2 52 (by decide)
  obtain ⟨v_m_th, v_m_cl, v_m_wa, v_m_co_, v_m_fi, v_m_bu, v_m_ho, v_m_lh, v_m_mg, v_m_wd, v_m_po, v_m_de, rfl⟩ := kd_52.mp k_m
  obtain ⟨e_mp, w_mp, k_mp⟩ := hI.1.2 53 (by decide)
  obtain rfl := kd_53.mp k_mp
  obtain ⟨e_mf, w_mf, k_mf⟩ := hI.1.2 54 (by decide)
  obtain ⟨v_mf_f, rfl⟩ := kd_54.mp k_mf
  obtain ⟨e_mh, w_mh, k_mh⟩ := hI.1.2 55 (by decide)
  obtain ⟨v_mh_f, rfl⟩ := kd_55.mp k_mh
  obtain ⟨e_mt, w_mt, k_mt⟩ := hI.1.2 57 (by decide)
  obtain ⟨v_mt_f, rfl⟩ := kd_57.mp k_mt
  obtain ⟨e_mz, w_mz, k_mz⟩ := hI.1.2 58 (by decide)
  obtain ⟨v_mz_f, rfl⟩ := kd_58.mp k_mz
  obtain ⟨e_mn, w_mn, k_mn⟩ := hI.1.2 56 (by decide)
  obtain ⟨v_mn_f, rfl⟩ := kd_56.mp k_mn
  obtain ⟨e_mc_, w_mc_, k_mc_⟩ := hI.1.2 59 (by decide)
  obtain ⟨v_mc__f, rfl⟩ := kd_59.mp k_mc_
  obtain ⟨e_mq, w_mq, k_mq⟩ := hI.1.2 60 (by decide)
  obtain ⟨v_mq_h, rfl⟩ := kd_60.mp k_mq
  by_cases hq : 0 ≤ x ∧ x < 12 ∧ 0 ≤ y ∧ y < 9
  · obtain ⟨x0, y0, hx0, hy0, ex, ey, hz⟩ := z_cl_in hq
    subst ex; subst ey
    refine ((C_Mm_filledInW g (ad 52) (ad 53) (ad 54) (ad 55) (ad 56) (ad 57) (ad 58) (ad 59) (ad 60) (ad 61) (ad 62) (ad 63) (ad 64) (ad 65) (ad 66) (ad 67) (ad 68) v_m_th (nI t.2.2.2.1) v_m_cl v_m_wa v_m_co_ v_m_fi v_m_bu v_m_ho v_m_lh v_m_mg v_m_wd (t.2.2.2.2 3) (t.2.2.2.2 4) v_m_po v_m_de t.2.1 v_mf_f v_mh_f v_mn_f v_mt_f v_mz_f v_mc__f v_mq_h x0 y0 hx0 hy0).at (hI.1.I [52, 53, 54, 55, 57, 58, 56, 59, 60] _ rfl (by decide) (by decide) (List.forall_mem_cons.mpr ⟨w_m, (List.forall_mem_cons.mpr ⟨w_mp, (List.forall_mem_cons.mpr ⟨w_mf, (List.forall_mem_cons.mpr ⟨w_mh, (List.forall_mem_cons.mpr ⟨w_mt, (List.forall_mem_cons.mpr ⟨w_mz, (List.forall_mem_cons.mpr ⟨w_mn, (List.forall_mem_cons.mpr ⟨w_mc_, (List.forall_mem_cons.mpr ⟨w_mq, (fun _ h => nomatch h)⟩)⟩)⟩)⟩)⟩)⟩)⟩)⟩)⟩))).mono (Nat.le_of_ble_eq_true rfl) (Nat.le_of_ble_eq_true rfl) (fun o w1 hp => ?_)
    obtain ⟨cs1, hp, hi9⟩ := hp
    obtain ⟨v9, th9, fl9, he9, nx9, mt9, fz9, ic9, qn9, e1, e2⟩ := hp
    subst e1; subst e2
    exact ⟨⟨_, rfl⟩, hI.fix (t2 := t) (is := [52, 53, 54, 55, 57, 58, 56, 59, 60]) hi9 rfl ⟨kd_52.mpr ⟨_, _, _, _, _, _, _, _, _, _, _, _, rfl⟩, kd_53.mpr rfl, kd_54.mpr ⟨_, rfl⟩, kd_55.mpr ⟨_, rfl⟩, kd_57.mpr ⟨_, rfl⟩, kd_58.mpr ⟨_, rfl⟩, kd_56.mpr ⟨_, rfl⟩, kd_59.mpr ⟨_, rfl⟩, kd_60.mpr ⟨_, rfl⟩, trivial⟩ (by decide) (by decide) (fun _ _ _ _ h => h) (fun h => h)⟩
  · refine ((C_Mm_filledInE g (ad 52) (ad 53) (ad 54) (ad 55) (ad 56) (ad 57) (ad 58) (ad 59) (ad 60) (ad 61) (ad 62) (ad 63) (ad 64) (ad 65) (ad 66) (ad 67) (ad 68) v_m_th (nI t.2.2.2.1) v_m_cl v_m_wa v_m_co_ v_m_fi v_m_bu v_m_ho v_m_lh v_m_mg v_m_wd (t.2.2.2.2 3) (t.2.2.2.2 4) v_m_po v_m_de t.2.1 x y (if_neg hq)).at (hI.1.I [52, 53] _ rfl (by decide) (by decide) (List.forall_mem_cons.mpr ⟨w_m, (List.forall_mem_cons.mpr ⟨w_mp, (fun _ h => nomatch h)⟩)⟩))).mono (Nat.le_of_ble_eq_true rfl) (Nat.le_of_ble_eq_true rfl) (fun o w1 hp => ?_)
    obtain ⟨cs1, hp, hi9⟩ := hp
    obtain ⟨e1, e2⟩ := hp
    subst e1; subst e2
    exact ⟨⟨_, rfl⟩, hI.fix (t2 := t) (is := [52, 53]) hi9 rfl ⟨kd_52.mpr ⟨_, _, _, _, _, _, _, _, _, _, _, _, rfl⟩, kd_53.mpr rfl, trivial⟩ (by decide) (by decide) (fun _ _ _ _ h => h) (fun h => h)⟩
set_option maxHeartbeats 4000000 in
theorem Q_Mm_speed {g : zG} {ad : Nat → Nat} {t : zTT} {u : zNN} {w : zW} (hI : IV g ad t u w) : zMB g M_Mm_speed [.ref (ad 52)] w (fun o w1 => (∃ v : Int32, o = .inl (some (.int v))) ∧ IV g ad t u w1) 0 0 := by
  obtain ⟨e_m, w_m, k_m⟩ := hI.1.2 52 (by decide)
  obtain ⟨v_m_th, v_m_cl, v_m_wa, v_m_co_, v_m_fi, v_m_bu, v_m_ho, v_m_lh, v_m_mg, v_m_wd, v_m_po, v_m_de, rfl⟩ := kd_52.mp k_m
  obtain ⟨e_mp, w_mp, k_mp⟩ := hI.1.2 53 (by decide)
  obtain rfl := kd_53.mp k_mp
  refine ((C_Mm_speedW g (ad 52) (ad 53) (ad 54) (ad 55) (ad 56) (ad 57) (ad 58) (ad 59) (ad 60) (ad 61) (ad 62) (ad 63) (ad 64) (ad 65) (ad 66) (ad 67) (ad 68) v_m_th (nI t.2.2.2.1) v_m_cl v_m_wa v_m_co_ v_m_fi v_m_bu v_m_ho v_m_lh v_m_mg v_m_wd (t.2.2.2.2 3) (t.2.2.2.2 4) v_m_po v_m_de t.2.1).at (hI.1.I [52, 53] _ rfl (by decide) (by decide) (List.forall_mem_cons.mpr ⟨w_m, (List.forall_mem_cons.mpr ⟨w_mp, (fun _ h => nomatch h)⟩)⟩))).mono (Nat.le_of_ble_eq_true rfl) (Nat.le_of_ble_eq_true rfl) (fun o w1 hp => ?_)
  obtain ⟨cs1, hp, hi9⟩ := hp
  obtain ⟨v9, th9, e1, e2⟩ := hp
  subst e1; subst e2
  exact ⟨⟨_, rfl⟩, hI.fix (t2 := t) (is := [52, 53]) hi9 rfl ⟨kd_52.mpr ⟨_, _, _, _, _, _, _, _, _, _, _, _, rfl⟩, kd_53.mpr rfl, trivial⟩ (by decide) (by decide) (fun _ _ _ _ h => h) (fun h => h)⟩
set_option maxHeartbeats 4000000 in
theorem Q_Mm_frozenIn {g : zG} {ad : Nat → Nat} {t : zTT} {u : zNN} {w : zW} (hI : IV g ad t u w) (x y h : Int32) : zMB g M_Mm_frozenIn [.ref (ad 52), .int x, .int y, .int h] w (fun o w1 => (∃ v : Int32, o = .inl (some (.int v))) ∧ IV g ad t u w1) 0 0 := by
  obtain ⟨e_m, w_m, k_m⟩ := hI.1.2 52 (by decide)
  obtain ⟨v_m_th, v_m_cl, v_m_wa, v_m_co_, v_m_fi, v_m_bu, v_m_ho, v_m_lh, v_m_mg, v_m_wd, v_m_po, v_m_de, rfl⟩ := kd_52.mp k_m
  obtain ⟨e_mp, w_mp, k_mp⟩ := hI.1.2 53 (by decide)
  obtain rfl := kd_53.mp k_mp
  obtain ⟨e_mf, w_mf, k_mf⟩ := hI.1.2 54 (by decide)
  obtain ⟨v_mf_f, rfl⟩ := kd_54.mp k_mf
  obtain ⟨e_mh, w_mh, k_mh⟩ := hI.1.2 55 (by decide)
  obtain ⟨v_mh_f, rfl⟩ := kd_55.mp k_mh
  obtain ⟨e_mt, w_mt, k_mt⟩ := hI.1.2 57 (by decide)
  obtain ⟨v_mt_f, rfl⟩ := kd_57.mp k_mt
  obtain ⟨e_mz, w_mz, k_mz⟩ := hI.1.2 58 (by decide)
  obtain ⟨v_mz_f, rfl⟩ := kd_58.mp k_mz
  obtain ⟨e_mn, w_mn, k_mn⟩ := hI.1.2 56 (by decide)
  obtain ⟨v_mn_f, rfl⟩ := kd_56.mp k_mn
  obtain ⟨e_mc_, w_mc_, k_mc_⟩ := hI.1.2 59 (by decide)
  obtain ⟨v_mc__f, rfl⟩ := kd_59.mp k_mc_
  obtain ⟨e_mq, w_mq, k_mq⟩ := hI.1.2 60 (by decide)
  obtain ⟨v_mq_h, rfl⟩ := kd_60.mp k_mq
  by_cases hq : 0 ≤ x ∧ x < 12 ∧ 0 ≤ y ∧ y < 9
  · obtain ⟨x0, y0, hx0, hy0, ex, ey, hz⟩ := z_cl_in hq
    subst ex; subst ey
    by_cases hh : 1200 ≤ h ∧ h ≤ 1500
    · refine ((C_Mm_frozenInW g (ad 52) (ad 53) (ad 54) (ad 55) (ad 56) (ad 57) (ad 58) (ad 59) (ad 60) (ad 61) (ad 62) (ad 63) (ad 64) (ad 65) (ad 66) (ad 67) (ad 68) v_m_th (nI t.2.2.2.1) v_m_cl v_m_wa v_m_co_ v_m_fi v_m_bu v_m_ho v_m_lh v_m_mg v_m_wd (t.2.2.2.2 3) (t.2.2.2.2 4) v_m_po v_m_de t.2.1 v_mf_f v_mh_f v_mn_f v_mt_f v_mz_f v_mc__f v_mq_h x0 y0 hx0 hy0 h hh).at (hI.1.I [52, 53, 54, 55, 57, 58, 56, 59, 60] _ rfl (by decide) (by decide) (List.forall_mem_cons.mpr ⟨w_m, (List.forall_mem_cons.mpr ⟨w_mp, (List.forall_mem_cons.mpr ⟨w_mf, (List.forall_mem_cons.mpr ⟨w_mh, (List.forall_mem_cons.mpr ⟨w_mt, (List.forall_mem_cons.mpr ⟨w_mz, (List.forall_mem_cons.mpr ⟨w_mn, (List.forall_mem_cons.mpr ⟨w_mc_, (List.forall_mem_cons.mpr ⟨w_mq, (fun _ h => nomatch h)⟩)⟩)⟩)⟩)⟩)⟩)⟩)⟩)⟩))).mono (Nat.le_of_ble_eq_true rfl) (Nat.le_of_ble_eq_true rfl) (fun o w1 hp => ?_)
      obtain ⟨cs1, hp, hi9⟩ := hp
      obtain ⟨v9, th9, fl9, he9, nx9, mt9, fz9, ic9, qn9, e1, e2⟩ := hp
      subst e1; subst e2
      exact ⟨⟨_, rfl⟩, hI.fix (t2 := t) (is := [52, 53, 54, 55, 57, 58, 56, 59, 60]) hi9 rfl ⟨kd_52.mpr ⟨_, _, _, _, _, _, _, _, _, _, _, _, rfl⟩, kd_53.mpr rfl, kd_54.mpr ⟨_, rfl⟩, kd_55.mpr ⟨_, rfl⟩, kd_57.mpr ⟨_, rfl⟩, kd_58.mpr ⟨_, rfl⟩, kd_56.mpr ⟨_, rfl⟩, kd_59.mpr ⟨_, rfl⟩, kd_60.mpr ⟨_, rfl⟩, trivial⟩ (by decide) (by decide) (fun _ _ _ _ h => h) (fun h => h)⟩
    · refine ((C_Mm_frozenInF g (ad 52) (ad 53) (ad 54) (ad 55) (ad 56) (ad 57) (ad 58) (ad 59) (ad 60) (ad 61) (ad 62) (ad 63) (ad 64) (ad 65) (ad 66) (ad 67) (ad 68) v_m_th (nI t.2.2.2.1) v_m_cl v_m_wa v_m_co_ v_m_fi v_m_bu v_m_ho v_m_lh v_m_mg v_m_wd (t.2.2.2.2 3) (t.2.2.2.2 4) v_m_po v_m_de t.2.1 x0 y0 hx0 hy0 h hh).at (hI.1.I [52, 53] _ rfl (by decide) (by decide) (List.forall_mem_cons.mpr ⟨w_m, (List.forall_mem_cons.mpr ⟨w_mp, (fun _ h => nomatch h)⟩)⟩))).mono (Nat.le_of_ble_eq_true rfl) (Nat.le_of_ble_eq_true rfl) (fun o w1 hp => ?_)
      obtain ⟨cs1, hp, hi9⟩ := hp
      obtain ⟨e1, e2⟩ := hp
      subst e1; subst e2
      exact ⟨⟨_, rfl⟩, hI.fix (t2 := t) (is := [52, 53]) hi9 rfl ⟨kd_52.mpr ⟨_, _, _, _, _, _, _, _, _, _, _, _, rfl⟩, kd_53.mpr rfl, trivial⟩ (by decide) (by decide) (fun _ _ _ _ h => h) (fun h => h)⟩
  · refine ((C_Mm_frozenInE g (ad 52) (ad 53) (ad 54) (ad 55) (ad 56) (ad 57) (ad 58) (ad 59) (ad 60) (ad 61) (ad 62) (ad 63) (ad 64) (ad 65) (ad 66) (ad 67) (ad 68) v_m_th (nI t.2.2.2.1) v_m_cl v_m_wa v_m_co_ v_m_fi v_m_bu v_m_ho v_m_lh v_m_mg v_m_wd (t.2.2.2.2 3) (t.2.2.2.2 4) v_m_po v_m_de t.2.1 x y h (if_neg hq)).at (hI.1.I [52, 53] _ rfl (by decide) (by decide) (List.forall_mem_cons.mpr ⟨w_m, (List.forall_mem_cons.mpr ⟨w_mp, (fun _ h => nomatch h)⟩)⟩))).mono (Nat.le_of_ble_eq_true rfl) (Nat.le_of_ble_eq_true rfl) (fun o w1 hp => ?_)
    obtain ⟨cs1, hp, hi9⟩ := hp
    obtain ⟨e1, e2⟩ := hp
    subst e1; subst e2
    exact ⟨⟨_, rfl⟩, hI.fix (t2 := t) (is := [52, 53]) hi9 rfl ⟨kd_52.mpr ⟨_, _, _, _, _, _, _, _, _, _, _, _, rfl⟩, kd_53.mpr rfl, trivial⟩ (by decide) (by decide) (fun _ _ _ _ h => h) (fun h => h)⟩
set_option maxHeartbeats 4000000 in
theorem Q_Mm_isFed {g : zG} {ad : Nat → Nat} {t : zTT} {u : zNN} {w : zW} (hI : IV g ad t u w) (x y h : Int32) : zMB g M_Mm_isFed [.ref (ad 52), .int x, .int y, .int h] w (fun o w1 => (∃ v : Int32, o = .inl (some (.int v))) ∧ IV g ad t u w1) 0 0 := by
  obtain ⟨e_m, w_m, k_m⟩ := hI.1.2 52 (by decide)
  obtain ⟨v_m_th, v_m_cl, v_m_wa, v_m_co_, v_m_fi, v_m_bu, v_m_ho, v_m_lh, v_m_mg, v_m_wd, v_m_po, v_m_de, rfl⟩ := kd_52.mp k_m
  obtain ⟨e_mp, w_mp, k_mp⟩ := hI.1.2 53 (by decide)
  obtain rfl := kd_53.mp k_mp
  obtain ⟨e_mf, w_mf, k_mf⟩ := hI.1.2 54 (by decide)
  obtain ⟨v_mf_f, rfl⟩ := kd_54.mp k_mf
  obtain ⟨e_mh, w_mh, k_mh⟩ := hI.1.2 55 (by decide)
  obtain ⟨v_mh_f, rfl⟩ := kd_55.mp k_mh
  obtain ⟨e_mt, w_mt, k_mt⟩ := hI.1.2 57 (by decide)
  obtain ⟨v_mt_f, rfl⟩ := kd_57.mp k_mt
  obtain ⟨e_mz, w_mz, k_mz⟩ := hI.1.2 58 (by decide)
  obtain ⟨v_mz_f, rfl⟩ := kd_58.mp k_mz
  obtain ⟨e_mn, w_mn, k_mn⟩ := hI.1.2 56 (by decide)
  obtain ⟨v_mn_f, rfl⟩ := kd_56.mp k_mn
  obtain ⟨e_mc_, w_mc_, k_mc_⟩ := hI.1.2 59 (by decide)
  obtain ⟨v_mc__f, rfl⟩ := kd_59.mp k_mc_
  obtain ⟨e_mq, w_mq, k_mq⟩ := hI.1.2 60 (by decide)
  obtain ⟨v_mq_h, rfl⟩ := kd_60.mp k_mq
  by_cases hq : 0 ≤ x ∧ x < 12 ∧ 0 ≤ y ∧ y < 9
  · obtain ⟨x0, y0, hx0, hy0, ex, ey, hz⟩ := z_cl_in hq
    subst ex; subst ey
    by_cases hh : 1200 ≤ h ∧ h ≤ 1500
    · refine ((C_Mm_isFedW g (ad 52) (ad 53) (ad 54) (ad 55) (ad 56) (ad 57) (ad 58) (ad 59) (ad 60) (ad 61) (ad 62) (ad 63) (ad 64) (ad 65) (ad 66) (ad 67) (ad 68) v_m_th (nI t.2.2.2.1) v_m_cl v_m_wa v_m_co_ v_m_fi v_m_bu v_m_ho v_m_lh v_m_mg v_m_wd (t.2.2.2.2 3) (t.2.2.2.2 4) v_m_po v_m_de t.2.1 v_mf_f v_mh_f v_mn_f v_mt_f v_mz_f v_mc__f v_mq_h x0 y0 hx0 hy0 h hh).at (hI.1.I [52, 53, 54, 55, 57, 58, 56, 59, 60] _ rfl (by decide) (by decide) (List.forall_mem_cons.mpr ⟨w_m, (List.forall_mem_cons.mpr ⟨w_mp, (List.forall_mem_cons.mpr ⟨w_mf, (List.forall_mem_cons.mpr ⟨w_mh, (List.forall_mem_cons.mpr ⟨w_mt, (List.forall_mem_cons.mpr ⟨w_mz, (List.forall_mem_cons.mpr ⟨w_mn, (List.forall_mem_cons.mpr ⟨w_mc_, (List.forall_mem_cons.mpr ⟨w_mq, (fun _ h => nomatch h)⟩)⟩)⟩)⟩)⟩)⟩)⟩)⟩)⟩))).mono (Nat.le_of_ble_eq_true rfl) (Nat.le_of_ble_eq_true rfl) (fun o w1 hp => ?_)
      obtain ⟨cs1, hp, hi9⟩ := hp
      obtain ⟨v9, th9, fl9, he9, nx9, mt9, fz9, ic9, qn9, p_0, e1, e2⟩ := hp
      subst e1; subst e2
      exact ⟨⟨_, rfl⟩, hI.fix (t2 := t) (is := [52, 53, 54, 55, 57, 58, 56, 59, 60]) hi9 rfl ⟨kd_52.mpr ⟨_, _, _, _, _, _, _, _, _, _, _, _, rfl⟩, kd_53.mpr rfl, kd_54.mpr ⟨_, rfl⟩, kd_55.mpr ⟨_, rfl⟩, kd_57.mpr ⟨_, rfl⟩, kd_58.mpr ⟨_, rfl⟩, kd_56.mpr ⟨_, rfl⟩, kd_59.mpr ⟨_, rfl⟩, kd_60.mpr ⟨_, rfl⟩, trivial⟩ (by decide) (by decide) (fun _ _ _ _ h => h) (fun h => h)⟩
    · refine ((C_Mm_isFedF g (ad 52) (ad 53) (ad 54) (ad 55) (ad 56) (ad 57) (ad 58) (ad 59) (ad 60) (ad 61) (ad 62) (ad 63) (ad 64) (ad 65) (ad 66) (ad 67) (ad 68) v_m_th (nI t.2.2.2.1) v_m_cl v_m_wa v_m_co_ v_m_fi v_m_bu v_m_ho v_m_lh v_m_mg v_m_wd (t.2.2.2.2 3) (t.2.2.2.2 4) v_m_po v_m_de t.2.1 x0 y0 hx0 hy0 h hh).at (hI.1.I [52, 53] _ rfl (by decide) (by decide) (List.forall_mem_cons.mpr ⟨w_m, (List.forall_mem_cons.mpr ⟨w_mp, (fun _ h => nomatch h)⟩)⟩))).mono (Nat.le_of_ble_eq_true rfl) (Nat.le_of_ble_eq_true rfl) (fun o w1 hp => ?_)
      obtain ⟨cs1, hp, hi9⟩ := hp
      obtain ⟨e1, e2⟩ := hp
      subst e1; subst e2
      exact ⟨⟨_, rfl⟩, hI.fix (t2 := t) (is := [52, 53]) hi9 rfl ⟨kd_52.mpr ⟨_, _, _, _, _, _, _, _, _, _, _, _, rfl⟩, kd_53.mpr rfl, trivial⟩ (by decide) (by decide) (fun _ _ _ _ h => h) (fun h => h)⟩
  · refine ((C_Mm_isFedE g (ad 52) (ad 53) (ad 54) (ad 55) (ad 56) (ad 57) (ad 58) (ad 59) (ad 60) (ad 61) (ad 62) (ad 63) (ad 64) (ad 65) (ad 66) (ad 67) (ad 68) v_m_th (nI t.2.2.2.1) v_m_cl v_m_wa v_m_co_ v_m_fi v_m_bu v_m_ho v_m_lh v_m_mg v_m_wd (t.2.2.2.2 3) (t.2.2.2.2 4) v_m_po v_m_de t.2.1 x y h (if_neg hq)).at (hI.1.I [52, 53] _ rfl (by decide) (by decide) (List.forall_mem_cons.mpr ⟨w_m, (List.forall_mem_cons.mpr ⟨w_mp, (fun _ h => nomatch h)⟩)⟩))).mono (Nat.le_of_ble_eq_true rfl) (Nat.le_of_ble_eq_true rfl) (fun o w1 hp => ?_)
    obtain ⟨cs1, hp, hi9⟩ := hp
    obtain ⟨e1, e2⟩ := hp
    subst e1; subst e2
    exact ⟨⟨_, rfl⟩, hI.fix (t2 := t) (is := [52, 53]) hi9 rfl ⟨kd_52.mpr ⟨_, _, _, _, _, _, _, _, _, _, _, _, rfl⟩, kd_53.mpr rfl, trivial⟩ (by decide) (by decide) (fun _ _ _ _ h => h) (fun h => h)⟩
set_option maxHeartbeats 4000000 in
theorem Q_Mm_heatAt {g : zG} {ad : Nat → Nat} {t : zTT} {u : zNN} {w : zW} (hI : IV g ad t u w) (x y h s : Int32) : zMB g M_Mm_heatAt [.ref (ad 52), .int x, .int y, .int h, .int s] w (fun o w1 => (∃ v : Int32, o = .inl (some (.int v))) ∧ IV g ad t u w1) 0 0 := by
  obtain ⟨e_m, w_m, k_m⟩ := hI.1.2 52 (by decide)
  obtain ⟨v_m_th, v_m_cl, v_m_wa, v_m_co_, v_m_fi, v_m_bu, v_m_ho, v_m_lh, v_m_mg, v_m_wd, v_m_po, v_m_de, rfl⟩ := kd_52.mp k_m
  obtain ⟨e_mp, w_mp, k_mp⟩ := hI.1.2 53 (by decide)
  obtain rfl := kd_53.mp k_mp
  obtain ⟨e_mf, w_mf, k_mf⟩ := hI.1.2 54 (by decide)
  obtain ⟨v_mf_f, rfl⟩ := kd_54.mp k_mf
  obtain ⟨e_mh, w_mh, k_mh⟩ := hI.1.2 55 (by decide)
  obtain ⟨v_mh_f, rfl⟩ := kd_55.mp k_mh
  obtain ⟨e_mt, w_mt, k_mt⟩ := hI.1.2 57 (by decide)
  obtain ⟨v_mt_f, rfl⟩ := kd_57.mp k_mt
  obtain ⟨e_mz, w_mz, k_mz⟩ := hI.1.2 58 (by decide)
  obtain ⟨v_mz_f, rfl⟩ := kd_58.mp k_mz
  obtain ⟨e_mn, w_mn, k_mn⟩ := hI.1.2 56 (by decide)
  obtain ⟨v_mn_f, rfl⟩ := kd_56.mp k_mn
  obtain ⟨e_mc_, w_mc_, k_mc_⟩ := hI.1.2 59 (by decide)
  obtain ⟨v_mc__f, rfl⟩ := kd_59.mp k_mc_
  obtain ⟨e_mq, w_mq, k_mq⟩ := hI.1.2 60 (by decide)
  obtain ⟨v_mq_h, rfl⟩ := kd_60.mp k_mq
  by_cases hq : 0 ≤ x ∧ x < 12 ∧ 0 ≤ y ∧ y < 9
  · obtain ⟨x0, y0, hx0, hy0, ex, ey, hz⟩ := z_cl_in hq
    subst ex; subst ey
    by_cases hh : 1200 ≤ h ∧ h ≤ 1500
    · by_cases hs : 0 ≤ s ∧ s ≤ 400
      · obtain ⟨kd, hkd, es⟩ := z_in20 (b := 400) (by decide) hs
        subst es
        refine ((C_Mm_heatAtW g (ad 52) (ad 53) (ad 54) (ad 55) (ad 56) (ad 57) (ad 58) (ad 59) (ad 60) (ad 61) (ad 62) (ad 63) (ad 64) (ad 65) (ad 66) (ad 67) (ad 68) v_m_th (nI t.2.2.2.1) v_m_cl v_m_wa v_m_co_ v_m_fi v_m_bu v_m_ho v_m_lh v_m_mg v_m_wd (t.2.2.2.2 3) (t.2.2.2.2 4) v_m_po v_m_de t.2.1 v_mf_f v_mh_f v_mn_f v_mt_f v_mz_f v_mc__f v_mq_h x0 y0 hx0 hy0 h kd hkd hh).at (hI.1.I [52, 53, 54, 55, 57, 58, 56, 59, 60] _ rfl (by decide) (by decide) (List.forall_mem_cons.mpr ⟨w_m, (List.forall_mem_cons.mpr ⟨w_mp, (List.forall_mem_cons.mpr ⟨w_mf, (List.forall_mem_cons.mpr ⟨w_mh, (List.forall_mem_cons.mpr ⟨w_mt, (List.forall_mem_cons.mpr ⟨w_mz, (List.forall_mem_cons.mpr ⟨w_mn, (List.forall_mem_cons.mpr ⟨w_mc_, (List.forall_mem_cons.mpr ⟨w_mq, (fun _ h => nomatch h)⟩)⟩)⟩)⟩)⟩)⟩)⟩)⟩)⟩))).mono (Nat.le_of_ble_eq_true rfl) (Nat.le_of_ble_eq_true rfl) (fun o w1 hp => ?_)
        obtain ⟨cs1, hp, hi9⟩ := hp
        obtain ⟨v9, th9, fl9, he9, nx9, mt9, fz9, ic9, qn9, e1, e2⟩ := hp
        subst e1; subst e2
        exact ⟨⟨_, rfl⟩, hI.fix (t2 := t) (is := [52, 53, 54, 55, 57, 58, 56, 59, 60]) hi9 rfl ⟨kd_52.mpr ⟨_, _, _, _, _, _, _, _, _, _, _, _, rfl⟩, kd_53.mpr rfl, kd_54.mpr ⟨_, rfl⟩, kd_55.mpr ⟨_, rfl⟩, kd_57.mpr ⟨_, rfl⟩, kd_58.mpr ⟨_, rfl⟩, kd_56.mpr ⟨_, rfl⟩, kd_59.mpr ⟨_, rfl⟩, kd_60.mpr ⟨_, rfl⟩, trivial⟩ (by decide) (by decide) (fun _ _ _ _ h => h) (fun h => h)⟩
      · refine ((C_Mm_heatAtG g (ad 52) (ad 53) (ad 54) (ad 55) (ad 56) (ad 57) (ad 58) (ad 59) (ad 60) (ad 61) (ad 62) (ad 63) (ad 64) (ad 65) (ad 66) (ad 67) (ad 68) v_m_th (nI t.2.2.2.1) v_m_cl v_m_wa v_m_co_ v_m_fi v_m_bu v_m_ho v_m_lh v_m_mg v_m_wd (t.2.2.2.2 3) (t.2.2.2.2 4) v_m_po v_m_de t.2.1 x0 y0 hx0 hy0 h s hh hs).at (hI.1.I [52, 53] _ rfl (by decide) (by decide) (List.forall_mem_cons.mpr ⟨w_m, (List.forall_mem_cons.mpr ⟨w_mp, (fun _ h => nomatch h)⟩)⟩))).mono (Nat.le_of_ble_eq_true rfl) (Nat.le_of_ble_eq_true rfl) (fun o w1 hp => ?_)
        obtain ⟨cs1, hp, hi9⟩ := hp
        obtain ⟨e1, e2⟩ := hp
        subst e1; subst e2
        exact ⟨⟨_, rfl⟩, hI.fix (t2 := t) (is := [52, 53]) hi9 rfl ⟨kd_52.mpr ⟨_, _, _, _, _, _, _, _, _, _, _, _, rfl⟩, kd_53.mpr rfl, trivial⟩ (by decide) (by decide) (fun _ _ _ _ h => h) (fun h => h)⟩
    · refine ((C_Mm_heatAtF g (ad 52) (ad 53) (ad 54) (ad 55) (ad 56) (ad 57) (ad 58) (ad 59) (ad 60) (ad 61) (ad 62) (ad 63) (ad 64) (ad 65) (ad 66) (ad 67) (ad 68) v_m_th (nI t.2.2.2.1) v_m_cl v_m_wa v_m_co_ v_m_fi v_m_bu v_m_ho v_m_lh v_m_mg v_m_wd (t.2.2.2.2 3) (t.2.2.2.2 4) v_m_po v_m_de t.2.1 x0 y0 hx0 hy0 h s hh).at (hI.1.I [52, 53] _ rfl (by decide) (by decide) (List.forall_mem_cons.mpr ⟨w_m, (List.forall_mem_cons.mpr ⟨w_mp, (fun _ h => nomatch h)⟩)⟩))).mono (Nat.le_of_ble_eq_true rfl) (Nat.le_of_ble_eq_true rfl) (fun o w1 hp => ?_)
      obtain ⟨cs1, hp, hi9⟩ := hp
      obtain ⟨e1, e2⟩ := hp
      subst e1; subst e2
      exact ⟨⟨_, rfl⟩, hI.fix (t2 := t) (is := [52, 53]) hi9 rfl ⟨kd_52.mpr ⟨_, _, _, _, _, _, _, _, _, _, _, _, rfl⟩, kd_53.mpr rfl, trivial⟩ (by decide) (by decide) (fun _ _ _ _ h => h) (fun h => h)⟩
  · refine ((C_Mm_heatAtE g (ad 52) (ad 53) (ad 54) (ad 55) (ad 56) (ad 57) (ad 58) (ad 59) (ad 60) (ad 61) (ad 62) (ad 63) (ad 64) (ad 65) (ad 66) (ad 67) (ad 68) v_m_th (nI t.2.2.2.1) v_m_cl v_m_wa v_m_co_ v_m_fi v_m_bu v_m_ho v_m_lh v_m_mg v_m_wd (t.2.2.2.2 3) (t.2.2.2.2 4) v_m_po v_m_de t.2.1 x y h s (if_neg hq)).at (hI.1.I [52, 53] _ rfl (by decide) (by decide) (List.forall_mem_cons.mpr ⟨w_m, (List.forall_mem_cons.mpr ⟨w_mp, (fun _ h => nomatch h)⟩)⟩))).mono (Nat.le_of_ble_eq_true rfl) (Nat.le_of_ble_eq_true rfl) (fun o w1 hp => ?_)
    obtain ⟨cs1, hp, hi9⟩ := hp
    obtain ⟨e1, e2⟩ := hp
    subst e1; subst e2
    exact ⟨⟨_, rfl⟩, hI.fix (t2 := t) (is := [52, 53]) hi9 rfl ⟨kd_52.mpr ⟨_, _, _, _, _, _, _, _, _, _, _, _, rfl⟩, kd_53.mpr rfl, trivial⟩ (by decide) (by decide) (fun _ _ _ _ h => h) (fun h => h)⟩
set_option maxHeartbeats 4000000 in
theorem Q_Mm_shrunk {g : zG} {ad : Nat → Nat} {t : zTT} {u : zNN} {w : zW} (hI : IV g ad t u w) (h : Int32) : zMB g M_Mm_shrunk [.ref (ad 52), .int h] w (fun o w1 => (∃ v : Int32, o = .inl (some (.int v))) ∧ IV g ad t u w1) 0 0 := by
  obtain ⟨e_m, w_m, k_m⟩ := hI.1.2 52 (by decide)
  obtain ⟨v_m_th, v_m_cl, v_m_wa, v_m_co_, v_m_fi, v_m_bu, v_m_ho, v_m_lh, v_m_mg, v_m_wd, v_m_po, v_m_de, rfl⟩ := kd_52.mp k_m
  obtain ⟨e_mp, w_mp, k_mp⟩ := hI.1.2 53 (by decide)
  obtain rfl := kd_53.mp k_mp
  obtain ⟨e_mf, w_mf, k_mf⟩ := hI.1.2 54 (by decide)
  obtain ⟨v_mf_f, rfl⟩ := kd_54.mp k_mf
  obtain ⟨e_mh, w_mh, k_mh⟩ := hI.1.2 55 (by decide)
  obtain ⟨v_mh_f, rfl⟩ := kd_55.mp k_mh
  obtain ⟨e_mt, w_mt, k_mt⟩ := hI.1.2 57 (by decide)
  obtain ⟨v_mt_f, rfl⟩ := kd_57.mp k_mt
  obtain ⟨e_mz, w_mz, k_mz⟩ := hI.1.2 58 (by decide)
  obtain ⟨v_mz_f, rfl⟩ := kd_58.mp k_mz
  obtain ⟨e_mn, w_mn, k_mn⟩ := hI.1.2 56 (by decide)
  obtain ⟨v_mn_f, rfl⟩ := kd_56.mp k_mn
  obtain ⟨e_mc_, w_mc_, k_mc_⟩ := hI.1.2 59 (by decide)
  obtain ⟨v_mc__f, rfl⟩ := kd_59.mp k_mc_
  obtain ⟨e_mq, w_mq, k_mq⟩ := hI.1.2 60 (by decide)
  obtain ⟨v_mq_h, rfl⟩ := kd_60.mp k_mq
  by_cases hh : 1200 ≤ h ∧ h ≤ 1500
  · refine ((C_Mm_shrunkW g (ad 52) (ad 53) (ad 54) (ad 55) (ad 56) (ad 57) (ad 58) (ad 59) (ad 60) (ad 61) (ad 62) (ad 63) (ad 64) (ad 65) (ad 66) (ad 67) (ad 68) v_m_th (nI t.2.2.2.1) v_m_cl v_m_wa v_m_co_ v_m_fi v_m_bu v_m_ho v_m_lh v_m_mg v_m_wd (t.2.2.2.2 3) (t.2.2.2.2 4) v_m_po v_m_de t.2.1 v_mf_f v_mh_f v_mn_f v_mt_f v_mz_f v_mc__f v_mq_h h hh).at (hI.1.I [52, 53, 54, 55, 57, 58, 56, 59, 60] _ rfl (by decide) (by decide) (List.forall_mem_cons.mpr ⟨w_m, (List.forall_mem_cons.mpr ⟨w_mp, (List.forall_mem_cons.mpr ⟨w_mf, (List.forall_mem_cons.mpr ⟨w_mh, (List.forall_mem_cons.mpr ⟨w_mt, (List.forall_mem_cons.mpr ⟨w_mz, (List.forall_mem_cons.mpr ⟨w_mn, (List.forall_mem_cons.mpr ⟨w_mc_, (List.forall_mem_cons.mpr ⟨w_mq, (fun _ h => nomatch h)⟩)⟩)⟩)⟩)⟩)⟩)⟩)⟩)⟩))).mono (Nat.le_of_ble_eq_true rfl) (Nat.le_of_ble_eq_true rfl) (fun o w1 hp => ?_)
    obtain ⟨cs1, hp, hi9⟩ := hp
    obtain ⟨v9, th9, fl9, he9, nx9, mt9, fz9, ic9, qn9, e1, e2⟩ := hp
    subst e1; subst e2
    exact ⟨⟨_, rfl⟩, hI.fix (t2 := t) (is := [52, 53, 54, 55, 57, 58, 56, 59, 60]) hi9 rfl ⟨kd_52.mpr ⟨_, _, _, _, _, _, _, _, _, _, _, _, rfl⟩, kd_53.mpr rfl, kd_54.mpr ⟨_, rfl⟩, kd_55.mpr ⟨_, rfl⟩, kd_57.mpr ⟨_, rfl⟩, kd_58.mpr ⟨_, rfl⟩, kd_56.mpr ⟨_, rfl⟩, kd_59.mpr ⟨_, rfl⟩, kd_60.mpr ⟨_, rfl⟩, trivial⟩ (by decide) (by decide) (fun _ _ _ _ h => h) (fun h => h)⟩
  · refine ((C_Mm_shrunkE g (ad 52) (ad 53) (ad 54) (ad 55) (ad 56) (ad 57) (ad 58) (ad 59) (ad 60) (ad 61) (ad 62) (ad 63) (ad 64) (ad 65) (ad 66) (ad 67) (ad 68) v_m_th (nI t.2.2.2.1) v_m_cl v_m_wa v_m_co_ v_m_fi v_m_bu v_m_ho v_m_lh v_m_mg v_m_wd (t.2.2.2.2 3) (t.2.2.2.2 4) v_m_po v_m_de t.2.1 h hh).at (hI.1.I [52, 53] _ rfl (by decide) (by decide) (List.forall_mem_cons.mpr ⟨w_m, (List.forall_mem_cons.mpr ⟨w_mp, (fun _ h => nomatch h)⟩)⟩))).mono (Nat.le_of_ble_eq_true rfl) (Nat.le_of_ble_eq_true rfl) (fun o w1 hp => ?_)
    obtain ⟨cs1, hp, hi9⟩ := hp
    obtain ⟨e1, e2⟩ := hp
    subst e1; subst e2
    exact ⟨⟨_, rfl⟩, hI.fix (t2 := t) (is := [52, 53]) hi9 rfl ⟨kd_52.mpr ⟨_, _, _, _, _, _, _, _, _, _, _, _, rfl⟩, kd_53.mpr rfl, trivial⟩ (by decide) (by decide) (fun _ _ _ _ h => h) (fun h => h)⟩
set_option maxHeartbeats 4000000 in
theorem Q_Mm_shrunkAnew {g : zG} {ad : Nat → Nat} {t : zTT} {u : zNN} {w : zW} (hI : IV g ad t u w) (h : Int32) : zMB g M_Mm_shrunkAnew [.ref (ad 52), .int h] w (fun o w1 => (∃ v : Int32, o = .inl (some (.int v))) ∧ IV g ad t u w1) 0 0 := by
  obtain ⟨e_m, w_m, k_m⟩ := hI.1.2 52 (by decide)
  obtain ⟨v_m_th, v_m_cl, v_m_wa, v_m_co_, v_m_fi, v_m_bu, v_m_ho, v_m_lh, v_m_mg, v_m_wd, v_m_po, v_m_de, rfl⟩ := kd_52.mp k_m
  obtain ⟨e_mp, w_mp, k_mp⟩ := hI.1.2 53 (by decide)
  obtain rfl := kd_53.mp k_mp
  obtain ⟨e_mf, w_mf, k_mf⟩ := hI.1.2 54 (by decide)
  obtain ⟨v_mf_f, rfl⟩ := kd_54.mp k_mf
  obtain ⟨e_mh, w_mh, k_mh⟩ := hI.1.2 55 (by decide)
  obtain ⟨v_mh_f, rfl⟩ := kd_55.mp k_mh
  obtain ⟨e_mt, w_mt, k_mt⟩ := hI.1.2 57 (by decide)
  obtain ⟨v_mt_f, rfl⟩ := kd_57.mp k_mt
  obtain ⟨e_mz, w_mz, k_mz⟩ := hI.1.2 58 (by decide)
  obtain ⟨v_mz_f, rfl⟩ := kd_58.mp k_mz
  obtain ⟨e_mn, w_mn, k_mn⟩ := hI.1.2 56 (by decide)
  obtain ⟨v_mn_f, rfl⟩ := kd_56.mp k_mn
  obtain ⟨e_mc_, w_mc_, k_mc_⟩ := hI.1.2 59 (by decide)
  obtain ⟨v_mc__f, rfl⟩ := kd_59.mp k_mc_
  obtain ⟨e_mq, w_mq, k_mq⟩ := hI.1.2 60 (by decide)
  obtain ⟨v_mq_h, rfl⟩ := kd_60.mp k_mq
  by_cases hh : 1200 ≤ h ∧ h ≤ 1500
  · refine ((C_Mm_shrunkAnewW g (ad 52) (ad 53) (ad 54) (ad 55) (ad 56) (ad 57) (ad 58) (ad 59) (ad 60) (ad 61) (ad 62) (ad 63) (ad 64) (ad 65) (ad 66) (ad 67) (ad 68) v_m_th (nI t.2.2.2.1) v_m_cl v_m_wa v_m_co_ v_m_fi v_m_bu v_m_ho v_m_lh v_m_mg v_m_wd (t.2.2.2.2 3) (t.2.2.2.2 4) v_m_po v_m_de t.2.1 v_mf_f v_mh_f v_mn_f v_mt_f v_mz_f v_mc__f v_mq_h h hh).at (hI.1.I [52, 53, 54, 55, 57, 58, 56, 59, 60] _ rfl (by decide) (by decide) (List.forall_mem_cons.mpr ⟨w_m, (List.forall_mem_cons.mpr ⟨w_mp, (List.forall_mem_cons.mpr ⟨w_mf, (List.forall_mem_cons.mpr ⟨w_mh, (List.forall_mem_cons.mpr ⟨w_mt, (List.forall_mem_cons.mpr ⟨w_mz, (List.forall_mem_cons.mpr ⟨w_mn, (List.forall_mem_cons.mpr ⟨w_mc_, (List.forall_mem_cons.mpr ⟨w_mq, (fun _ h => nomatch h)⟩)⟩)⟩)⟩)⟩)⟩)⟩)⟩)⟩))).mono (Nat.le_of_ble_eq_true rfl) (Nat.le_of_ble_eq_true rfl) (fun o w1 hp => ?_)
    obtain ⟨cs1, hp, hi9⟩ := hp
    obtain ⟨v9, th9, fl9, he9, nx9, mt9, fz9, ic9, qn9, e1, e2⟩ := hp
    subst e1; subst e2
    exact ⟨⟨_, rfl⟩, hI.fix (t2 := t) (is := [52, 53, 54, 55, 57, 58, 56, 59, 60]) hi9 rfl ⟨kd_52.mpr ⟨_, _, _, _, _, _, _, _, _, _, _, _, rfl⟩, kd_53.mpr rfl, kd_54.mpr ⟨_, rfl⟩, kd_55.mpr ⟨_, rfl⟩, kd_57.mpr ⟨_, rfl⟩, kd_58.mpr ⟨_, rfl⟩, kd_56.mpr ⟨_, rfl⟩, kd_59.mpr ⟨_, rfl⟩, kd_60.mpr ⟨_, rfl⟩, trivial⟩ (by decide) (by decide) (fun _ _ _ _ h => h) (fun h => h)⟩
  · refine ((C_Mm_shrunkAnewE g (ad 52) (ad 53) (ad 54) (ad 55) (ad 56) (ad 57) (ad 58) (ad 59) (ad 60) (ad 61) (ad 62) (ad 63) (ad 64) (ad 65) (ad 66) (ad 67) (ad 68) v_m_th (nI t.2.2.2.1) v_m_cl v_m_wa v_m_co_ v_m_fi v_m_bu v_m_ho v_m_lh v_m_mg v_m_wd (t.2.2.2.2 3) (t.2.2.2.2 4) v_m_po v_m_de t.2.1 h hh).at (hI.1.I [52, 53] _ rfl (by decide) (by decide) (List.forall_mem_cons.mpr ⟨w_m, (List.forall_mem_cons.mpr ⟨w_mp, (fun _ h => nomatch h)⟩)⟩))).mono (Nat.le_of_ble_eq_true rfl) (Nat.le_of_ble_eq_true rfl) (fun o w1 hp => ?_)
    obtain ⟨cs1, hp, hi9⟩ := hp
    obtain ⟨e1, e2⟩ := hp
    subst e1; subst e2
    exact ⟨⟨_, rfl⟩, hI.fix (t2 := t) (is := [52, 53]) hi9 rfl ⟨kd_52.mpr ⟨_, _, _, _, _, _, _, _, _, _, _, _, rfl⟩, kd_53.mpr rfl, trivial⟩ (by decide) (by decide) (fun _ _ _ _ h => h) (fun h => h)⟩
set_option maxHeartbeats 4000000 in
theorem Q_Mm_lastPlace {g : zG} {ad : Nat → Nat} {t : zTT} {u : zNN} {w : zW} (hI : IV g ad t u w) (h : Int32) : zMB g M_Mm_lastPlace [.ref (ad 52), .int h] w (fun o w1 => (∃ v : Int32, o = .inl (some (.int v))) ∧ IV g ad t u w1) 0 0 := by
  obtain ⟨e_m, w_m, k_m⟩ := hI.1.2 52 (by decide)
  obtain ⟨v_m_th, v_m_cl, v_m_wa, v_m_co_, v_m_fi, v_m_bu, v_m_ho, v_m_lh, v_m_mg, v_m_wd, v_m_po, v_m_de, rfl⟩ := kd_52.mp k_m
  obtain ⟨e_mp, w_mp, k_mp⟩ := hI.1.2 53 (by decide)
  obtain rfl := kd_53.mp k_mp
  obtain ⟨e_mf, w_mf, k_mf⟩ := hI.1.2 54 (by decide)
  obtain ⟨v_mf_f, rfl⟩ := kd_54.mp k_mf
  obtain ⟨e_mh, w_mh, k_mh⟩ := hI.1.2 55 (by decide)
  obtain ⟨v_mh_f, rfl⟩ := kd_55.mp k_mh
  obtain ⟨e_mt, w_mt, k_mt⟩ := hI.1.2 57 (by decide)
  obtain ⟨v_mt_f, rfl⟩ := kd_57.mp k_mt
  obtain ⟨e_mz, w_mz, k_mz⟩ := hI.1.2 58 (by decide)
  obtain ⟨v_mz_f, rfl⟩ := kd_58.mp k_mz
  obtain ⟨e_mn, w_mn, k_mn⟩ := hI.1.2 56 (by decide)
  obtain ⟨v_mn_f, rfl⟩ := kd_56.mp k_mn
  obtain ⟨e_mc_, w_mc_, k_mc_⟩ := hI.1.2 59 (by decide)
  obtain ⟨v_mc__f, rfl⟩ := kd_59.mp k_mc_
  obtain ⟨e_mq, w_mq, k_mq⟩ := hI.1.2 60 (by decide)
  obtain ⟨v_mq_h, rfl⟩ := kd_60.mp k_mq
  by_cases hh : 1200 ≤ h ∧ h ≤ 1500
  · refine ((C_Mm_lastPlaceW g (ad 52) (ad 53) (ad 54) (ad 55) (ad 56) (ad 57) (ad 58) (ad 59) (ad 60) (ad 61) (ad 62) (ad 63) (ad 64) (ad 65) (ad 66) (ad 67) (ad 68) v_m_th (nI t.2.2.2.1) v_m_cl v_m_wa v_m_co_ v_m_fi v_m_bu v_m_ho v_m_lh v_m_mg v_m_wd (t.2.2.2.2 3) (t.2.2.2.2 4) v_m_po v_m_de t.2.1 v_mf_f v_mh_f v_mn_f v_mt_f v_mz_f v_mc__f v_mq_h h hh).at (hI.1.I [52, 53, 54, 55, 57, 58, 56, 59, 60] _ rfl (by decide) (by decide) (List.forall_mem_cons.mpr ⟨w_m, (List.forall_mem_cons.mpr ⟨w_mp, (List.forall_mem_cons.mpr ⟨w_mf, (List.forall_mem_cons.mpr ⟨w_mh, (List.forall_mem_cons.mpr ⟨w_mt, (List.forall_mem_cons.mpr ⟨w_mz, (List.forall_mem_cons.mpr ⟨w_mn, (List.forall_mem_cons.mpr ⟨w_mc_, (List.forall_mem_cons.mpr ⟨w_mq, (fun _ h => nomatch h)⟩)⟩)⟩)⟩)⟩)⟩)⟩)⟩)⟩))).mono (Nat.le_of_ble_eq_true rfl) (Nat.le_of_ble_eq_true rfl) (fun o w1 hp => ?_)
    obtain ⟨cs1, hp, hi9⟩ := hp
    obtain ⟨v9, th9, fl9, he9, nx9, mt9, fz9, ic9, qn9, e1, e2⟩ := hp
    subst e1; subst e2
    exact ⟨⟨_, rfl⟩, hI.fix (t2 := t) (is := [52, 53, 54, 55, 57, 58, 56, 59, 60]) hi9 rfl ⟨kd_52.mpr ⟨_, _, _, _, _, _, _, _, _, _, _, _, rfl⟩, kd_53.mpr rfl, kd_54.mpr ⟨_, rfl⟩, kd_55.mpr ⟨_, rfl⟩, kd_57.mpr ⟨_, rfl⟩, kd_58.mpr ⟨_, rfl⟩, kd_56.mpr ⟨_, rfl⟩, kd_59.mpr ⟨_, rfl⟩, kd_60.mpr ⟨_, rfl⟩, trivial⟩ (by decide) (by decide) (fun _ _ _ _ h => h) (fun h => h)⟩
  · refine ((C_Mm_lastPlaceE g (ad 52) (ad 53) (ad 54) (ad 55) (ad 56) (ad 57) (ad 58) (ad 59) (ad 60) (ad 61) (ad 62) (ad 63) (ad 64) (ad 65) (ad 66) (ad 67) (ad 68) v_m_th (nI t.2.2.2.1) v_m_cl v_m_wa v_m_co_ v_m_fi v_m_bu v_m_ho v_m_lh v_m_mg v_m_wd (t.2.2.2.2 3) (t.2.2.2.2 4) v_m_po v_m_de t.2.1 h hh).at (hI.1.I [52, 53] _ rfl (by decide) (by decide) (List.forall_mem_cons.mpr ⟨w_m, (List.forall_mem_cons.mpr ⟨w_mp, (fun _ h => nomatch h)⟩)⟩))).mono (Nat.le_of_ble_eq_true rfl) (Nat.le_of_ble_eq_true rfl) (fun o w1 hp => ?_)
    obtain ⟨cs1, hp, hi9⟩ := hp
    obtain ⟨e1, e2⟩ := hp
    subst e1; subst e2
    exact ⟨⟨_, rfl⟩, hI.fix (t2 := t) (is := [52, 53]) hi9 rfl ⟨kd_52.mpr ⟨_, _, _, _, _, _, _, _, _, _, _, _, rfl⟩, kd_53.mpr rfl, trivial⟩ (by decide) (by decide) (fun _ _ _ _ h => h) (fun h => h)⟩
set_option maxHeartbeats 4000000 in
theorem Q_Mm_bestFeeder {g : zG} {ad : Nat → Nat} {t : zTT} {u : zNN} {w : zW} (hI : IV g ad t u w) (h : Int32) : zMB g M_Mm_bestFeeder [.ref (ad 52), .int h] w (fun o w1 => (∃ v : Int32, o = .inl (some (.int v))) ∧ IV g ad t u w1) 0 0 := by
  obtain ⟨e_m, w_m, k_m⟩ := hI.1.2 52 (by decide)
  obtain ⟨v_m_th, v_m_cl, v_m_wa, v_m_co_, v_m_fi, v_m_bu, v_m_ho, v_m_lh, v_m_mg, v_m_wd, v_m_po, v_m_de, rfl⟩ := kd_52.mp k_m
  obtain ⟨e_mp, w_mp, k_mp⟩ := hI.1.2 53 (by decide)
  obtain rfl := kd_53.mp k_mp
  obtain ⟨e_mf, w_mf, k_mf⟩ := hI.1.2 54 (by decide)
  obtain ⟨v_mf_f, rfl⟩ := kd_54.mp k_mf
  obtain ⟨e_mh, w_mh, k_mh⟩ := hI.1.2 55 (by decide)
  obtain ⟨v_mh_f, rfl⟩ := kd_55.mp k_mh
  obtain ⟨e_mt, w_mt, k_mt⟩ := hI.1.2 57 (by decide)
  obtain ⟨v_mt_f, rfl⟩ := kd_57.mp k_mt
  obtain ⟨e_mz, w_mz, k_mz⟩ := hI.1.2 58 (by decide)
  obtain ⟨v_mz_f, rfl⟩ := kd_58.mp k_mz
  obtain ⟨e_mn, w_mn, k_mn⟩ := hI.1.2 56 (by decide)
  obtain ⟨v_mn_f, rfl⟩ := kd_56.mp k_mn
  obtain ⟨e_mc_, w_mc_, k_mc_⟩ := hI.1.2 59 (by decide)
  obtain ⟨v_mc__f, rfl⟩ := kd_59.mp k_mc_
  obtain ⟨e_mq, w_mq, k_mq⟩ := hI.1.2 60 (by decide)
  obtain ⟨v_mq_h, rfl⟩ := kd_60.mp k_mq
  by_cases hh : 1200 ≤ h ∧ h ≤ 1500
  · refine ((C_Mm_bestFeederW g (ad 52) (ad 53) (ad 54) (ad 55) (ad 56) (ad 57) (ad 58) (ad 59) (ad 60) (ad 61) (ad 62) (ad 63) (ad 64) (ad 65) (ad 66) (ad 67) (ad 68) v_m_th (nI t.2.2.2.1) v_m_cl v_m_wa v_m_co_ v_m_fi v_m_bu v_m_ho v_m_lh v_m_mg v_m_wd (t.2.2.2.2 3) (t.2.2.2.2 4) v_m_po v_m_de t.2.1 v_mf_f v_mh_f v_mn_f v_mt_f v_mz_f v_mc__f v_mq_h h hh).at (hI.1.I [52, 53, 54, 55, 57, 58, 56, 59, 60] _ rfl (by decide) (by decide) (List.forall_mem_cons.mpr ⟨w_m, (List.forall_mem_cons.mpr ⟨w_mp, (List.forall_mem_cons.mpr ⟨w_mf, (List.forall_mem_cons.mpr ⟨w_mh, (List.forall_mem_cons.mpr ⟨w_mt, (List.forall_mem_cons.mpr ⟨w_mz, (List.forall_mem_cons.mpr ⟨w_mn, (List.forall_mem_cons.mpr ⟨w_mc_, (List.forall_mem_cons.mpr ⟨w_mq, (fun _ h => nomatch h)⟩)⟩)⟩)⟩)⟩)⟩)⟩)⟩)⟩))).mono (Nat.le_of_ble_eq_true rfl) (Nat.le_of_ble_eq_true rfl) (fun o w1 hp => ?_)
    obtain ⟨cs1, hp, hi9⟩ := hp
    obtain ⟨v9, th9, fl9, he9, nx9, mt9, fz9, ic9, qn9, e1, e2⟩ := hp
    subst e1; subst e2
    exact ⟨⟨_, rfl⟩, hI.fix (t2 := t) (is := [52, 53, 54, 55, 57, 58, 56, 59, 60]) hi9 rfl ⟨kd_52.mpr ⟨_, _, _, _, _, _, _, _, _, _, _, _, rfl⟩, kd_53.mpr rfl, kd_54.mpr ⟨_, rfl⟩, kd_55.mpr ⟨_, rfl⟩, kd_57.mpr ⟨_, rfl⟩, kd_58.mpr ⟨_, rfl⟩, kd_56.mpr ⟨_, rfl⟩, kd_59.mpr ⟨_, rfl⟩, kd_60.mpr ⟨_, rfl⟩, trivial⟩ (by decide) (by decide) (fun _ _ _ _ h => h) (fun h => h)⟩
  · refine ((C_Mm_bestFeederE g (ad 52) (ad 53) (ad 54) (ad 55) (ad 56) (ad 57) (ad 58) (ad 59) (ad 60) (ad 61) (ad 62) (ad 63) (ad 64) (ad 65) (ad 66) (ad 67) (ad 68) v_m_th (nI t.2.2.2.1) v_m_cl v_m_wa v_m_co_ v_m_fi v_m_bu v_m_ho v_m_lh v_m_mg v_m_wd (t.2.2.2.2 3) (t.2.2.2.2 4) v_m_po v_m_de t.2.1 h hh).at (hI.1.I [52, 53] _ rfl (by decide) (by decide) (List.forall_mem_cons.mpr ⟨w_m, (List.forall_mem_cons.mpr ⟨w_mp, (fun _ h => nomatch h)⟩)⟩))).mono (Nat.le_of_ble_eq_true rfl) (Nat.le_of_ble_eq_true rfl) (fun o w1 hp => ?_)
    obtain ⟨cs1, hp, hi9⟩ := hp
    obtain ⟨e1, e2⟩ := hp
    subst e1; subst e2
    exact ⟨⟨_, rfl⟩, hI.fix (t2 := t) (is := [52, 53]) hi9 rfl ⟨kd_52.mpr ⟨_, _, _, _, _, _, _, _, _, _, _, _, rfl⟩, kd_53.mpr rfl, trivial⟩ (by decide) (by decide) (fun _ _ _ _ h => h) (fun h => h)⟩
set_option maxHeartbeats 4000000 in
theorem Q_Mm_mill {g : zG} {ad : Nat → Nat} {t : zTT} {u : zNN} {w : zW} (hI : IV g ad t u w) (m1 m2 m3 m4 : Int32) : zMB g M_Mm_mill [.ref (ad 52), .int m1, .int m2, .int m3, .int m4] w (fun o w1 => (∃ v : Int32, o = .inl (some (.int v))) ∧ IV g ad t u w1) 0 0 := by
  obtain ⟨e_m, w_m, k_m⟩ := hI.1.2 52 (by decide)
  obtain ⟨v_m_th, v_m_cl, v_m_wa, v_m_co_, v_m_fi, v_m_bu, v_m_ho, v_m_lh, v_m_mg, v_m_wd, v_m_po, v_m_de, rfl⟩ := kd_52.mp k_m
  by_cases hw : ((0 ≤ m1 ∧ m1 ≤ 20) ∧ (0 ≤ m2 ∧ m2 ≤ 20) ∧ (0 ≤ m3 ∧ m3 ≤ 20) ∧ (0 ≤ m4 ∧ m4 ≤ 50))
  · refine ((C_Mm_millN g (ad 52) (ad 53) (ad 54) (ad 55) (ad 56) (ad 57) (ad 58) (ad 59) (ad 60) (ad 61) (ad 62) (ad 63) (ad 64) (ad 65) (ad 66) (ad 67) (ad 68) v_m_th (nI t.2.2.2.1) v_m_cl v_m_wa v_m_co_ v_m_fi v_m_bu v_m_ho v_m_lh v_m_mg v_m_wd (t.2.2.2.2 3) (t.2.2.2.2 4) v_m_po v_m_de m1 m2 m3 m4 hw).at (hI.1.I [52] _ rfl (by decide) (by decide) (List.forall_mem_cons.mpr ⟨w_m, (fun _ h => nomatch h)⟩))).mono (Nat.le_of_ble_eq_true rfl) (Nat.le_of_ble_eq_true rfl) (fun o w1 hp => ?_)
    obtain ⟨cs1, hp, hi9⟩ := hp
    obtain ⟨e1, e2⟩ := hp
    subst e1; subst e2
    exact ⟨⟨_, rfl⟩, hI.fix (t2 := t) (is := [52]) hi9 rfl ⟨kd_52.mpr ⟨_, _, _, _, _, _, _, _, _, _, _, _, rfl⟩, trivial⟩ (by decide) (by decide) (fun _ _ _ _ h => h) (fun h => h)⟩
  · refine ((C_Mm_millE g (ad 52) (ad 53) (ad 54) (ad 55) (ad 56) (ad 57) (ad 58) (ad 59) (ad 60) (ad 61) (ad 62) (ad 63) (ad 64) (ad 65) (ad 66) (ad 67) (ad 68) v_m_th (nI t.2.2.2.1) v_m_cl v_m_wa v_m_co_ v_m_fi v_m_bu v_m_ho v_m_lh v_m_mg v_m_wd (t.2.2.2.2 3) (t.2.2.2.2 4) v_m_po v_m_de m1 m2 m3 m4 hw).at (hI.1.I [52] _ rfl (by decide) (by decide) (List.forall_mem_cons.mpr ⟨w_m, (fun _ h => nomatch h)⟩))).mono (Nat.le_of_ble_eq_true rfl) (Nat.le_of_ble_eq_true rfl) (fun o w1 hp => ?_)
    obtain ⟨cs1, hp, hi9⟩ := hp
    obtain ⟨e1, e2⟩ := hp
    subst e1; subst e2
    exact ⟨⟨_, rfl⟩, hI.fix (t2 := t) (is := [52]) hi9 rfl ⟨kd_52.mpr ⟨_, _, _, _, _, _, _, _, _, _, _, _, rfl⟩, trivial⟩ (by decide) (by decide) (fun _ _ _ _ h => h) (fun h => h)⟩
set_option maxHeartbeats 4000000 in
theorem Q_Mm_sand {g : zG} {ad : Nat → Nat} {t : zTT} {u : zNN} {w : zW} (hI : IV g ad t u w) (w9 : Int32) : zMB g M_Mm_sand [.ref (ad 52), .int w9] w (fun o w1 => (∃ v : Int32, o = .inl (some (.int v))) ∧ IV g ad t u w1) 0 0 := by
  obtain ⟨e_m, w_m, k_m⟩ := hI.1.2 52 (by decide)
  obtain ⟨v_m_th, v_m_cl, v_m_wa, v_m_co_, v_m_fi, v_m_bu, v_m_ho, v_m_lh, v_m_mg, v_m_wd, v_m_po, v_m_de, rfl⟩ := kd_52.mp k_m
  by_cases hn : (w9 = 99 ∨ w9 = 119 ∨ w9 = 107 ∨ w9 = 102 ∨ w9 = 98 ∨ w9 = 115 ∨ w9 = 100)
  · rcases hn with rfl | rfl | rfl | rfl | rfl | rfl | rfl
    · refine ((C_Mm_sand99 g (ad 52) (ad 53) (ad 54) (ad 55) (ad 56) (ad 57) (ad 58) (ad 59) (ad 60) (ad 61) (ad 62) (ad 63) (ad 64) (ad 65) (ad 66) (ad 67) (ad 68) v_m_th (nI t.2.2.2.1) v_m_cl v_m_wa v_m_co_ v_m_fi v_m_bu v_m_ho v_m_lh v_m_mg v_m_wd (t.2.2.2.2 3) (t.2.2.2.2 4) v_m_po v_m_de).at (hI.1.I [52] _ rfl (by decide) (by decide) (List.forall_mem_cons.mpr ⟨w_m, (fun _ h => nomatch h)⟩))).mono (Nat.le_of_ble_eq_true rfl) (Nat.le_of_ble_eq_true rfl) (fun o w1 hp => ?_)
      obtain ⟨cs1, hp, hi9⟩ := hp
      obtain ⟨e1, e2⟩ := hp
      subst e1; subst e2
      exact ⟨⟨_, rfl⟩, hI.fix (t2 := t) (is := [52]) hi9 rfl ⟨kd_52.mpr ⟨_, _, _, _, _, _, _, _, _, _, _, _, rfl⟩, trivial⟩ (by decide) (by decide) (fun _ _ _ _ h => h) (fun h => h)⟩
    · refine ((C_Mm_sand119 g (ad 52) (ad 53) (ad 54) (ad 55) (ad 56) (ad 57) (ad 58) (ad 59) (ad 60) (ad 61) (ad 62) (ad 63) (ad 64) (ad 65) (ad 66) (ad 67) (ad 68) v_m_th (nI t.2.2.2.1) v_m_cl v_m_wa v_m_co_ v_m_fi v_m_bu v_m_ho v_m_lh v_m_mg v_m_wd (t.2.2.2.2 3) (t.2.2.2.2 4) v_m_po v_m_de).at (hI.1.I [52] _ rfl (by decide) (by decide) (List.forall_mem_cons.mpr ⟨w_m, (fun _ h => nomatch h)⟩))).mono (Nat.le_of_ble_eq_true rfl) (Nat.le_of_ble_eq_true rfl) (fun o w1 hp => ?_)
      obtain ⟨cs1, hp, hi9⟩ := hp
      obtain ⟨e1, e2⟩ := hp
      subst e1; subst e2
      exact ⟨⟨_, rfl⟩, hI.fix (t2 := t) (is := [52]) hi9 rfl ⟨kd_52.mpr ⟨_, _, _, _, _, _, _, _, _, _, _, _, rfl⟩, trivial⟩ (by decide) (by decide) (fun _ _ _ _ h => h) (fun h => h)⟩
    · refine ((C_Mm_sand107 g (ad 52) (ad 53) (ad 54) (ad 55) (ad 56) (ad 57) (ad 58) (ad 59) (ad 60) (ad 61) (ad 62) (ad 63) (ad 64) (ad 65) (ad 66) (ad 67) (ad 68) v_m_th (nI t.2.2.2.1) v_m_cl v_m_wa v_m_co_ v_m_fi v_m_bu v_m_ho v_m_lh v_m_mg v_m_wd (t.2.2.2.2 3) (t.2.2.2.2 4) v_m_po v_m_de).at (hI.1.I [52] _ rfl (by decide) (by decide) (List.forall_mem_cons.mpr ⟨w_m, (fun _ h => nomatch h)⟩))).mono (Nat.le_of_ble_eq_true rfl) (Nat.le_of_ble_eq_true rfl) (fun o w1 hp => ?_)
      obtain ⟨cs1, hp, hi9⟩ := hp
      obtain ⟨e1, e2⟩ := hp
      subst e1; subst e2
      exact ⟨⟨_, rfl⟩, hI.fix (t2 := t) (is := [52]) hi9 rfl ⟨kd_52.mpr ⟨_, _, _, _, _, _, _, _, _, _, _, _, rfl⟩, trivial⟩ (by decide) (by decide) (fun _ _ _ _ h => h) (fun h => h)⟩
    · refine ((C_Mm_sand102 g (ad 52) (ad 53) (ad 54) (ad 55) (ad 56) (ad 57) (ad 58) (ad 59) (ad 60) (ad 61) (ad 62) (ad 63) (ad 64) (ad 65) (ad 66) (ad 67) (ad 68) v_m_th (nI t.2.2.2.1) v_m_cl v_m_wa v_m_co_ v_m_fi v_m_bu v_m_ho v_m_lh v_m_mg v_m_wd (t.2.2.2.2 3) (t.2.2.2.2 4) v_m_po v_m_de).at (hI.1.I [52] _ rfl (by decide) (by decide) (List.forall_mem_cons.mpr ⟨w_m, (fun _ h => nomatch h)⟩))).mono (Nat.le_of_ble_eq_true rfl) (Nat.le_of_ble_eq_true rfl) (fun o w1 hp => ?_)
      obtain ⟨cs1, hp, hi9⟩ := hp
      obtain ⟨e1, e2⟩ := hp
      subst e1; subst e2
      exact ⟨⟨_, rfl⟩, hI.fix (t2 := t) (is := [52]) hi9 rfl ⟨kd_52.mpr ⟨_, _, _, _, _, _, _, _, _, _, _, _, rfl⟩, trivial⟩ (by decide) (by decide) (fun _ _ _ _ h => h) (fun h => h)⟩
    · refine ((C_Mm_sand98 g (ad 52) (ad 53) (ad 54) (ad 55) (ad 56) (ad 57) (ad 58) (ad 59) (ad 60) (ad 61) (ad 62) (ad 63) (ad 64) (ad 65) (ad 66) (ad 67) (ad 68) v_m_th (nI t.2.2.2.1) v_m_cl v_m_wa v_m_co_ v_m_fi v_m_bu v_m_ho v_m_lh v_m_mg v_m_wd (t.2.2.2.2 3) (t.2.2.2.2 4) v_m_po v_m_de).at (hI.1.I [52] _ rfl (by decide) (by decide) (List.forall_mem_cons.mpr ⟨w_m, (fun _ h => nomatch h)⟩))).mono (Nat.le_of_ble_eq_true rfl) (Nat.le_of_ble_eq_true rfl) (fun o w1 hp => ?_)
      obtain ⟨cs1, hp, hi9⟩ := hp
      obtain ⟨e1, e2⟩ := hp
      subst e1; subst e2
      exact ⟨⟨_, rfl⟩, hI.fix (t2 := t) (is := [52]) hi9 rfl ⟨kd_52.mpr ⟨_, _, _, _, _, _, _, _, _, _, _, _, rfl⟩, trivial⟩ (by decide) (by decide) (fun _ _ _ _ h => h) (fun h => h)⟩
    · refine ((C_Mm_sand115 g (ad 52) (ad 53) (ad 54) (ad 55) (ad 56) (ad 57) (ad 58) (ad 59) (ad 60) (ad 61) (ad 62) (ad 63) (ad 64) (ad 65) (ad 66) (ad 67) (ad 68) v_m_th (nI t.2.2.2.1) v_m_cl v_m_wa v_m_co_ v_m_fi v_m_bu v_m_ho v_m_lh v_m_mg v_m_wd (t.2.2.2.2 3) (t.2.2.2.2 4) v_m_po v_m_de).at (hI.1.I [52] _ rfl (by decide) (by decide) (List.forall_mem_cons.mpr ⟨w_m, (fun _ h => nomatch h)⟩))).mono (Nat.le_of_ble_eq_true rfl) (Nat.le_of_ble_eq_true rfl) (fun o w1 hp => ?_)
      obtain ⟨cs1, hp, hi9⟩ := hp
      obtain ⟨e1, e2⟩ := hp
      subst e1; subst e2
      exact ⟨⟨_, rfl⟩, hI.fix (t2 := t) (is := [52]) hi9 rfl ⟨kd_52.mpr ⟨_, _, _, _, _, _, _, _, _, _, _, _, rfl⟩, trivial⟩ (by decide) (by decide) (fun _ _ _ _ h => h) (fun h => h)⟩
    · refine ((C_Mm_sand100 g (ad 52) (ad 53) (ad 54) (ad 55) (ad 56) (ad 57) (ad 58) (ad 59) (ad 60) (ad 61) (ad 62) (ad 63) (ad 64) (ad 65) (ad 66) (ad 67) (ad 68) v_m_th (nI t.2.2.2.1) v_m_cl v_m_wa v_m_co_ v_m_fi v_m_bu v_m_ho v_m_lh v_m_mg v_m_wd (t.2.2.2.2 3) (t.2.2.2.2 4) v_m_po v_m_de).at (hI.1.I [52] _ rfl (by decide) (by decide) (List.forall_mem_cons.mpr ⟨w_m, (fun _ h => nomatch h)⟩))).mono (Nat.le_of_ble_eq_true rfl) (Nat.le_of_ble_eq_true rfl) (fun o w1 hp => ?_)
      obtain ⟨cs1, hp, hi9⟩ := hp
      obtain ⟨e1, e2⟩ := hp
      subst e1; subst e2
      exact ⟨⟨_, rfl⟩, hI.fix (t2 := t) (is := [52]) hi9 rfl ⟨kd_52.mpr ⟨_, _, _, _, _, _, _, _, _, _, _, _, rfl⟩, trivial⟩ (by decide) (by decide) (fun _ _ _ _ h => h) (fun h => h)⟩
  · refine ((C_Mm_sandE g (ad 52) (ad 53) (ad 54) (ad 55) (ad 56) (ad 57) (ad 58) (ad 59) (ad 60) (ad 61) (ad 62) (ad 63) (ad 64) (ad 65) (ad 66) (ad 67) (ad 68) v_m_th (nI t.2.2.2.1) v_m_cl v_m_wa v_m_co_ v_m_fi v_m_bu v_m_ho v_m_lh v_m_mg v_m_wd (t.2.2.2.2 3) (t.2.2.2.2 4) v_m_po v_m_de w9 (z_ix5 hn)).at (hI.1.I [52] _ rfl (by decide) (by decide) (List.forall_mem_cons.mpr ⟨w_m, (fun _ h => nomatch h)⟩))).mono (Nat.le_of_ble_eq_true rfl) (Nat.le_of_ble_eq_true rfl) (fun o w1 hp => ?_)
    obtain ⟨cs1, hp, hi9⟩ := hp
    obtain ⟨e1, e2⟩ := hp
    subst e1; subst e2
    exact ⟨⟨_, rfl⟩, hI.fix (t2 := t) (is := [52]) hi9 rfl ⟨kd_52.mpr ⟨_, _, _, _, _, _, _, _, _, _, _, _, rfl⟩, trivial⟩ (by decide) (by decide) (fun _ _ _ _ h => h) (fun h => h)⟩
set_option maxHeartbeats 4000000 in
theorem Q_Mm_charge {g : zG} {ad : Nat → Nat} {t : zTT} {u : zNN} {w : zW} (hI : IV g ad t u w) (k m9 : Int32) : zMB g M_Mm_charge [.ref (ad 52), .int k, .int m9] w (fun o w1 => (∃ v : Int32, o = .inl (some (.int v))) ∧ IV g ad t u w1) 0 0 := by
  obtain ⟨e_m, w_m, k_m⟩ := hI.1.2 52 (by decide)
  obtain ⟨v_m_th, v_m_cl, v_m_wa, v_m_co_, v_m_fi, v_m_bu, v_m_ho, v_m_lh, v_m_mg, v_m_wd, v_m_po, v_m_de, rfl⟩ := kd_52.mp k_m
  obtain ⟨e_mi, w_mi, k_mi⟩ := hI.1.2 63 (by decide)
  obtain ⟨v_mi_f, rfl⟩ := kd_63.mp k_mi
  obtain ⟨e_mr, w_mr, k_mr⟩ := hI.1.2 64 (by decide)
  obtain ⟨v_mr_f, rfl⟩ := kd_64.mp k_mr
  by_cases hw : 0 ≤ z_ix 1 k ∧ (1 ≤ m9 ∧ m9 ≤ 1000)
  · rcases z_ix1 hw.1 with rfl | rfl | rfl | rfl | rfl | rfl
    · refine ((C_Mm_charge112W g (ad 52) (ad 53) (ad 54) (ad 55) (ad 56) (ad 57) (ad 58) (ad 59) (ad 60) (ad 61) (ad 62) (ad 63) (ad 64) (ad 65) (ad 66) (ad 67) (ad 68) v_m_th (nI t.2.2.2.1) v_m_cl v_m_wa v_m_co_ v_m_fi v_m_bu v_m_ho v_m_lh v_m_mg v_m_wd (t.2.2.2.2 3) (t.2.2.2.2 4) v_m_po v_m_de v_mi_f v_mr_f m9 hw.2).at (hI.1.I [52, 63, 64] _ rfl (by decide) (by decide) (List.forall_mem_cons.mpr ⟨w_m, (List.forall_mem_cons.mpr ⟨w_mi, (List.forall_mem_cons.mpr ⟨w_mr, (fun _ h => nomatch h)⟩)⟩)⟩))).mono (Nat.le_of_ble_eq_true rfl) (Nat.le_of_ble_eq_true rfl) (fun o w1 hp => ?_)
      obtain ⟨cs1, hp, hi9⟩ := hp
      obtain ⟨v9, th9, lh9, mg9, wd9, ir9, gr9, e1, e2⟩ := hp
      subst e1; subst e2
      exact ⟨⟨_, rfl⟩, hI.fix (t2 := t) (is := [52, 63, 64]) hi9 rfl ⟨kd_52.mpr ⟨_, _, _, _, _, _, _, _, _, _, _, _, rfl⟩, kd_63.mpr ⟨_, rfl⟩, kd_64.mpr ⟨_, rfl⟩, trivial⟩ (by decide) (by decide) (fun _ _ _ _ h => h) (fun h => h)⟩
    · refine ((C_Mm_charge115W g (ad 52) (ad 53) (ad 54) (ad 55) (ad 56) (ad 57) (ad 58) (ad 59) (ad 60) (ad 61) (ad 62) (ad 63) (ad 64) (ad 65) (ad 66) (ad 67) (ad 68) v_m_th (nI t.2.2.2.1) v_m_cl v_m_wa v_m_co_ v_m_fi v_m_bu v_m_ho v_m_lh v_m_mg v_m_wd (t.2.2.2.2 3) (t.2.2.2.2 4) v_m_po v_m_de v_mi_f v_mr_f m9 hw.2).at (hI.1.I [52, 63, 64] _ rfl (by decide) (by decide) (List.forall_mem_cons.mpr ⟨w_m, (List.forall_mem_cons.mpr ⟨w_mi, (List.forall_mem_cons.mpr ⟨w_mr, (fun _ h => nomatch h)⟩)⟩)⟩))).mono (Nat.le_of_ble_eq_true rfl) (Nat.le_of_ble_eq_true rfl) (fun o w1 hp => ?_)
      obtain ⟨cs1, hp, hi9⟩ := hp
      obtain ⟨v9, th9, lh9, mg9, wd9, ir9, gr9, e1, e2⟩ := hp
      subst e1; subst e2
      exact ⟨⟨_, rfl⟩, hI.fix (t2 := t) (is := [52, 63, 64]) hi9 rfl ⟨kd_52.mpr ⟨_, _, _, _, _, _, _, _, _, _, _, _, rfl⟩, kd_63.mpr ⟨_, rfl⟩, kd_64.mpr ⟨_, rfl⟩, trivial⟩ (by decide) (by decide) (fun _ _ _ _ h => h) (fun h => h)⟩
    · refine ((C_Mm_charge102W g (ad 52) (ad 53) (ad 54) (ad 55) (ad 56) (ad 57) (ad 58) (ad 59) (ad 60) (ad 61) (ad 62) (ad 63) (ad 64) (ad 65) (ad 66) (ad 67) (ad 68) v_m_th (nI t.2.2.2.1) v_m_cl v_m_wa v_m_co_ v_m_fi v_m_bu v_m_ho v_m_lh v_m_mg v_m_wd (t.2.2.2.2 3) (t.2.2.2.2 4) v_m_po v_m_de v_mi_f v_mr_f m9 hw.2).at (hI.1.I [52, 63, 64] _ rfl (by decide) (by decide) (List.forall_mem_cons.mpr ⟨w_m, (List.forall_mem_cons.mpr ⟨w_mi, (List.forall_mem_cons.mpr ⟨w_mr, (fun _ h => nomatch h)⟩)⟩)⟩))).mono (Nat.le_of_ble_eq_true rfl) (Nat.le_of_ble_eq_true rfl) (fun o w1 hp => ?_)
      obtain ⟨cs1, hp, hi9⟩ := hp
      obtain ⟨v9, th9, lh9, mg9, wd9, ir9, gr9, e1, e2⟩ := hp
      subst e1; subst e2
      exact ⟨⟨_, rfl⟩, hI.fix (t2 := t) (is := [52, 63, 64]) hi9 rfl ⟨kd_52.mpr ⟨_, _, _, _, _, _, _, _, _, _, _, _, rfl⟩, kd_63.mpr ⟨_, rfl⟩, kd_64.mpr ⟨_, rfl⟩, trivial⟩ (by decide) (by decide) (fun _ _ _ _ h => h) (fun h => h)⟩
    · refine ((C_Mm_charge107W g (ad 52) (ad 53) (ad 54) (ad 55) (ad 56) (ad 57) (ad 58) (ad 59) (ad 60) (ad 61) (ad 62) (ad 63) (ad 64) (ad 65) (ad 66) (ad 67) (ad 68) v_m_th (nI t.2.2.2.1) v_m_cl v_m_wa v_m_co_ v_m_fi v_m_bu v_m_ho v_m_lh v_m_mg v_m_wd (t.2.2.2.2 3) (t.2.2.2.2 4) v_m_po v_m_de v_mi_f v_mr_f m9 hw.2).at (hI.1.I [52, 63, 64] _ rfl (by decide) (by decide) (List.forall_mem_cons.mpr ⟨w_m, (List.forall_mem_cons.mpr ⟨w_mi, (List.forall_mem_cons.mpr ⟨w_mr, (fun _ h => nomatch h)⟩)⟩)⟩))).mono (Nat.le_of_ble_eq_true rfl) (Nat.le_of_ble_eq_true rfl) (fun o w1 hp => ?_)
      obtain ⟨cs1, hp, hi9⟩ := hp
      obtain ⟨v9, th9, lh9, mg9, wd9, ir9, gr9, e1, e2⟩ := hp
      subst e1; subst e2
      exact ⟨⟨_, rfl⟩, hI.fix (t2 := t) (is := [52, 63, 64]) hi9 rfl ⟨kd_52.mpr ⟨_, _, _, _, _, _, _, _, _, _, _, _, rfl⟩, kd_63.mpr ⟨_, rfl⟩, kd_64.mpr ⟨_, rfl⟩, trivial⟩ (by decide) (by decide) (fun _ _ _ _ h => h) (fun h => h)⟩
    · refine ((C_Mm_charge103W g (ad 52) (ad 53) (ad 54) (ad 55) (ad 56) (ad 57) (ad 58) (ad 59) (ad 60) (ad 61) (ad 62) (ad 63) (ad 64) (ad 65) (ad 66) (ad 67) (ad 68) v_m_th (nI t.2.2.2.1) v_m_cl v_m_wa v_m_co_ v_m_fi v_m_bu v_m_ho v_m_lh v_m_mg v_m_wd (t.2.2.2.2 3) (t.2.2.2.2 4) v_m_po v_m_de v_mi_f v_mr_f m9 hw.2).at (hI.1.I [52, 63, 64] _ rfl (by decide) (by decide) (List.forall_mem_cons.mpr ⟨w_m, (List.forall_mem_cons.mpr ⟨w_mi, (List.forall_mem_cons.mpr ⟨w_mr, (fun _ h => nomatch h)⟩)⟩)⟩))).mono (Nat.le_of_ble_eq_true rfl) (Nat.le_of_ble_eq_true rfl) (fun o w1 hp => ?_)
      obtain ⟨cs1, hp, hi9⟩ := hp
      obtain ⟨v9, th9, lh9, mg9, wd9, ir9, gr9, e1, e2⟩ := hp
      subst e1; subst e2
      exact ⟨⟨_, rfl⟩, hI.fix (t2 := t) (is := [52, 63, 64]) hi9 rfl ⟨kd_52.mpr ⟨_, _, _, _, _, _, _, _, _, _, _, _, rfl⟩, kd_63.mpr ⟨_, rfl⟩, kd_64.mpr ⟨_, rfl⟩, trivial⟩ (by decide) (by decide) (fun _ _ _ _ h => h) (fun h => h)⟩
    · refine ((C_Mm_charge100W g (ad 52) (ad 53) (ad 54) (ad 55) (ad 56) (ad 57) (ad 58) (ad 59) (ad 60) (ad 61) (ad 62) (ad 63) (ad 64) (ad 65) (ad 66) (ad 67) (ad 68) v_m_th (nI t.2.2.2.1) v_m_cl v_m_wa v_m_co_ v_m_fi v_m_bu v_m_ho v_m_lh v_m_mg v_m_wd (t.2.2.2.2 3) (t.2.2.2.2 4) v_m_po v_m_de v_mi_f v_mr_f m9 hw.2).at (hI.1.I [52, 63, 64] _ rfl (by decide) (by decide) (List.forall_mem_cons.mpr ⟨w_m, (List.forall_mem_cons.mpr ⟨w_mi, (List.forall_mem_cons.mpr ⟨w_mr, (fun _ h => nomatch h)⟩)⟩)⟩))).mono (Nat.le_of_ble_eq_true rfl) (Nat.le_of_ble_eq_true rfl) (fun o w1 hp => ?_)
      obtain ⟨cs1, hp, hi9⟩ := hp
      obtain ⟨v9, th9, lh9, mg9, wd9, ir9, gr9, e1, e2⟩ := hp
      subst e1; subst e2
      exact ⟨⟨_, rfl⟩, hI.fix (t2 := t) (is := [52, 63, 64]) hi9 rfl ⟨kd_52.mpr ⟨_, _, _, _, _, _, _, _, _, _, _, _, rfl⟩, kd_63.mpr ⟨_, rfl⟩, kd_64.mpr ⟨_, rfl⟩, trivial⟩ (by decide) (by decide) (fun _ _ _ _ h => h) (fun h => h)⟩
  · refine ((C_Mm_chargeE g (ad 52) (ad 53) (ad 54) (ad 55) (ad 56) (ad 57) (ad 58) (ad 59) (ad 60) (ad 61) (ad 62) (ad 63) (ad 64) (ad 65) (ad 66) (ad 67) (ad 68) v_m_th (nI t.2.2.2.1) v_m_cl v_m_wa v_m_co_ v_m_fi v_m_bu v_m_ho v_m_lh v_m_mg v_m_wd (t.2.2.2.2 3) (t.2.2.2.2 4) v_m_po v_m_de k m9 hw).at (hI.1.I [52] _ rfl (by decide) (by decide) (List.forall_mem_cons.mpr ⟨w_m, (fun _ h => nomatch h)⟩))).mono (Nat.le_of_ble_eq_true rfl) (Nat.le_of_ble_eq_true rfl) (fun o w1 hp => ?_)
    obtain ⟨cs1, hp, hi9⟩ := hp
    obtain ⟨e1, e2⟩ := hp
    subst e1; subst e2
    exact ⟨⟨_, rfl⟩, hI.fix (t2 := t) (is := [52]) hi9 rfl ⟨kd_52.mpr ⟨_, _, _, _, _, _, _, _, _, _, _, _, rfl⟩, trivial⟩ (by decide) (by decide) (fun _ _ _ _ h => h) (fun h => h)⟩
set_option maxHeartbeats 4000000 in
theorem Q_Mm_furnace {g : zG} {ad : Nat → Nat} {t : zTT} {u : zNN} {w : zW} (hI : IV g ad t u w) (k : Int32) : zMB g M_Mm_furnace [.ref (ad 52), .int k] w (fun o w1 => (∃ v : Int32, o = .inl (some (.int v))) ∧ IV g ad t u w1) 0 0 := by
  obtain ⟨e_m, w_m, k_m⟩ := hI.1.2 52 (by decide)
  obtain ⟨v_m_th, v_m_cl, v_m_wa, v_m_co_, v_m_fi, v_m_bu, v_m_ho, v_m_lh, v_m_mg, v_m_wd, v_m_po, v_m_de, rfl⟩ := kd_52.mp k_m
  obtain ⟨e_mi, w_mi, k_mi⟩ := hI.1.2 63 (by decide)
  obtain ⟨v_mi_f, rfl⟩ := kd_63.mp k_mi
  obtain ⟨e_mr, w_mr, k_mr⟩ := hI.1.2 64 (by decide)
  obtain ⟨v_mr_f, rfl⟩ := kd_64.mp k_mr
  by_cases hk : z_ix 2 k < 0
  · refine ((C_Mm_furnaceE g (ad 52) (ad 53) (ad 54) (ad 55) (ad 56) (ad 57) (ad 58) (ad 59) (ad 60) (ad 61) (ad 62) (ad 63) (ad 64) (ad 65) (ad 66) (ad 67) (ad 68) v_m_th (nI t.2.2.2.1) v_m_cl v_m_wa v_m_co_ v_m_fi v_m_bu v_m_ho v_m_lh v_m_mg v_m_wd (t.2.2.2.2 3) (t.2.2.2.2 4) v_m_po v_m_de k hk).at (hI.1.I [52] _ rfl (by decide) (by decide) (List.forall_mem_cons.mpr ⟨w_m, (fun _ h => nomatch h)⟩))).mono (Nat.le_of_ble_eq_true rfl) (Nat.le_of_ble_eq_true rfl) (fun o w1 hp => ?_)
    obtain ⟨cs1, hp, hi9⟩ := hp
    obtain ⟨e1, e2⟩ := hp
    subst e1; subst e2
    exact ⟨⟨_, rfl⟩, hI.fix (t2 := t) (is := [52]) hi9 rfl ⟨kd_52.mpr ⟨_, _, _, _, _, _, _, _, _, _, _, _, rfl⟩, trivial⟩ (by decide) (by decide) (fun _ _ _ _ h => h) (fun h => h)⟩
  · obtain ⟨e9, he9, h2⟩ := z_ix2 hk
    refine ((C_Mm_furnaceW g (ad 52) (ad 53) (ad 54) (ad 55) (ad 56) (ad 57) (ad 58) (ad 59) (ad 60) (ad 61) (ad 62) (ad 63) (ad 64) (ad 65) (ad 66) (ad 67) (ad 68) v_m_th (nI t.2.2.2.1) v_m_cl v_m_wa v_m_co_ v_m_fi v_m_bu v_m_ho v_m_lh v_m_mg v_m_wd (t.2.2.2.2 3) (t.2.2.2.2 4) v_m_po v_m_de v_mi_f v_mr_f k e9 he9 h2 hk).at (hI.1.I [52, 63, 64] _ rfl (by decide) (by decide) (List.forall_mem_cons.mpr ⟨w_m, (List.forall_mem_cons.mpr ⟨w_mi, (List.forall_mem_cons.mpr ⟨w_mr, (fun _ h => nomatch h)⟩)⟩)⟩))).mono (Nat.le_of_ble_eq_true rfl) (Nat.le_of_ble_eq_true rfl) (fun o w1 hp => ?_)
    obtain ⟨cs1, hp, hi9⟩ := hp
    obtain ⟨v9, th9, lh9, mg9, wd9, ir9, gr9, e1, e2⟩ := hp
    subst e1; subst e2
    exact ⟨⟨_, rfl⟩, hI.fix (t2 := t) (is := [52, 63, 64]) hi9 rfl ⟨kd_52.mpr ⟨_, _, _, _, _, _, _, _, _, _, _, _, rfl⟩, kd_63.mpr ⟨_, rfl⟩, kd_64.mpr ⟨_, rfl⟩, trivial⟩ (by decide) (by decide) (fun _ _ _ _ h => h) (fun h => h)⟩
set_option maxHeartbeats 4000000 in
theorem Q_Mm_hold {g : zG} {ad : Nat → Nat} {t : zTT} {u : zNN} {w : zW} (hI : IV g ad t u w) (m9 : Int32) : zMB g M_Mm_hold [.ref (ad 52), .int m9] w (fun o w1 => (∃ v : Int32, o = .inl (some (.int v))) ∧ IV g ad t u w1) 0 0 := by
  obtain ⟨e_m, w_m, k_m⟩ := hI.1.2 52 (by decide)
  obtain ⟨v_m_th, v_m_cl, v_m_wa, v_m_co_, v_m_fi, v_m_bu, v_m_ho, v_m_lh, v_m_mg, v_m_wd, v_m_po, v_m_de, rfl⟩ := kd_52.mp k_m
  obtain ⟨e_mr, w_mr, k_mr⟩ := hI.1.2 64 (by decide)
  obtain ⟨v_mr_f, rfl⟩ := kd_64.mp k_mr
  by_cases hw : 1 ≤ m9 ∧ m9 ≤ 120
  · obtain ⟨a9, ha9, e9⟩ := z_in20 (b := 120) (by decide) ⟨Int32.le_trans (by decide) hw.1, hw.2⟩
    subst e9
    refine ((C_Mm_holdN g (ad 52) (ad 53) (ad 54) (ad 55) (ad 56) (ad 57) (ad 58) (ad 59) (ad 60) (ad 61) (ad 62) (ad 63) (ad 64) (ad 65) (ad 66) (ad 67) (ad 68) v_m_th (nI t.2.2.2.1) v_m_cl v_m_wa v_m_co_ v_m_fi v_m_bu v_m_ho v_m_lh v_m_mg v_m_wd (t.2.2.2.2 3) (t.2.2.2.2 4) v_m_po v_m_de v_mr_f a9 (by omega) hw).at (hI.1.I [52, 64] _ rfl (by decide) (by decide) (List.forall_mem_cons.mpr ⟨w_m, (List.forall_mem_cons.mpr ⟨w_mr, (fun _ h => nomatch h)⟩)⟩))).mono (Nat.le_of_ble_eq_true rfl) (Nat.le_of_ble_eq_true rfl) (fun o w1 hp => ?_)
    obtain ⟨cs1, hp, hi9⟩ := hp
    obtain ⟨e1, e2⟩ := hp
    subst e1; subst e2
    exact ⟨⟨_, rfl⟩, hI.fix (t2 := t) (is := [52, 64]) hi9 rfl ⟨kd_52.mpr ⟨_, _, _, _, _, _, _, _, _, _, _, _, rfl⟩, kd_64.mpr ⟨_, rfl⟩, trivial⟩ (by decide) (by decide) (fun _ _ _ _ h => h) (fun h => h)⟩
  · refine ((C_Mm_holdE g (ad 52) (ad 53) (ad 54) (ad 55) (ad 56) (ad 57) (ad 58) (ad 59) (ad 60) (ad 61) (ad 62) (ad 63) (ad 64) (ad 65) (ad 66) (ad 67) (ad 68) v_m_th (nI t.2.2.2.1) v_m_cl v_m_wa v_m_co_ v_m_fi v_m_bu v_m_ho v_m_lh v_m_mg v_m_wd (t.2.2.2.2 3) (t.2.2.2.2 4) v_m_po v_m_de m9 hw).at (hI.1.I [52] _ rfl (by decide) (by decide) (List.forall_mem_cons.mpr ⟨w_m, (fun _ h => nomatch h)⟩))).mono (Nat.le_of_ble_eq_true rfl) (Nat.le_of_ble_eq_true rfl) (fun o w1 hp => ?_)
    obtain ⟨cs1, hp, hi9⟩ := hp
    obtain ⟨e1, e2⟩ := hp
    subst e1; subst e2
    exact ⟨⟨_, rfl⟩, hI.fix (t2 := t) (is := [52]) hi9 rfl ⟨kd_52.mpr ⟨_, _, _, _, _, _, _, _, _, _, _, _, rfl⟩, trivial⟩ (by decide) (by decide) (fun _ _ _ _ h => h) (fun h => h)⟩
set_option maxHeartbeats 4000000 in
theorem Q_Mm_tap {g : zG} {ad : Nat → Nat} {t : zTT} {u : zNN} {w : zW} (hI : IV g ad t u w) (m9 : Int32) : zMB g M_Mm_tap [.ref (ad 52), .int m9] w (fun o w1 => (∃ v : Int32, o = .inl (some (.int v))) ∧ IV g ad t u w1) 0 0 := by
  obtain ⟨e_m, w_m, k_m⟩ := hI.1.2 52 (by decide)
  obtain ⟨v_m_th, v_m_cl, v_m_wa, v_m_co_, v_m_fi, v_m_bu, v_m_ho, v_m_lh, v_m_mg, v_m_wd, v_m_po, v_m_de, rfl⟩ := kd_52.mp k_m
  obtain ⟨e_mi, w_mi, k_mi⟩ := hI.1.2 63 (by decide)
  obtain ⟨v_mi_f, rfl⟩ := kd_63.mp k_mi
  obtain ⟨e_mr, w_mr, k_mr⟩ := hI.1.2 64 (by decide)
  obtain ⟨v_mr_f, rfl⟩ := kd_64.mp k_mr
  by_cases hw : 1 ≤ m9 ∧ m9 ≤ 500
  · refine ((C_Mm_tapW g (ad 52) (ad 53) (ad 54) (ad 55) (ad 56) (ad 57) (ad 58) (ad 59) (ad 60) (ad 61) (ad 62) (ad 63) (ad 64) (ad 65) (ad 66) (ad 67) (ad 68) v_m_th (nI t.2.2.2.1) v_m_cl v_m_wa v_m_co_ v_m_fi v_m_bu v_m_ho v_m_lh v_m_mg v_m_wd (t.2.2.2.2 3) (t.2.2.2.2 4) v_m_po v_m_de v_mi_f v_mr_f m9 hw).at (hI.1.I [52, 63, 64] _ rfl (by decide) (by decide) (List.forall_mem_cons.mpr ⟨w_m, (List.forall_mem_cons.mpr ⟨w_mi, (List.forall_mem_cons.mpr ⟨w_mr, (fun _ h => nomatch h)⟩)⟩)⟩))).mono (Nat.le_of_ble_eq_true rfl) (Nat.le_of_ble_eq_true rfl) (fun o w1 hp => ?_)
    obtain ⟨cs1, hp, hi9⟩ := hp
    obtain ⟨v9, th9, lh9, mg9, wd9, ir9, gr9, e1, e2⟩ := hp
    subst e1; subst e2
    exact ⟨⟨_, rfl⟩, hI.fix (t2 := t) (is := [52, 63, 64]) hi9 rfl ⟨kd_52.mpr ⟨_, _, _, _, _, _, _, _, _, _, _, _, rfl⟩, kd_63.mpr ⟨_, rfl⟩, kd_64.mpr ⟨_, rfl⟩, trivial⟩ (by decide) (by decide) (fun _ _ _ _ h => h) (fun h => h)⟩
  · refine ((C_Mm_tapE g (ad 52) (ad 53) (ad 54) (ad 55) (ad 56) (ad 57) (ad 58) (ad 59) (ad 60) (ad 61) (ad 62) (ad 63) (ad 64) (ad 65) (ad 66) (ad 67) (ad 68) v_m_th (nI t.2.2.2.1) v_m_cl v_m_wa v_m_co_ v_m_fi v_m_bu v_m_ho v_m_lh v_m_mg v_m_wd (t.2.2.2.2 3) (t.2.2.2.2 4) v_m_po v_m_de m9 hw).at (hI.1.I [52] _ rfl (by decide) (by decide) (List.forall_mem_cons.mpr ⟨w_m, (fun _ h => nomatch h)⟩))).mono (Nat.le_of_ble_eq_true rfl) (Nat.le_of_ble_eq_true rfl) (fun o w1 hp => ?_)
    obtain ⟨cs1, hp, hi9⟩ := hp
    obtain ⟨e1, e2⟩ := hp
    subst e1; subst e2
    exact ⟨⟨_, rfl⟩, hI.fix (t2 := t) (is := [52]) hi9 rfl ⟨kd_52.mpr ⟨_, _, _, _, _, _, _, _, _, _, _, _, rfl⟩, trivial⟩ (by decide) (by decide) (fun _ _ _ _ h => h) (fun h => h)⟩
set_option maxHeartbeats 4000000 in
theorem Q_Mm_treat {g : zG} {ad : Nat → Nat} {t : zTT} {u : zNN} {w : zW} (hI : IV g ad t u w) (m9 : Int32) : zMB g M_Mm_treat [.ref (ad 52), .int m9] w (fun o w1 => (∃ v : Int32, o = .inl (some (.int v))) ∧ IV g ad t u w1) 0 0 := by
  obtain ⟨e_m, w_m, k_m⟩ := hI.1.2 52 (by decide)
  obtain ⟨v_m_th, v_m_cl, v_m_wa, v_m_co_, v_m_fi, v_m_bu, v_m_ho, v_m_lh, v_m_mg, v_m_wd, v_m_po, v_m_de, rfl⟩ := kd_52.mp k_m
  obtain ⟨e_mi, w_mi, k_mi⟩ := hI.1.2 63 (by decide)
  obtain ⟨v_mi_f, rfl⟩ := kd_63.mp k_mi
  obtain ⟨e_mr, w_mr, k_mr⟩ := hI.1.2 64 (by decide)
  obtain ⟨v_mr_f, rfl⟩ := kd_64.mp k_mr
  by_cases hw : 1 ≤ m9 ∧ m9 ≤ 100
  · refine ((C_Mm_treatW g (ad 52) (ad 53) (ad 54) (ad 55) (ad 56) (ad 57) (ad 58) (ad 59) (ad 60) (ad 61) (ad 62) (ad 63) (ad 64) (ad 65) (ad 66) (ad 67) (ad 68) v_m_th (nI t.2.2.2.1) v_m_cl v_m_wa v_m_co_ v_m_fi v_m_bu v_m_ho v_m_lh v_m_mg v_m_wd (t.2.2.2.2 3) (t.2.2.2.2 4) v_m_po v_m_de v_mi_f v_mr_f m9 hw).at (hI.1.I [52, 63, 64] _ rfl (by decide) (by decide) (List.forall_mem_cons.mpr ⟨w_m, (List.forall_mem_cons.mpr ⟨w_mi, (List.forall_mem_cons.mpr ⟨w_mr, (fun _ h => nomatch h)⟩)⟩)⟩))).mono (Nat.le_of_ble_eq_true rfl) (Nat.le_of_ble_eq_true rfl) (fun o w1 hp => ?_)
    obtain ⟨cs1, hp, hi9⟩ := hp
    obtain ⟨v9, th9, lh9, mg9, wd9, ir9, gr9, e1, e2⟩ := hp
    subst e1; subst e2
    exact ⟨⟨_, rfl⟩, hI.fix (t2 := t) (is := [52, 63, 64]) hi9 rfl ⟨kd_52.mpr ⟨_, _, _, _, _, _, _, _, _, _, _, _, rfl⟩, kd_63.mpr ⟨_, rfl⟩, kd_64.mpr ⟨_, rfl⟩, trivial⟩ (by decide) (by decide) (fun _ _ _ _ h => h) (fun h => h)⟩
  · refine ((C_Mm_treatE g (ad 52) (ad 53) (ad 54) (ad 55) (ad 56) (ad 57) (ad 58) (ad 59) (ad 60) (ad 61) (ad 62) (ad 63) (ad 64) (ad 65) (ad 66) (ad 67) (ad 68) v_m_th (nI t.2.2.2.1) v_m_cl v_m_wa v_m_co_ v_m_fi v_m_bu v_m_ho v_m_lh v_m_mg v_m_wd (t.2.2.2.2 3) (t.2.2.2.2 4) v_m_po v_m_de m9 hw).at (hI.1.I [52] _ rfl (by decide) (by decide) (List.forall_mem_cons.mpr ⟨w_m, (fun _ h => nomatch h)⟩))).mono (Nat.le_of_ble_eq_true rfl) (Nat.le_of_ble_eq_true rfl) (fun o w1 hp => ?_)
    obtain ⟨cs1, hp, hi9⟩ := hp
    obtain ⟨e1, e2⟩ := hp
    subst e1; subst e2
    exact ⟨⟨_, rfl⟩, hI.fix (t2 := t) (is := [52]) hi9 rfl ⟨kd_52.mpr ⟨_, _, _, _, _, _, _, _, _, _, _, _, rfl⟩, trivial⟩ (by decide) (by decide) (fun _ _ _ _ h => h) (fun h => h)⟩
set_option maxHeartbeats 4000000 in
theorem Q_Mm_ladle {g : zG} {ad : Nat → Nat} {t : zTT} {u : zNN} {w : zW} (hI : IV g ad t u w) (w9 : Int32) : zMB g M_Mm_ladle [.ref (ad 52), .int w9] w (fun o w1 => (∃ v : Int32, o = .inl (some (.int v))) ∧ IV g ad t u w1) 0 0 := by
  obtain ⟨e_m, w_m, k_m⟩ := hI.1.2 52 (by decide)
  obtain ⟨v_m_th, v_m_cl, v_m_wa, v_m_co_, v_m_fi, v_m_bu, v_m_ho, v_m_lh, v_m_mg, v_m_wd, v_m_po, v_m_de, rfl⟩ := kd_52.mp k_m
  obtain ⟨e_mi, w_mi, k_mi⟩ := hI.1.2 63 (by decide)
  obtain ⟨v_mi_f, rfl⟩ := kd_63.mp k_mi
  obtain ⟨e_mr, w_mr, k_mr⟩ := hI.1.2 64 (by decide)
  obtain ⟨v_mr_f, rfl⟩ := kd_64.mp k_mr
  by_cases hw : z_ix 3 w9 < 0
  · refine ((C_Mm_ladleE g (ad 52) (ad 53) (ad 54) (ad 55) (ad 56) (ad 57) (ad 58) (ad 59) (ad 60) (ad 61) (ad 62) (ad 63) (ad 64) (ad 65) (ad 66) (ad 67) (ad 68) v_m_th (nI t.2.2.2.1) v_m_cl v_m_wa v_m_co_ v_m_fi v_m_bu v_m_ho v_m_lh v_m_mg v_m_wd (t.2.2.2.2 3) (t.2.2.2.2 4) v_m_po v_m_de w9 hw).at (hI.1.I [52] _ rfl (by decide) (by decide) (List.forall_mem_cons.mpr ⟨w_m, (fun _ h => nomatch h)⟩))).mono (Nat.le_of_ble_eq_true rfl) (Nat.le_of_ble_eq_true rfl) (fun o w1 hp => ?_)
    obtain ⟨cs1, hp, hi9⟩ := hp
    obtain ⟨e1, e2⟩ := hp
    subst e1; subst e2
    exact ⟨⟨_, rfl⟩, hI.fix (t2 := t) (is := [52]) hi9 rfl ⟨kd_52.mpr ⟨_, _, _, _, _, _, _, _, _, _, _, _, rfl⟩, trivial⟩ (by decide) (by decide) (fun _ _ _ _ h => h) (fun h => h)⟩
  · refine ((C_Mm_ladleW g (ad 52) (ad 53) (ad 54) (ad 55) (ad 56) (ad 57) (ad 58) (ad 59) (ad 60) (ad 61) (ad 62) (ad 63) (ad 64) (ad 65) (ad 66) (ad 67) (ad 68) v_m_th (nI t.2.2.2.1) v_m_cl v_m_wa v_m_co_ v_m_fi v_m_bu v_m_ho v_m_lh v_m_mg v_m_wd (t.2.2.2.2 3) (t.2.2.2.2 4) v_m_po v_m_de v_mi_f v_mr_f w9 hw).at (hI.1.I [52, 63, 64] _ rfl (by decide) (by decide) (List.forall_mem_cons.mpr ⟨w_m, (List.forall_mem_cons.mpr ⟨w_mi, (List.forall_mem_cons.mpr ⟨w_mr, (fun _ h => nomatch h)⟩)⟩)⟩))).mono (Nat.le_of_ble_eq_true rfl) (Nat.le_of_ble_eq_true rfl) (fun o w1 hp => ?_)
    obtain ⟨cs1, hp, hi9⟩ := hp
    obtain ⟨v9, th9, lh9, mg9, wd9, ir9, gr9, e1, e2⟩ := hp
    subst e1; subst e2
    exact ⟨⟨_, rfl⟩, hI.fix (t2 := t) (is := [52, 63, 64]) hi9 rfl ⟨kd_52.mpr ⟨_, _, _, _, _, _, _, _, _, _, _, _, rfl⟩, kd_63.mpr ⟨_, rfl⟩, kd_64.mpr ⟨_, rfl⟩, trivial⟩ (by decide) (by decide) (fun _ _ _ _ h => h) (fun h => h)⟩
set_option maxHeartbeats 4000000 in
theorem Q_Mm_pig {g : zG} {ad : Nat → Nat} {t : zTT} {u : zNN} {w : zW} (hI : IV g ad t u w) : zMB g M_Mm_pig [.ref (ad 52)] w (fun o w1 => (∃ v : Int32, o = .inl (some (.int v))) ∧ IV g ad t u w1) 0 0 := by
  obtain ⟨e_m, w_m, k_m⟩ := hI.1.2 52 (by decide)
  obtain ⟨v_m_th, v_m_cl, v_m_wa, v_m_co_, v_m_fi, v_m_bu, v_m_ho, v_m_lh, v_m_mg, v_m_wd, v_m_po, v_m_de, rfl⟩ := kd_52.mp k_m
  obtain ⟨e_mi, w_mi, k_mi⟩ := hI.1.2 63 (by decide)
  obtain ⟨v_mi_f, rfl⟩ := kd_63.mp k_mi
  obtain ⟨e_mr, w_mr, k_mr⟩ := hI.1.2 64 (by decide)
  obtain ⟨v_mr_f, rfl⟩ := kd_64.mp k_mr
  refine ((C_Mm_pigW g (ad 52) (ad 53) (ad 54) (ad 55) (ad 56) (ad 57) (ad 58) (ad 59) (ad 60) (ad 61) (ad 62) (ad 63) (ad 64) (ad 65) (ad 66) (ad 67) (ad 68) v_m_th (nI t.2.2.2.1) v_m_cl v_m_wa v_m_co_ v_m_fi v_m_bu v_m_ho v_m_lh v_m_mg v_m_wd (t.2.2.2.2 3) (t.2.2.2.2 4) v_m_po v_m_de v_mi_f v_mr_f).at (hI.1.I [52, 63, 64] _ rfl (by decide) (by decide) (List.forall_mem_cons.mpr ⟨w_m, (List.forall_mem_cons.mpr ⟨w_mi, (List.forall_mem_cons.mpr ⟨w_mr, (fun _ h => nomatch h)⟩)⟩)⟩))).mono (Nat.le_of_ble_eq_true rfl) (Nat.le_of_ble_eq_true rfl) (fun o w1 hp => ?_)
  obtain ⟨cs1, hp, hi9⟩ := hp
  obtain ⟨v9, th9, lh9, mg9, wd9, ir9, gr9, e1, e2⟩ := hp
  subst e1; subst e2
  exact ⟨⟨_, rfl⟩, hI.fix (t2 := t) (is := [52, 63, 64]) hi9 rfl ⟨kd_52.mpr ⟨_, _, _, _, _, _, _, _, _, _, _, _, rfl⟩, kd_63.mpr ⟨_, rfl⟩, kd_64.mpr ⟨_, rfl⟩, trivial⟩ (by decide) (by decide) (fun _ _ _ _ h => h) (fun h => h)⟩
set_option maxHeartbeats 4000000 in
theorem Q_Mm_pool {g : zG} {ad : Nat → Nat} {t : zTT} {u : zNN} {w : zW} (hI : IV g ad t u w) (k : Int32) : zMB g M_Mm_pool [.ref (ad 52), .int k] w (fun o w1 => (∃ v : Int32, o = .inl (some (.int v))) ∧ IV g ad t u w1) 0 0 := by
  obtain ⟨e_m, w_m, k_m⟩ := hI.1.2 52 (by decide)
  obtain ⟨v_m_th, v_m_cl, v_m_wa, v_m_co_, v_m_fi, v_m_bu, v_m_ho, v_m_lh, v_m_mg, v_m_wd, v_m_po, v_m_de, rfl⟩ := kd_52.mp k_m
  obtain ⟨e_mi, w_mi, k_mi⟩ := hI.1.2 63 (by decide)
  obtain ⟨v_mi_f, rfl⟩ := kd_63.mp k_mi
  by_cases h1 : k = 103
  · subst h1
    refine ((C_Mm_pool103 g (ad 52) (ad 53) (ad 54) (ad 55) (ad 56) (ad 57) (ad 58) (ad 59) (ad 60) (ad 61) (ad 62) (ad 63) (ad 64) (ad 65) (ad 66) (ad 67) (ad 68) v_m_th (nI t.2.2.2.1) v_m_cl v_m_wa v_m_co_ v_m_fi v_m_bu v_m_ho v_m_lh v_m_mg v_m_wd (t.2.2.2.2 3) (t.2.2.2.2 4) v_m_po v_m_de v_mi_f).at (hI.1.I [52, 63] _ rfl (by decide) (by decide) (List.forall_mem_cons.mpr ⟨w_m, (List.forall_mem_cons.mpr ⟨w_mi, (fun _ h => nomatch h)⟩)⟩))).mono (Nat.le_of_ble_eq_true rfl) (Nat.le_of_ble_eq_true rfl) (fun o w1 hp => ?_)
    obtain ⟨cs1, hp, hi9⟩ := hp
    obtain ⟨e1, e2⟩ := hp
    subst e1; subst e2
    exact ⟨⟨_, rfl⟩, hI.fix (t2 := t) (is := [52, 63]) hi9 rfl ⟨kd_52.mpr ⟨_, _, _, _, _, _, _, _, _, _, _, _, rfl⟩, kd_63.mpr ⟨_, rfl⟩, trivial⟩ (by decide) (by decide) (fun _ _ _ _ h => h) (fun h => h)⟩
  · by_cases h2 : k = 100
    · subst h2
      refine ((C_Mm_pool100 g (ad 52) (ad 53) (ad 54) (ad 55) (ad 56) (ad 57) (ad 58) (ad 59) (ad 60) (ad 61) (ad 62) (ad 63) (ad 64) (ad 65) (ad 66) (ad 67) (ad 68) v_m_th (nI t.2.2.2.1) v_m_cl v_m_wa v_m_co_ v_m_fi v_m_bu v_m_ho v_m_lh v_m_mg v_m_wd (t.2.2.2.2 3) (t.2.2.2.2 4) v_m_po v_m_de v_mi_f).at (hI.1.I [52, 63] _ rfl (by decide) (by decide) (List.forall_mem_cons.mpr ⟨w_m, (List.forall_mem_cons.mpr ⟨w_mi, (fun _ h => nomatch h)⟩)⟩))).mono (Nat.le_of_ble_eq_true rfl) (Nat.le_of_ble_eq_true rfl) (fun o w1 hp => ?_)
      obtain ⟨cs1, hp, hi9⟩ := hp
      obtain ⟨e1, e2⟩ := hp
      subst e1; subst e2
      exact ⟨⟨_, rfl⟩, hI.fix (t2 := t) (is := [52, 63]) hi9 rfl ⟨kd_52.mpr ⟨_, _, _, _, _, _, _, _, _, _, _, _, rfl⟩, kd_63.mpr ⟨_, rfl⟩, trivial⟩ (by decide) (by decide) (fun _ _ _ _ h => h) (fun h => h)⟩
    · refine ((C_Mm_poolE g (ad 52) (ad 53) (ad 54) (ad 55) (ad 56) (ad 57) (ad 58) (ad 59) (ad 60) (ad 61) (ad 62) (ad 63) (ad 64) (ad 65) (ad 66) (ad 67) (ad 68) v_m_th (nI t.2.2.2.1) v_m_cl v_m_wa v_m_co_ v_m_fi v_m_bu v_m_ho v_m_lh v_m_mg v_m_wd (t.2.2.2.2 3) (t.2.2.2.2 4) v_m_po v_m_de k h1 h2).at (hI.1.I [52] _ rfl (by decide) (by decide) (List.forall_mem_cons.mpr ⟨w_m, (fun _ h => nomatch h)⟩))).mono (Nat.le_of_ble_eq_true rfl) (Nat.le_of_ble_eq_true rfl) (fun o w1 hp => ?_)
      obtain ⟨cs1, hp, hi9⟩ := hp
      obtain ⟨e1, e2⟩ := hp
      subst e1; subst e2
      exact ⟨⟨_, rfl⟩, hI.fix (t2 := t) (is := [52]) hi9 rfl ⟨kd_52.mpr ⟨_, _, _, _, _, _, _, _, _, _, _, _, rfl⟩, trivial⟩ (by decide) (by decide) (fun _ _ _ _ h => h) (fun h => h)⟩
set_option maxHeartbeats 4000000 in
theorem Q_Mm_poolHas {g : zG} {ad : Nat → Nat} {t : zTT} {u : zNN} {w : zW} (hI : IV g ad t u w) (k0 k : Int32) : zMB g M_Mm_poolHas [.ref (ad 52), .int k0, .int k] w (fun o w1 => (∃ v : Int32, o = .inl (some (.int v))) ∧ IV g ad t u w1) 0 0 := by
  obtain ⟨e_m, w_m, k_m⟩ := hI.1.2 52 (by decide)
  obtain ⟨v_m_th, v_m_cl, v_m_wa, v_m_co_, v_m_fi, v_m_bu, v_m_ho, v_m_lh, v_m_mg, v_m_wd, v_m_po, v_m_de, rfl⟩ := kd_52.mp k_m
  obtain ⟨e_mi, w_mi, k_mi⟩ := hI.1.2 63 (by decide)
  obtain ⟨v_mi_f, rfl⟩ := kd_63.mp k_mi
  obtain ⟨e_mr, w_mr, k_mr⟩ := hI.1.2 64 (by decide)
  obtain ⟨v_mr_f, rfl⟩ := kd_64.mp k_mr
  by_cases h1 : k0 = 103
  · subst h1
    by_cases hk : z_ix 2 k < 0
    · refine ((C_Mm_poolHas103E g (ad 52) (ad 53) (ad 54) (ad 55) (ad 56) (ad 57) (ad 58) (ad 59) (ad 60) (ad 61) (ad 62) (ad 63) (ad 64) (ad 65) (ad 66) (ad 67) (ad 68) v_m_th (nI t.2.2.2.1) v_m_cl v_m_wa v_m_co_ v_m_fi v_m_bu v_m_ho v_m_lh v_m_mg v_m_wd (t.2.2.2.2 3) (t.2.2.2.2 4) v_m_po v_m_de k hk).at (hI.1.I [52] _ rfl (by decide) (by decide) (List.forall_mem_cons.mpr ⟨w_m, (fun _ h => nomatch h)⟩))).mono (Nat.le_of_ble_eq_true rfl) (Nat.le_of_ble_eq_true rfl) (fun o w1 hp => ?_)
      obtain ⟨cs1, hp, hi9⟩ := hp
      obtain ⟨e1, e2⟩ := hp
      subst e1; subst e2
      exact ⟨⟨_, rfl⟩, hI.fix (t2 := t) (is := [52]) hi9 rfl ⟨kd_52.mpr ⟨_, _, _, _, _, _, _, _, _, _, _, _, rfl⟩, trivial⟩ (by decide) (by decide) (fun _ _ _ _ h => h) (fun h => h)⟩
    · obtain ⟨e9, he9, h2⟩ := z_ix2 hk
      refine ((C_Mm_poolHas103W g (ad 52) (ad 53) (ad 54) (ad 55) (ad 56) (ad 57) (ad 58) (ad 59) (ad 60) (ad 61) (ad 62) (ad 63) (ad 64) (ad 65) (ad 66) (ad 67) (ad 68) v_m_th (nI t.2.2.2.1) v_m_cl v_m_wa v_m_co_ v_m_fi v_m_bu v_m_ho v_m_lh v_m_mg v_m_wd (t.2.2.2.2 3) (t.2.2.2.2 4) v_m_po v_m_de v_mi_f v_mr_f k e9 he9 h2 hk).at (hI.1.I [52, 63, 64] _ rfl (by decide) (by decide) (List.forall_mem_cons.mpr ⟨w_m, (List.forall_mem_cons.mpr ⟨w_mi, (List.forall_mem_cons.mpr ⟨w_mr, (fun _ h => nomatch h)⟩)⟩)⟩))).mono (Nat.le_of_ble_eq_true rfl) (Nat.le_of_ble_eq_true rfl) (fun o w1 hp => ?_)
      obtain ⟨cs1, hp, hi9⟩ := hp
      obtain ⟨v9, th9, lh9, mg9, wd9, ir9, gr9, e1, e2⟩ := hp
      subst e1; subst e2
      exact ⟨⟨_, rfl⟩, hI.fix (t2 := t) (is := [52, 63, 64]) hi9 rfl ⟨kd_52.mpr ⟨_, _, _, _, _, _, _, _, _, _, _, _, rfl⟩, kd_63.mpr ⟨_, rfl⟩, kd_64.mpr ⟨_, rfl⟩, trivial⟩ (by decide) (by decide) (fun _ _ _ _ h => h) (fun h => h)⟩
  · by_cases h2 : k0 = 100
    · subst h2
      by_cases hk : z_ix 2 k < 0
      · refine ((C_Mm_poolHas100E g (ad 52) (ad 53) (ad 54) (ad 55) (ad 56) (ad 57) (ad 58) (ad 59) (ad 60) (ad 61) (ad 62) (ad 63) (ad 64) (ad 65) (ad 66) (ad 67) (ad 68) v_m_th (nI t.2.2.2.1) v_m_cl v_m_wa v_m_co_ v_m_fi v_m_bu v_m_ho v_m_lh v_m_mg v_m_wd (t.2.2.2.2 3) (t.2.2.2.2 4) v_m_po v_m_de k hk).at (hI.1.I [52] _ rfl (by decide) (by decide) (List.forall_mem_cons.mpr ⟨w_m, (fun _ h => nomatch h)⟩))).mono (Nat.le_of_ble_eq_true rfl) (Nat.le_of_ble_eq_true rfl) (fun o w1 hp => ?_)
        obtain ⟨cs1, hp, hi9⟩ := hp
        obtain ⟨e1, e2⟩ := hp
        subst e1; subst e2
        exact ⟨⟨_, rfl⟩, hI.fix (t2 := t) (is := [52]) hi9 rfl ⟨kd_52.mpr ⟨_, _, _, _, _, _, _, _, _, _, _, _, rfl⟩, trivial⟩ (by decide) (by decide) (fun _ _ _ _ h => h) (fun h => h)⟩
      · obtain ⟨e9, he9, h2⟩ := z_ix2 hk
        refine ((C_Mm_poolHas100W g (ad 52) (ad 53) (ad 54) (ad 55) (ad 56) (ad 57) (ad 58) (ad 59) (ad 60) (ad 61) (ad 62) (ad 63) (ad 64) (ad 65) (ad 66) (ad 67) (ad 68) v_m_th (nI t.2.2.2.1) v_m_cl v_m_wa v_m_co_ v_m_fi v_m_bu v_m_ho v_m_lh v_m_mg v_m_wd (t.2.2.2.2 3) (t.2.2.2.2 4) v_m_po v_m_de v_mi_f v_mr_f k e9 he9 h2 hk).at (hI.1.I [52, 63, 64] _ rfl (by decide) (by decide) (List.forall_mem_cons.mpr ⟨w_m, (List.forall_mem_cons.mpr ⟨w_mi, (List.forall_mem_cons.mpr ⟨w_mr, (fun _ h => nomatch h)⟩)⟩)⟩))).mono (Nat.le_of_ble_eq_true rfl) (Nat.le_of_ble_eq_true rfl) (fun o w1 hp => ?_)
        obtain ⟨cs1, hp, hi9⟩ := hp
        obtain ⟨v9, th9, lh9, mg9, wd9, ir9, gr9, e1, e2⟩ := hp
        subst e1; subst e2
        exact ⟨⟨_, rfl⟩, hI.fix (t2 := t) (is := [52, 63, 64]) hi9 rfl ⟨kd_52.mpr ⟨_, _, _, _, _, _, _, _, _, _, _, _, rfl⟩, kd_63.mpr ⟨_, rfl⟩, kd_64.mpr ⟨_, rfl⟩, trivial⟩ (by decide) (by decide) (fun _ _ _ _ h => h) (fun h => h)⟩
    · refine ((C_Mm_poolHasE g (ad 52) (ad 53) (ad 54) (ad 55) (ad 56) (ad 57) (ad 58) (ad 59) (ad 60) (ad 61) (ad 62) (ad 63) (ad 64) (ad 65) (ad 66) (ad 67) (ad 68) v_m_th (nI t.2.2.2.1) v_m_cl v_m_wa v_m_co_ v_m_fi v_m_bu v_m_ho v_m_lh v_m_mg v_m_wd (t.2.2.2.2 3) (t.2.2.2.2 4) v_m_po v_m_de k0 k h1 h2).at (hI.1.I [52] _ rfl (by decide) (by decide) (List.forall_mem_cons.mpr ⟨w_m, (fun _ h => nomatch h)⟩))).mono (Nat.le_of_ble_eq_true rfl) (Nat.le_of_ble_eq_true rfl) (fun o w1 hp => ?_)
      obtain ⟨cs1, hp, hi9⟩ := hp
      obtain ⟨e1, e2⟩ := hp
      subst e1; subst e2
      exact ⟨⟨_, rfl⟩, hI.fix (t2 := t) (is := [52]) hi9 rfl ⟨kd_52.mpr ⟨_, _, _, _, _, _, _, _, _, _, _, _, rfl⟩, trivial⟩ (by decide) (by decide) (fun _ _ _ _ h => h) (fun h => h)⟩
set_option maxHeartbeats 4000000 in
theorem Q_Mm_leastCostE {g : zG} {ad : Nat → Nat} {t : zTT} {u : zNN} {w : zW} (hI : IV g ad t u w) (le mo si pp ps pa9 : Int32) (hw : ¬ ((0 ≤ le ∧ le ≤ 450) ∧ (le ≤ mo ∧ mo ≤ 450) ∧ (0 ≤ si ∧ si ≤ 450) ∧ (1 ≤ pp ∧ pp ≤ 1000) ∧ (1 ≤ ps ∧ ps ≤ 1000) ∧ (1 ≤ pa9 ∧ pa9 ≤ 1000))) : zMB g M_Mm_leastCost [.ref (ad 52), .int le, .int mo, .int si, .int pp, .int ps, .int pa9] w (fun o w1 => ((∃ v : Int32, o = .inl (some (.int v))) ∧ ∃ fs : List Value, w1 (ad 52) = some (.inr (12, .int 1 :: fs))) ∧ IV g ad t u w1) 0 0 := by
  obtain ⟨e_m, w_m, k_m⟩ := hI.1.2 52 (by decide)
  obtain ⟨v_m_th, v_m_cl, v_m_wa, v_m_co_, v_m_fi, v_m_bu, v_m_ho, v_m_lh, v_m_mg, v_m_wd, v_m_po, v_m_de, rfl⟩ := kd_52.mp k_m
  refine ((C_Mm_leastCostE g (ad 52) (ad 53) (ad 54) (ad 55) (ad 56) (ad 57) (ad 58) (ad 59) (ad 60) (ad 61) (ad 62) (ad 63) (ad 64) (ad 65) (ad 66) (ad 67) (ad 68) v_m_th (nI t.2.2.2.1) v_m_cl v_m_wa v_m_co_ v_m_fi v_m_bu v_m_ho v_m_lh v_m_mg v_m_wd (t.2.2.2.2 3) (t.2.2.2.2 4) v_m_po v_m_de le mo si pp ps pa9 hw).at (hI.1.I [52] _ rfl (by decide) (by decide) (List.forall_mem_cons.mpr ⟨w_m, (fun _ h => nomatch h)⟩))).mono (Nat.le_of_ble_eq_true rfl) (Nat.le_of_ble_eq_true rfl) (fun o w1 hp => ?_)
  obtain ⟨cs1, hp, hi9⟩ := hp
  obtain ⟨e1, e2⟩ := hp
  subst e1; subst e2
  exact ⟨⟨⟨_, rfl⟩, _, hi9.1 _ (List.mem_cons_self)⟩, hI.fix (t2 := t) (is := [52]) hi9 rfl ⟨kd_52.mpr ⟨_, _, _, _, _, _, _, _, _, _, _, _, rfl⟩, trivial⟩ (by decide) (by decide) (fun _ _ _ _ h => h) (fun h => h)⟩
set_option maxHeartbeats 4000000 in
theorem Q_Mm_leastCostF {g : zG} {ad : Nat → Nat} {t : zTT} {u : zNN} {w : zW} (hI : IV g ad t u w) (le mo si pp ps pa9 : Int32) (hw : ((0 ≤ le ∧ le ≤ 450) ∧ (le ≤ mo ∧ mo ≤ 450) ∧ (0 ≤ si ∧ si ≤ 450) ∧ (1 ≤ pp ∧ pp ≤ 1000) ∧ (1 ≤ ps ∧ ps ≤ 1000) ∧ (1 ≤ pa9 ∧ pa9 ≤ 1000))) (hs : (rcO le mo si pp ps pa9 (-1, -1, 0, 0) 11).1 < 0) : zMB g M_Mm_leastCost [.ref (ad 52), .int le, .int mo, .int si, .int pp, .int ps, .int pa9] w (fun o w1 => ((∃ v : Int32, o = .inl (some (.int v))) ∧ ∃ fs : List Value, w1 (ad 52) = some (.inr (12, .int 2 :: fs))) ∧ IV g ad t u w1) 0 0 := by
  obtain ⟨e_m, w_m, k_m⟩ := hI.1.2 52 (by decide)
  obtain ⟨v_m_th, v_m_cl, v_m_wa, v_m_co_, v_m_fi, v_m_bu, v_m_ho, v_m_lh, v_m_mg, v_m_wd, v_m_po, v_m_de, rfl⟩ := kd_52.mp k_m
  refine ((C_Mm_leastCostF g (ad 52) (ad 53) (ad 54) (ad 55) (ad 56) (ad 57) (ad 58) (ad 59) (ad 60) (ad 61) (ad 62) (ad 63) (ad 64) (ad 65) (ad 66) (ad 67) (ad 68) v_m_th (nI t.2.2.2.1) v_m_cl v_m_wa v_m_co_ v_m_fi v_m_bu v_m_ho v_m_lh v_m_mg v_m_wd (t.2.2.2.2 3) (t.2.2.2.2 4) v_m_po v_m_de le mo si pp ps pa9 hw (fun P A h => prS_nn hw.2.2.2.1 hw.2.2.2.2.1 hw.2.2.2.2.2 h) hs).at (hI.1.I [52] _ rfl (by decide) (by decide) (List.forall_mem_cons.mpr ⟨w_m, (fun _ h => nomatch h)⟩))).mono (Nat.le_of_ble_eq_true rfl) (Nat.le_of_ble_eq_true rfl) (fun o w1 hp => ?_)
  obtain ⟨cs1, hp, hi9⟩ := hp
  obtain ⟨e1, e2⟩ := hp
  subst e1; subst e2
  exact ⟨⟨⟨_, rfl⟩, _, hi9.1 _ (List.mem_cons_self)⟩, hI.fix (t2 := t) (is := [52]) hi9 rfl ⟨kd_52.mpr ⟨_, _, _, _, _, _, _, _, _, _, _, _, rfl⟩, trivial⟩ (by decide) (by decide) (fun _ _ _ _ h => h) (fun h => h)⟩
set_option maxHeartbeats 4000000 in
theorem Q_Mm_leastCostN {g : zG} {ad : Nat → Nat} {t : zTT} {u : zNN} {w : zW} (hI : IV g ad t u w) (le mo si pp ps pa9 : Int32) (hw : ((0 ≤ le ∧ le ≤ 450) ∧ (le ≤ mo ∧ mo ≤ 450) ∧ (0 ≤ si ∧ si ≤ 450) ∧ (1 ≤ pp ∧ pp ≤ 1000) ∧ (1 ≤ ps ∧ ps ≤ 1000) ∧ (1 ≤ pa9 ∧ pa9 ≤ 1000))) (hs : ¬ (rcO le mo si pp ps pa9 (-1, -1, 0, 0) 11).1 < 0) : zMB g M_Mm_leastCost [.ref (ad 52), .int le, .int mo, .int si, .int pp, .int ps, .int pa9] w (fun o w1 => (o = .inl (some (.int (rcO le mo si pp ps pa9 (-1, -1, 0, 0) 11).1)) ∧ ∃ fs : List Value, w1 (ad 52) = some (.inr (12, .int 0 :: fs))) ∧ IV g ad (t.1, t.2.1, t.2.2.1, t.2.2.2.1, fun k => if k = 3 then (rcO le mo si pp ps pa9 (-1, -1, 0, 0) 11).2.1 else if k = 4 then (rcO le mo si pp ps pa9 (-1, -1, 0, 0) 11).2.2.1 else t.2.2.2.2 k) u w1) 0 0 := by
  obtain ⟨e_m, w_m, k_m⟩ := hI.1.2 52 (by decide)
  obtain ⟨v_m_th, v_m_cl, v_m_wa, v_m_co_, v_m_fi, v_m_bu, v_m_ho, v_m_lh, v_m_mg, v_m_wd, v_m_po, v_m_de, rfl⟩ := kd_52.mp k_m
  refine ((C_Mm_leastCostN g (ad 52) (ad 53) (ad 54) (ad 55) (ad 56) (ad 57) (ad 58) (ad 59) (ad 60) (ad 61) (ad 62) (ad 63) (ad 64) (ad 65) (ad 66) (ad 67) (ad 68) v_m_th (nI t.2.2.2.1) v_m_cl v_m_wa v_m_co_ v_m_fi v_m_bu v_m_ho v_m_lh v_m_mg v_m_wd (t.2.2.2.2 3) (t.2.2.2.2 4) v_m_po v_m_de le mo si pp ps pa9 hw (fun P A h => prS_nn hw.2.2.2.1 hw.2.2.2.2.1 hw.2.2.2.2.2 h) hs).at (hI.1.I [52] _ rfl (by decide) (by decide) (List.forall_mem_cons.mpr ⟨w_m, (fun _ h => nomatch h)⟩))).mono (Nat.le_of_ble_eq_true rfl) (Nat.le_of_ble_eq_true rfl) (fun o w1 hp => ?_)
  obtain ⟨cs1, hp, hi9⟩ := hp
  obtain ⟨e1, e2⟩ := hp
  subst e1; subst e2
  exact ⟨⟨rfl, _, hi9.1 _ (List.mem_cons_self)⟩, hI.fix (t2 := (t.1, t.2.1, t.2.2.1, t.2.2.2.1, fun k => if k = 3 then (rcO le mo si pp ps pa9 (-1, -1, 0, 0) 11).2.1 else if k = 4 then (rcO le mo si pp ps pa9 (-1, -1, 0, 0) 11).2.2.1 else t.2.2.2.2 k)) (is := [52]) hi9 rfl ⟨kd_52.mpr ⟨_, _, _, _, _, _, _, _, _, _, _, _, rfl⟩, trivial⟩ (by decide) (by decide) (fun i e hi hn => KD.cg i e hi (fun _ => rfl) (fun _ => rfl) (fun _ => ⟨rfl, rfl, rfl⟩) (fun e => absurd (by rw [e]; decide) hn) (fun _ => rfl)) (fun h => h)⟩
set_option maxHeartbeats 4000000 in
theorem Q_Mm_delivered {g : zG} {ad : Nat → Nat} {t : zTT} {u : zNN} {w : zW} (hI : IV g ad t u w) : zMB g M_Mm_delivered [.ref (ad 52)] w (fun o w1 => (∃ v, o = .inl (some (.long v))) ∧ IV g ad t u w1) 0 0 := by
  obtain ⟨e_m, w_m, k_m⟩ := hI.1.2 52 (by decide)
  obtain ⟨v_m_th, v_m_cl, v_m_wa, v_m_co_, v_m_fi, v_m_bu, v_m_ho, v_m_lh, v_m_mg, v_m_wd, v_m_po, v_m_de, rfl⟩ := kd_52.mp k_m
  refine ((C_Mm_delivered g (ad 52) (ad 53) (ad 54) (ad 55) (ad 56) (ad 57) (ad 58) (ad 59) (ad 60) (ad 61) (ad 62) (ad 63) (ad 64) (ad 65) (ad 66) (ad 67) (ad 68) v_m_th (nI t.2.2.2.1) v_m_cl v_m_wa v_m_co_ v_m_fi v_m_bu v_m_ho v_m_lh v_m_mg v_m_wd (t.2.2.2.2 3) (t.2.2.2.2 4) v_m_po v_m_de).at (hI.1.I [52] _ rfl (by decide) (by decide) (List.forall_mem_cons.mpr ⟨w_m, (fun _ h => nomatch h)⟩))).mono (Nat.le_of_ble_eq_true rfl) (Nat.le_of_ble_eq_true rfl) (fun o w1 hp => ?_)
  obtain ⟨cs1, hp, hi9⟩ := hp
  obtain ⟨e1, e2⟩ := hp
  subst e1; subst e2
  exact ⟨⟨_, rfl⟩, hI.fix (t2 := t) (is := [52]) hi9 rfl ⟨kd_52.mpr ⟨_, _, _, _, _, _, _, _, _, _, _, _, rfl⟩, trivial⟩ (by decide) (by decide) (fun _ _ _ _ h => h) (fun h => h)⟩
set_option maxHeartbeats 4000000 in
theorem Q_Mm_isSound {g : zG} {ad : Nat → Nat} {t : zTT} {u : zNN} {w : zW} (hI : IV g ad t u w) : zMB g M_Mm_isSound [.ref (ad 52)] w (fun o w1 => (o = .inl (some (.int 1))) ∧ IV g ad t u w1) 0 0 := by
  obtain ⟨e_m, w_m, k_m⟩ := hI.1.2 52 (by decide)
  obtain ⟨v_m_th, v_m_cl, v_m_wa, v_m_co_, v_m_fi, v_m_bu, v_m_ho, v_m_lh, v_m_mg, v_m_wd, v_m_po, v_m_de, rfl⟩ := kd_52.mp k_m
  refine ((C_Mm_isSound g (ad 52) (ad 53) (ad 54) (ad 55) (ad 56) (ad 57) (ad 58) (ad 59) (ad 60) (ad 61) (ad 62) (ad 63) (ad 64) (ad 65) (ad 66) (ad 67) (ad 68) v_m_th (nI t.2.2.2.1) v_m_cl v_m_wa v_m_co_ v_m_fi v_m_bu v_m_ho v_m_lh v_m_mg v_m_wd (t.2.2.2.2 3) (t.2.2.2.2 4) v_m_po v_m_de).at (hI.1.I [52] _ rfl (by decide) (by decide) (List.forall_mem_cons.mpr ⟨w_m, (fun _ h => nomatch h)⟩))).mono (Nat.le_of_ble_eq_true rfl) (Nat.le_of_ble_eq_true rfl) (fun o w1 hp => ?_)
  obtain ⟨cs1, hp, hi9⟩ := hp
  obtain ⟨e1, e2⟩ := hp
  subst e1; subst e2
  exact ⟨rfl, hI.fix (t2 := t) (is := [52]) hi9 rfl ⟨kd_52.mpr ⟨_, _, _, _, _, _, _, _, _, _, _, _, rfl⟩, trivial⟩ (by decide) (by decide) (fun _ _ _ _ h => h) (fun h => h)⟩
