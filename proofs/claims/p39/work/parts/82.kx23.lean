set_option maxHeartbeats 4000000 in
theorem Qx_Mm_chargeE {g : zG} {ad : Nat → Nat} {t : zTT} {u : zNN} {w : zW} (hI : IV g ad t u w) (k : Int32) (m1 : Int32) (hw : ¬ (0 ≤ z_ix 1 k ∧ (1 ≤ m1 ∧ m1 ≤ 1000))) : zMB g M_Mm_charge [.ref (ad 52), .int k, .int m1] w (fun o w1 => o = .inl (some (.int 0)) ∧ IV g ad t u w1) 0 0 := by
  obtain ⟨e_m, w_m, k_m⟩ := hI.1.2 52 (by decide)
  obtain ⟨v_m_th, rfl⟩ := kd_52.mp k_m
  refine ((C_Mm_chargeE g (ad 52) (ad 53) (ad 54) (ad 55) (ad 56) (ad 57) (ad 58) (ad 59) (ad 60) (ad 61) (ad 62) (ad 63) (ad 64) (ad 65) (ad 66) (ad 67) (ad 68) v_m_th (nI ((t.1 52).2.2 0)) ((t.1 52).1 0) ((t.1 52).1 1) ((t.1 52).1 2) ((t.1 52).1 3) ((t.1 52).1 4) ((t.1 52).1 5) ((t.1 52).1 6) ((t.1 52).1 7) ((t.1 52).1 8) ((t.1 52).1 9) ((t.1 52).1 10) ((t.1 52).2.1 0) ((t.1 52).2.1 1) k m1 hw).at (hI.1.I [52] _ rfl (by decide) (by decide) (List.forall_mem_cons.mpr ⟨w_m, (fun _ h => nomatch h)⟩))).mono (Nat.le_of_ble_eq_true rfl) (Nat.le_of_ble_eq_true rfl) (fun o w1 hp => ?_)
  obtain ⟨cs1, hp, hi9⟩ := hp
  obtain ⟨e1, e2⟩ := hp
  subst e1; subst e2
  exact ⟨rfl, hI.fix (t2 := t) (is := [52]) hi9 rfl ⟨kd_52.mpr ⟨_, rfl⟩, trivial⟩ (by decide) (by decide) (fun _ _ _ => rfl) (fun h => h) rfl⟩
noncomputable def tK_Mm_charge (k m : Int32) (t : zTT) : zTT := (if 0 ≤ z_ix 1 k ∧ (1 ≤ m ∧ m ≤ 1000) then (if k = 112 then (if 3000 < (t.1 63).1 0 + m then t else (zup t.1 [(63, (upd ((t.1 63).1) 0 (((t.1 63).1) 0 + m), (t.1 63).2)), (64, ((t.1 64).1, lfd ((t.1 64).2.1) (fun e => chS m 0 e / 10) 4, (t.1 64).2.2))], t.2)) else (if k = 115 then (if 3000 < (t.1 63).1 0 + m then t else (zup t.1 [(63, (upd ((t.1 63).1) 0 (((t.1 63).1) 0 + m), (t.1 63).2)), (64, ((t.1 64).1, lfd ((t.1 64).2.1) (fun e => chS m 1 e / 10) 4, (t.1 64).2.2))], t.2)) else (if k = 102 then (if 3000 < (t.1 63).1 0 + m then t else (zup t.1 [(63, (upd ((t.1 63).1) 0 (((t.1 63).1) 0 + m), (t.1 63).2)), (64, ((t.1 64).1, lfd ((t.1 64).2.1) (fun e => chS m 2 e / 10) 4, (t.1 64).2.2))], t.2)) else (if k = 107 then (zup t.1 [(63, (upd ((t.1 63).1) 0 (((t.1 63).1) 0 + 0), (t.1 63).2)), (64, ((t.1 64).1, lfd ((t.1 64).2.1) (fun e => chS m 3 e / 10) 4, (t.1 64).2.2))], t.2) else (if k = 103 then (if (t.1 63).1 2 < m then t else (if 3000 < (t.1 63).1 0 + m then t else (zup t.1 [(63, (mvN ((t.1 63).1) 2 0 m, (t.1 63).2)), (64, ((t.1 64).1, mvR ((t.1 64).2.1) 2 0 m (((t.1 63).1) 2) 4, (t.1 64).2.2))], t.2))) else (if (t.1 63).1 3 < m then t else (if 3000 < (t.1 63).1 0 + m then t else (zup t.1 [(63, (mvN ((t.1 63).1) 3 0 m, (t.1 63).2)), (64, ((t.1 64).1, mvR ((t.1 64).2.1) 3 0 m (((t.1 63).1) 3) 4, (t.1 64).2.2))], t.2)))))))) else t)
theorem K_Mm_charge {g : zG} {ad : Nat → Nat} {t : zTT} {u : zNN} {w : zW} (hI : IVm g ad t u w) (k m : Int32) : zMB g M_Mm_charge [.ref (ad 52), .int k, .int m] w (MKx g ad (tK_Mm_charge k m t) u.1) 10 300 := by
  obtain ⟨s, hI⟩ := hI
  by_cases hw : 0 ≤ z_ix 1 k ∧ (1 ≤ m ∧ m ≤ 1000)
  · rcases z_ix1 hw.1 with rfl | rfl | rfl | rfl | rfl | rfl
    · by_cases hg : 3000 < (t.1 63).1 0 + m
      · have eT : (tK_Mm_charge 112 m t) = t := by unfold tK_Mm_charge; rw [if_pos hw, if_pos (rfl : (112 : Int32) = 112), if_pos hg]
        rw [eT]
        exact (Qx_Mm_charge112G9 hI m hw.2 hg).mono (by decide) (by decide) (fun o w1 h => ⟨⟨_, h.1⟩, u, rfl, ⟨_, h.2⟩⟩)
      · have eT : (tK_Mm_charge 112 m t) = (zup t.1 [(63, (upd ((t.1 63).1) 0 (((t.1 63).1) 0 + m), (t.1 63).2)), (64, ((t.1 64).1, lfd ((t.1 64).2.1) (fun e => chS m 0 e / 10) 4, (t.1 64).2.2))], t.2) := by unfold tK_Mm_charge; rw [if_pos hw, if_pos (rfl : (112 : Int32) = 112), if_neg hg]
        rw [eT]
        exact (Qx_Mm_charge112N hI m hw.2 hg).mono (by decide) (by decide) (fun o w1 h => ⟨⟨_, h.1⟩, u, rfl, IVm.zu h.2⟩)
    · by_cases hg : 3000 < (t.1 63).1 0 + m
      · have eT : (tK_Mm_charge 115 m t) = t := by unfold tK_Mm_charge; rw [if_pos hw, if_neg (show ¬ ((115 : Int32) = 112) by decide), if_pos (rfl : (115 : Int32) = 115), if_pos hg]
        rw [eT]
        exact (Qx_Mm_charge115G9 hI m hw.2 hg).mono (by decide) (by decide) (fun o w1 h => ⟨⟨_, h.1⟩, u, rfl, ⟨_, h.2⟩⟩)
      · have eT : (tK_Mm_charge 115 m t) = (zup t.1 [(63, (upd ((t.1 63).1) 0 (((t.1 63).1) 0 + m), (t.1 63).2)), (64, ((t.1 64).1, lfd ((t.1 64).2.1) (fun e => chS m 1 e / 10) 4, (t.1 64).2.2))], t.2) := by unfold tK_Mm_charge; rw [if_pos hw, if_neg (show ¬ ((115 : Int32) = 112) by decide), if_pos (rfl : (115 : Int32) = 115), if_neg hg]
        rw [eT]
        exact (Qx_Mm_charge115N hI m hw.2 hg).mono (by decide) (by decide) (fun o w1 h => ⟨⟨_, h.1⟩, u, rfl, IVm.zu h.2⟩)
    · by_cases hg : 3000 < (t.1 63).1 0 + m
      · have eT : (tK_Mm_charge 102 m t) = t := by unfold tK_Mm_charge; rw [if_pos hw, if_neg (show ¬ ((102 : Int32) = 112) by decide), if_neg (show ¬ ((102 : Int32) = 115) by decide), if_pos (rfl : (102 : Int32) = 102), if_pos hg]
        rw [eT]
        exact (Qx_Mm_charge102G9 hI m hw.2 hg).mono (by decide) (by decide) (fun o w1 h => ⟨⟨_, h.1⟩, u, rfl, ⟨_, h.2⟩⟩)
      · have eT : (tK_Mm_charge 102 m t) = (zup t.1 [(63, (upd ((t.1 63).1) 0 (((t.1 63).1) 0 + m), (t.1 63).2)), (64, ((t.1 64).1, lfd ((t.1 64).2.1) (fun e => chS m 2 e / 10) 4, (t.1 64).2.2))], t.2) := by unfold tK_Mm_charge; rw [if_pos hw, if_neg (show ¬ ((102 : Int32) = 112) by decide), if_neg (show ¬ ((102 : Int32) = 115) by decide), if_pos (rfl : (102 : Int32) = 102), if_neg hg]
        rw [eT]
        exact (Qx_Mm_charge102N hI m hw.2 hg).mono (by decide) (by decide) (fun o w1 h => ⟨⟨_, h.1⟩, u, rfl, IVm.zu h.2⟩)
    · have eT : (tK_Mm_charge 107 m t) = (zup t.1 [(63, (upd ((t.1 63).1) 0 (((t.1 63).1) 0 + 0), (t.1 63).2)), (64, ((t.1 64).1, lfd ((t.1 64).2.1) (fun e => chS m 3 e / 10) 4, (t.1 64).2.2))], t.2) := by unfold tK_Mm_charge; rw [if_pos hw, if_neg (show ¬ ((107 : Int32) = 112) by decide), if_neg (show ¬ ((107 : Int32) = 115) by decide), if_neg (show ¬ ((107 : Int32) = 102) by decide), if_pos (rfl : (107 : Int32) = 107)]
      rw [eT]
      exact (Qx_Mm_charge107N hI m hw.2).mono (by decide) (by decide) (fun o w1 h => ⟨⟨_, h.1⟩, u, rfl, IVm.zu h.2⟩)
    · by_cases hf : (t.1 63).1 2 < m
      · have eT : (tK_Mm_charge 103 m t) = t := by unfold tK_Mm_charge; rw [if_pos hw, if_neg (show ¬ ((103 : Int32) = 112) by decide), if_neg (show ¬ ((103 : Int32) = 115) by decide), if_neg (show ¬ ((103 : Int32) = 102) by decide), if_neg (show ¬ ((103 : Int32) = 107) by decide), if_pos (rfl : (103 : Int32) = 103), if_pos hf]
        rw [eT]
        exact (Qx_Mm_charge103F hI m hw.2 hf).mono (by decide) (by decide) (fun o w1 h => ⟨⟨_, h.1⟩, u, rfl, ⟨_, h.2⟩⟩)
      · by_cases hg : 3000 < (t.1 63).1 0 + m
        · have eT : (tK_Mm_charge 103 m t) = t := by unfold tK_Mm_charge; rw [if_pos hw, if_neg (show ¬ ((103 : Int32) = 112) by decide), if_neg (show ¬ ((103 : Int32) = 115) by decide), if_neg (show ¬ ((103 : Int32) = 102) by decide), if_neg (show ¬ ((103 : Int32) = 107) by decide), if_pos (rfl : (103 : Int32) = 103), if_neg hf, if_pos hg]
          rw [eT]
          exact (Qx_Mm_charge103G9 hI m hw.2 hf hg).mono (by decide) (by decide) (fun o w1 h => ⟨⟨_, h.1⟩, u, rfl, ⟨_, h.2⟩⟩)
        · have eT : (tK_Mm_charge 103 m t) = (zup t.1 [(63, (mvN ((t.1 63).1) 2 0 m, (t.1 63).2)), (64, ((t.1 64).1, mvR ((t.1 64).2.1) 2 0 m (((t.1 63).1) 2) 4, (t.1 64).2.2))], t.2) := by unfold tK_Mm_charge; rw [if_pos hw, if_neg (show ¬ ((103 : Int32) = 112) by decide), if_neg (show ¬ ((103 : Int32) = 115) by decide), if_neg (show ¬ ((103 : Int32) = 102) by decide), if_neg (show ¬ ((103 : Int32) = 107) by decide), if_pos (rfl : (103 : Int32) = 103), if_neg hf, if_neg hg]
          rw [eT]
          exact (Qx_Mm_charge103N9 hI m hw.2 hf hg).mono (by decide) (by decide) (fun o w1 h => ⟨⟨_, h.1⟩, u, rfl, IVm.zu h.2⟩)
    · by_cases hf : (t.1 63).1 3 < m
      · have eT : (tK_Mm_charge 100 m t) = t := by unfold tK_Mm_charge; rw [if_pos hw, if_neg (show ¬ ((100 : Int32) = 112) by decide), if_neg (show ¬ ((100 : Int32) = 115) by decide), if_neg (show ¬ ((100 : Int32) = 102) by decide), if_neg (show ¬ ((100 : Int32) = 107) by decide), if_neg (show ¬ ((100 : Int32) = 103) by decide), if_pos hf]
        rw [eT]
        exact (Qx_Mm_charge100F hI m hw.2 hf).mono (by decide) (by decide) (fun o w1 h => ⟨⟨_, h.1⟩, u, rfl, ⟨_, h.2⟩⟩)
      · by_cases hg : 3000 < (t.1 63).1 0 + m
        · have eT : (tK_Mm_charge 100 m t) = t := by unfold tK_Mm_charge; rw [if_pos hw, if_neg (show ¬ ((100 : Int32) = 112) by decide), if_neg (show ¬ ((100 : Int32) = 115) by decide), if_neg (show ¬ ((100 : Int32) = 102) by decide), if_neg (show ¬ ((100 : Int32) = 107) by decide), if_neg (show ¬ ((100 : Int32) = 103) by decide), if_neg hf, if_pos hg]
          rw [eT]
          exact (Qx_Mm_charge100G9 hI m hw.2 hf hg).mono (by decide) (by decide) (fun o w1 h => ⟨⟨_, h.1⟩, u, rfl, ⟨_, h.2⟩⟩)
        · have eT : (tK_Mm_charge 100 m t) = (zup t.1 [(63, (mvN ((t.1 63).1) 3 0 m, (t.1 63).2)), (64, ((t.1 64).1, mvR ((t.1 64).2.1) 3 0 m (((t.1 63).1) 3) 4, (t.1 64).2.2))], t.2) := by unfold tK_Mm_charge; rw [if_pos hw, if_neg (show ¬ ((100 : Int32) = 112) by decide), if_neg (show ¬ ((100 : Int32) = 115) by decide), if_neg (show ¬ ((100 : Int32) = 102) by decide), if_neg (show ¬ ((100 : Int32) = 107) by decide), if_neg (show ¬ ((100 : Int32) = 103) by decide), if_neg hf, if_neg hg]
          rw [eT]
          exact (Qx_Mm_charge100N9 hI m hw.2 hf hg).mono (by decide) (by decide) (fun o w1 h => ⟨⟨_, h.1⟩, u, rfl, IVm.zu h.2⟩)
  · have eT : (tK_Mm_charge k m t) = t := by unfold tK_Mm_charge; rw [if_neg hw]
    rw [eT]
    exact (Qx_Mm_chargeE hI k m hw).mono (by decide) (by decide) (fun o w1 h => ⟨⟨_, h.1⟩, u, rfl, ⟨_, h.2⟩⟩)
set_option maxHeartbeats 4000000 in
theorem Qx_Mm_furnaceE {g : zG} {ad : Nat → Nat} {t : zTT} {u : zNN} {w : zW} (hI : IV g ad t u w) (k : Int32) (hk : z_ix 2 k < 0) : zMB g M_Mm_furnace [.ref (ad 52), .int k] w (fun o w1 => o = .inl (some (.int 0)) ∧ IV g ad t u w1) 0 0 := by
  obtain ⟨e_m, w_m, k_m⟩ := hI.1.2 52 (by decide)
  obtain ⟨v_m_th, rfl⟩ := kd_52.mp k_m
  refine ((C_Mm_furnaceE g (ad 52) (ad 53) (ad 54) (ad 55) (ad 56) (ad 57) (ad 58) (ad 59) (ad 60) (ad 61) (ad 62) (ad 63) (ad 64) (ad 65) (ad 66) (ad 67) (ad 68) v_m_th (nI ((t.1 52).2.2 0)) ((t.1 52).1 0) ((t.1 52).1 1) ((t.1 52).1 2) ((t.1 52).1 3) ((t.1 52).1 4) ((t.1 52).1 5) ((t.1 52).1 6) ((t.1 52).1 7) ((t.1 52).1 8) ((t.1 52).1 9) ((t.1 52).1 10) ((t.1 52).2.1 0) ((t.1 52).2.1 1) k hk).at (hI.1.I [52] _ rfl (by decide) (by decide) (List.forall_mem_cons.mpr ⟨w_m, (fun _ h => nomatch h)⟩))).mono (Nat.le_of_ble_eq_true rfl) (Nat.le_of_ble_eq_true rfl) (fun o w1 hp => ?_)
  obtain ⟨cs1, hp, hi9⟩ := hp
  obtain ⟨e1, e2⟩ := hp
  subst e1; subst e2
  exact ⟨rfl, hI.fix (t2 := t) (is := [52]) hi9 rfl ⟨kd_52.mpr ⟨_, rfl⟩, trivial⟩ (by decide) (by decide) (fun _ _ _ => rfl) (fun h => h) rfl⟩
set_option maxHeartbeats 4000000 in
theorem Qx_Mm_furnaceF {g : zG} {ad : Nat → Nat} {t : zTT} {u : zNN} {w : zW} (hI : IV g ad t u w) (k : Int32) (hk : ¬ z_ix 2 k < 0) (h0 : ((t.1 63).1) 0 = 0) : zMB g M_Mm_furnace [.ref (ad 52), .int k] w (fun o w1 => o = .inl (some (.int 0)) ∧ IV g ad t u w1) 0 0 := by
  obtain ⟨e_m, w_m, k_m⟩ := hI.1.2 52 (by decide)
  obtain ⟨v_m_th, rfl⟩ := kd_52.mp k_m
  obtain ⟨e_mi, w_mi, k_mi⟩ := hI.1.2 63 (by decide)
  obtain rfl := kd_63.mp k_mi
  refine ((C_Mm_furnaceF g (ad 52) (ad 53) (ad 54) (ad 55) (ad 56) (ad 57) (ad 58) (ad 59) (ad 60) (ad 61) (ad 62) (ad 63) (ad 64) (ad 65) (ad 66) (ad 67) (ad 68) v_m_th (nI ((t.1 52).2.2 0)) ((t.1 52).1 0) ((t.1 52).1 1) ((t.1 52).1 2) ((t.1 52).1 3) ((t.1 52).1 4) ((t.1 52).1 5) ((t.1 52).1 6) ((t.1 52).1 7) ((t.1 52).1 8) ((t.1 52).1 9) ((t.1 52).1 10) ((t.1 52).2.1 0) ((t.1 52).2.1 1) ((t.1 63).1) k hk h0).at (hI.1.I [52, 63] _ rfl (by decide) (by decide) (List.forall_mem_cons.mpr ⟨w_m, (List.forall_mem_cons.mpr ⟨w_mi, (fun _ h => nomatch h)⟩)⟩))).mono (Nat.le_of_ble_eq_true rfl) (Nat.le_of_ble_eq_true rfl) (fun o w1 hp => ?_)
  obtain ⟨cs1, hp, hi9⟩ := hp
  obtain ⟨e1, e2⟩ := hp
  subst e1; subst e2
  exact ⟨rfl, hI.fix (t2 := t) (is := [52, 63]) hi9 rfl ⟨kd_52.mpr ⟨_, rfl⟩, kd_63.mpr rfl, trivial⟩ (by decide) (by decide) (fun _ _ _ => rfl) (fun h => h) rfl⟩
set_option maxHeartbeats 4000000 in
theorem Qx_Mm_furnaceN9 {g : zG} {ad : Nat → Nat} {t : zTT} {u : zNN} {w : zW} (hI : IV g ad t u w) (k : Int32) (e : Nat) (he : e < 4) (hk : z_ix 2 k = nI e) (h0 : ¬ ((t.1 63).1) 0 = 0) : zMB g M_Mm_furnace [.ref (ad 52), .int k] w (fun o w1 => o = .inl (some (.int (pcR ((t.1 64).2.1) ((t.1 63).1) 0 e))) ∧ IV g ad t u w1) 0 0 := by
  obtain ⟨e_m, w_m, k_m⟩ := hI.1.2 52 (by decide)
  obtain ⟨v_m_th, rfl⟩ := kd_52.mp k_m
  obtain ⟨e_mi, w_mi, k_mi⟩ := hI.1.2 63 (by decide)
  obtain rfl := kd_63.mp k_mi
  obtain ⟨e_mr, w_mr, k_mr⟩ := hI.1.2 64 (by decide)
  obtain rfl := kd_64.mp k_mr
  refine ((C_Mm_furnaceN9 g (ad 52) (ad 53) (ad 54) (ad 55) (ad 56) (ad 57) (ad 58) (ad 59) (ad 60) (ad 61) (ad 62) (ad 63) (ad 64) (ad 65) (ad 66) (ad 67) (ad 68) v_m_th (nI ((t.1 52).2.2 0)) ((t.1 52).1 0) ((t.1 52).1 1) ((t.1 52).1 2) ((t.1 52).1 3) ((t.1 52).1 4) ((t.1 52).1 5) ((t.1 52).1 6) ((t.1 52).1 7) ((t.1 52).1 8) ((t.1 52).1 9) ((t.1 52).1 10) ((t.1 52).2.1 0) ((t.1 52).2.1 1) ((t.1 63).1) ((t.1 64).2.1) k e he hk h0).at (hI.1.I [52, 63, 64] _ rfl (by decide) (by decide) (List.forall_mem_cons.mpr ⟨w_m, (List.forall_mem_cons.mpr ⟨w_mi, (List.forall_mem_cons.mpr ⟨w_mr, (fun _ h => nomatch h)⟩)⟩)⟩))).mono (Nat.le_of_ble_eq_true rfl) (Nat.le_of_ble_eq_true rfl) (fun o w1 hp => ?_)
  obtain ⟨cs1, hp, hi9⟩ := hp
  obtain ⟨e1, e2⟩ := hp
  subst e1; subst e2
  exact ⟨rfl, hI.fix (t2 := t) (is := [52, 63, 64]) hi9 rfl ⟨kd_52.mpr ⟨_, rfl⟩, kd_63.mpr rfl, kd_64.mpr rfl, trivial⟩ (by decide) (by decide) (fun _ _ _ => rfl) (fun h => h) rfl⟩
theorem K_Mm_furnace {g : zG} {ad : Nat → Nat} {t : zTT} {u : zNN} {w : zW} (hI : IVm g ad t u w) (k : Int32) : zMB g M_Mm_furnace [.ref (ad 52), .int k] w (MKx g ad t u.1) 10 300 := by
  obtain ⟨s, hI⟩ := hI
  by_cases hk : z_ix 2 k < 0
  · exact (Qx_Mm_furnaceE hI k hk).mono (by decide) (by decide) (fun o w1 h => ⟨⟨_, h.1⟩, u, rfl, ⟨_, h.2⟩⟩)
  · by_cases h0 : (t.1 63).1 0 = 0
    · exact (Qx_Mm_furnaceF hI k hk h0).mono (by decide) (by decide) (fun o w1 h => ⟨⟨_, h.1⟩, u, rfl, ⟨_, h.2⟩⟩)
    · obtain ⟨e9, he9, h2⟩ := z_ix2 hk
      exact (Qx_Mm_furnaceN9 hI k e9 he9 h2 h0).mono (by decide) (by decide) (fun o w1 h => ⟨⟨_, h.1⟩, u, rfl, ⟨_, h.2⟩⟩)
set_option maxHeartbeats 4000000 in
theorem Qx_Mm_holdN {g : zG} {ad : Nat → Nat} {t : zTT} {u : zNN} {w : zW} (hI : IV g ad t u w) (h : Nat) (hh9 : h < 1000) (hw : (1 ≤ nI h ∧ nI h ≤ 120)) : zMB g M_Mm_hold [.ref (ad 52), .int (nI h)] w (fun o w1 => o = .inl (some (.int ((hdR ((t.1 64).2.1) h 0).toInt32))) ∧ IV g ad (zup t.1 [(64, ((t.1 64).1, hdR ((t.1 64).2.1) h, (t.1 64).2.2))], t.2) u w1) 0 0 := by
  obtain ⟨e_m, w_m, k_m⟩ := hI.1.2 52 (by decide)
  obtain ⟨v_m_th, rfl⟩ := kd_52.mp k_m
  obtain ⟨e_mr, w_mr, k_mr⟩ := hI.1.2 64 (by decide)
  obtain rfl := kd_64.mp k_mr
  refine ((C_Mm_holdN g (ad 52) (ad 53) (ad 54) (ad 55) (ad 56) (ad 57) (ad 58) (ad 59) (ad 60) (ad 61) (ad 62) (ad 63) (ad 64) (ad 65) (ad 66) (ad 67) (ad 68) v_m_th (nI ((t.1 52).2.2 0)) ((t.1 52).1 0) ((t.1 52).1 1) ((t.1 52).1 2) ((t.1 52).1 3) ((t.1 52).1 4) ((t.1 52).1 5) ((t.1 52).1 6) ((t.1 52).1 7) ((t.1 52).1 8) ((t.1 52).1 9) ((t.1 52).1 10) ((t.1 52).2.1 0) ((t.1 52).2.1 1) ((t.1 64).2.1) h hh9 hw).at (hI.1.I [52, 64] _ rfl (by decide) (by decide) (List.forall_mem_cons.mpr ⟨w_m, (List.forall_mem_cons.mpr ⟨w_mr, (fun _ h => nomatch h)⟩)⟩))).mono (Nat.le_of_ble_eq_true rfl) (Nat.le_of_ble_eq_true rfl) (fun o w1 hp => ?_)
  obtain ⟨cs1, hp, hi9⟩ := hp
  obtain ⟨e1, e2⟩ := hp
  subst e1; subst e2
  exact ⟨rfl, hI.fix (t2 := (zup t.1 [(64, ((t.1 64).1, hdR ((t.1 64).2.1) h, (t.1 64).2.2))], t.2)) (is := [52, 64]) hi9 rfl ⟨kd_52.mpr ⟨_, rfl⟩, kd_64.mpr rfl, trivial⟩ (by decide) (by decide) (fun i hi hn => zup_out (fun q => hn ((by decide : ∀ j ∈ ([64] : List Nat), j ∈ ([52, 64] : List Nat)) i q))) (fun h => h) rfl⟩
set_option maxHeartbeats 4000000 in
theorem Qx_Mm_holdE {g : zG} {ad : Nat → Nat} {t : zTT} {u : zNN} {w : zW} (hI : IV g ad t u w) (h : Int32) (hw : ¬ (1 ≤ h ∧ h ≤ 120)) : zMB g M_Mm_hold [.ref (ad 52), .int h] w (fun o w1 => o = .inl (some (.int 0)) ∧ IV g ad t u w1) 0 0 := by
  obtain ⟨e_m, w_m, k_m⟩ := hI.1.2 52 (by decide)
  obtain ⟨v_m_th, rfl⟩ := kd_52.mp k_m
  refine ((C_Mm_holdE g (ad 52) (ad 53) (ad 54) (ad 55) (ad 56) (ad 57) (ad 58) (ad 59) (ad 60) (ad 61) (ad 62) (ad 63) (ad 64) (ad 65) (ad 66) (ad 67) (ad 68) v_m_th (nI ((t.1 52).2.2 0)) ((t.1 52).1 0) ((t.1 52).1 1) ((t.1 52).1 2) ((t.1 52).1 3) ((t.1 52).1 4) ((t.1 52).1 5) ((t.1 52).1 6) ((t.1 52).1 7) ((t.1 52).1 8) ((t.1 52).1 9) ((t.1 52).1 10) ((t.1 52).2.1 0) ((t.1 52).2.1 1) h hw).at (hI.1.I [52] _ rfl (by decide) (by decide) (List.forall_mem_cons.mpr ⟨w_m, (fun _ h => nomatch h)⟩))).mono (Nat.le_of_ble_eq_true rfl) (Nat.le_of_ble_eq_true rfl) (fun o w1 hp => ?_)
  obtain ⟨cs1, hp, hi9⟩ := hp
  obtain ⟨e1, e2⟩ := hp
  subst e1; subst e2
  exact ⟨rfl, hI.fix (t2 := t) (is := [52]) hi9 rfl ⟨kd_52.mpr ⟨_, rfl⟩, trivial⟩ (by decide) (by decide) (fun _ _ _ => rfl) (fun h => h) rfl⟩
noncomputable def tK_Mm_hold (x : Int32) (t : zTT) : zTT := (if 1 ≤ x ∧ x ≤ 120 then (zup t.1 [(64, ((t.1 64).1, hdR ((t.1 64).2.1) x.toNatClampNeg, (t.1 64).2.2))], t.2) else t)
theorem K_Mm_hold {g : zG} {ad : Nat → Nat} {t : zTT} {u : zNN} {w : zW} (hI : IVm g ad t u w) (x : Int32) : zMB g M_Mm_hold [.ref (ad 52), .int x] w (MKx g ad (tK_Mm_hold x t) u.1) 10 300 := by
  obtain ⟨s, hI⟩ := hI
  by_cases hw : 1 ≤ x ∧ x ≤ 120
  · obtain ⟨a9, ha9, e9⟩ := z_in20 (b := 120) (by decide) ⟨Int32.le_trans (by decide) hw.1, hw.2⟩
    subst e9
    have eT : (tK_Mm_hold (nI a9) t) = (zup t.1 [(64, ((t.1 64).1, hdR ((t.1 64).2.1) a9, (t.1 64).2.2))], t.2) := by unfold tK_Mm_hold; rw [if_pos hw, nI_clamp (by omega)]
    rw [eT]
    exact (Qx_Mm_holdN hI a9 (by omega) hw).mono (by decide) (by decide) (fun o w1 h => ⟨⟨_, h.1⟩, u, rfl, IVm.zu h.2⟩)
  · have eT : (tK_Mm_hold x t) = t := by unfold tK_Mm_hold; rw [if_neg hw]
    rw [eT]
    exact (Qx_Mm_holdE hI x hw).mono (by decide) (by decide) (fun o w1 h => ⟨⟨_, h.1⟩, u, rfl, ⟨_, h.2⟩⟩)
set_option maxHeartbeats 4000000 in
theorem Qx_Mm_tapG9 {g : zG} {ad : Nat → Nat} {t : zTT} {u : zNN} {w : zW} (hI : IV g ad t u w) (h : Int32) (hw : (1 ≤ h ∧ h ≤ 500)) (h1 : ((t.1 63).1) 1 ≤ 0) (hg : ((t.1 63).1) 0 < h) : zMB g M_Mm_tap [.ref (ad 52), .int h] w (fun o w1 => o = .inl (some (.int 0)) ∧ IV g ad t u w1) 0 0 := by
  obtain ⟨e_m, w_m, k_m⟩ := hI.1.2 52 (by decide)
  obtain ⟨v_m_th, rfl⟩ := kd_52.mp k_m
  obtain ⟨e_mi, w_mi, k_mi⟩ := hI.1.2 63 (by decide)
  obtain rfl := kd_63.mp k_mi
  obtain ⟨e_mr, w_mr, k_mr⟩ := hI.1.2 64 (by decide)
  obtain rfl := kd_64.mp k_mr
  refine ((C_Mm_tapG9 g (ad 52) (ad 53) (ad 54) (ad 55) (ad 56) (ad 57) (ad 58) (ad 59) (ad 60) (ad 61) (ad 62) (ad 63) (ad 64) (ad 65) (ad 66) (ad 67) (ad 68) v_m_th (nI ((t.1 52).2.2 0)) ((t.1 52).1 0) ((t.1 52).1 1) ((t.1 52).1 2) ((t.1 52).1 3) ((t.1 52).1 4) ((t.1 52).1 5) ((t.1 52).1 6) ((t.1 52).1 7) ((t.1 52).1 8) ((t.1 52).1 9) ((t.1 52).1 10) ((t.1 52).2.1 0) ((t.1 52).2.1 1) ((t.1 63).1) ((t.1 64).2.1) h hw h1 hg).at (hI.1.I [52, 63, 64] _ rfl (by decide) (by decide) (List.forall_mem_cons.mpr ⟨w_m, (List.forall_mem_cons.mpr ⟨w_mi, (List.forall_mem_cons.mpr ⟨w_mr, (fun _ h => nomatch h)⟩)⟩)⟩))).mono (Nat.le_of_ble_eq_true rfl) (Nat.le_of_ble_eq_true rfl) (fun o w1 hp => ?_)
  obtain ⟨cs1, hp, hi9⟩ := hp
  obtain ⟨e1, e2⟩ := hp
  subst e1; subst e2
  exact ⟨rfl, hI.fix (t2 := t) (is := [52, 63, 64]) hi9 rfl ⟨kd_52.mpr ⟨_, rfl⟩, kd_63.mpr rfl, kd_64.mpr rfl, trivial⟩ (by decide) (by decide) (fun _ _ _ => rfl) (fun h => h) rfl⟩
set_option maxHeartbeats 4000000 in
theorem Qx_Mm_tapN9 {g : zG} {ad : Nat → Nat} {t : zTT} {u : zNN} {w : zW} (hI : IV g ad t u w) (h : Int32) (hw : (1 ≤ h ∧ h ≤ 500)) (h1 : ((t.1 63).1) 1 ≤ 0) (hg : ¬ ((t.1 63).1) 0 < h) : zMB g M_Mm_tap [.ref (ad 52), .int h] w (fun o w1 => o = .inl (some (.int (mvN ((t.1 63).1) 0 1 h 0))) ∧ IV g ad (zup t.1 [(52, ((upd (upd (upd ((t.1 52).1) 6 1450) 7 0) 8 0), (t.1 52).2.1, (t.1 52).2.2)), (63, (mvN ((t.1 63).1) 0 1 h, (t.1 63).2)), (64, ((t.1 64).1, mvR ((t.1 64).2.1) 0 1 h (((t.1 63).1) 0) 4, (t.1 64).2.2))], t.2) u w1) 0 0 := by
  obtain ⟨e_m, w_m, k_m⟩ := hI.1.2 52 (by decide)
  obtain ⟨v_m_th, rfl⟩ := kd_52.mp k_m
  obtain ⟨e_mi, w_mi, k_mi⟩ := hI.1.2 63 (by decide)
  obtain rfl := kd_63.mp k_mi
  obtain ⟨e_mr, w_mr, k_mr⟩ := hI.1.2 64 (by decide)
  obtain rfl := kd_64.mp k_mr
  refine ((C_Mm_tapN9 g (ad 52) (ad 53) (ad 54) (ad 55) (ad 56) (ad 57) (ad 58) (ad 59) (ad 60) (ad 61) (ad 62) (ad 63) (ad 64) (ad 65) (ad 66) (ad 67) (ad 68) v_m_th (nI ((t.1 52).2.2 0)) ((t.1 52).1 0) ((t.1 52).1 1) ((t.1 52).1 2) ((t.1 52).1 3) ((t.1 52).1 4) ((t.1 52).1 5) ((t.1 52).1 6) ((t.1 52).1 7) ((t.1 52).1 8) ((t.1 52).1 9) ((t.1 52).1 10) ((t.1 52).2.1 0) ((t.1 52).2.1 1) ((t.1 63).1) ((t.1 64).2.1) h hw h1 hg).at (hI.1.I [52, 63, 64] _ rfl (by decide) (by decide) (List.forall_mem_cons.mpr ⟨w_m, (List.forall_mem_cons.mpr ⟨w_mi, (List.forall_mem_cons.mpr ⟨w_mr, (fun _ h => nomatch h)⟩)⟩)⟩))).mono (Nat.le_of_ble_eq_true rfl) (Nat.le_of_ble_eq_true rfl) (fun o w1 hp => ?_)
  obtain ⟨cs1, hp, hi9⟩ := hp
  obtain ⟨e1, e2⟩ := hp
  subst e1; subst e2
  exact ⟨rfl, hI.fix (t2 := (zup t.1 [(52, ((upd (upd (upd ((t.1 52).1) 6 1450) 7 0) 8 0), (t.1 52).2.1, (t.1 52).2.2)), (63, (mvN ((t.1 63).1) 0 1 h, (t.1 63).2)), (64, ((t.1 64).1, mvR ((t.1 64).2.1) 0 1 h (((t.1 63).1) 0) 4, (t.1 64).2.2))], t.2)) (is := [52, 63, 64]) hi9 rfl ⟨kd_52.mpr ⟨_, rfl⟩, kd_63.mpr rfl, kd_64.mpr rfl, trivial⟩ (by decide) (by decide) (fun i hi hn => zup_out (fun q => hn ((by decide : ∀ j ∈ ([52, 63, 64] : List Nat), j ∈ ([52, 63, 64] : List Nat)) i q))) (fun h => h) rfl⟩
set_option maxHeartbeats 4000000 in
theorem Qx_Mm_tapF9 {g : zG} {ad : Nat → Nat} {t : zTT} {u : zNN} {w : zW} (hI : IV g ad t u w) (h : Int32) (hw : (1 ≤ h ∧ h ≤ 500)) (h1 : ¬ ((t.1 63).1) 1 ≤ 0) : zMB g M_Mm_tap [.ref (ad 52), .int h] w (fun o w1 => o = .inl (some (.int 0)) ∧ IV g ad t u w1) 0 0 := by
  obtain ⟨e_m, w_m, k_m⟩ := hI.1.2 52 (by decide)
  obtain ⟨v_m_th, rfl⟩ := kd_52.mp k_m
  obtain ⟨e_mi, w_mi, k_mi⟩ := hI.1.2 63 (by decide)
  obtain rfl := kd_63.mp k_mi
  obtain ⟨e_mr, w_mr, k_mr⟩ := hI.1.2 64 (by decide)
  obtain rfl := kd_64.mp k_mr
  refine ((C_Mm_tapF9 g (ad 52) (ad 53) (ad 54) (ad 55) (ad 56) (ad 57) (ad 58) (ad 59) (ad 60) (ad 61) (ad 62) (ad 63) (ad 64) (ad 65) (ad 66) (ad 67) (ad 68) v_m_th (nI ((t.1 52).2.2 0)) ((t.1 52).1 0) ((t.1 52).1 1) ((t.1 52).1 2) ((t.1 52).1 3) ((t.1 52).1 4) ((t.1 52).1 5) ((t.1 52).1 6) ((t.1 52).1 7) ((t.1 52).1 8) ((t.1 52).1 9) ((t.1 52).1 10) ((t.1 52).2.1 0) ((t.1 52).2.1 1) ((t.1 63).1) ((t.1 64).2.1) h hw h1).at (hI.1.I [52, 63, 64] _ rfl (by decide) (by decide) (List.forall_mem_cons.mpr ⟨w_m, (List.forall_mem_cons.mpr ⟨w_mi, (List.forall_mem_cons.mpr ⟨w_mr, (fun _ h => nomatch h)⟩)⟩)⟩))).mono (Nat.le_of_ble_eq_true rfl) (Nat.le_of_ble_eq_true rfl) (fun o w1 hp => ?_)
  obtain ⟨cs1, hp, hi9⟩ := hp
  obtain ⟨e1, e2⟩ := hp
  subst e1; subst e2
  exact ⟨rfl, hI.fix (t2 := t) (is := [52, 63, 64]) hi9 rfl ⟨kd_52.mpr ⟨_, rfl⟩, kd_63.mpr rfl, kd_64.mpr rfl, trivial⟩ (by decide) (by decide) (fun _ _ _ => rfl) (fun h => h) rfl⟩
set_option maxHeartbeats 4000000 in
theorem Qx_Mm_tapE {g : zG} {ad : Nat → Nat} {t : zTT} {u : zNN} {w : zW} (hI : IV g ad t u w) (h : Int32) (hw : ¬ (1 ≤ h ∧ h ≤ 500)) : zMB g M_Mm_tap [.ref (ad 52), .int h] w (fun o w1 => o = .inl (some (.int 0)) ∧ IV g ad t u w1) 0 0 := by
  obtain ⟨e_m, w_m, k_m⟩ := hI.1.2 52 (by decide)
  obtain ⟨v_m_th, rfl⟩ := kd_52.mp k_m
  refine ((C_Mm_tapE g (ad 52) (ad 53) (ad 54) (ad 55) (ad 56) (ad 57) (ad 58) (ad 59) (ad 60) (ad 61) (ad 62) (ad 63) (ad 64) (ad 65) (ad 66) (ad 67) (ad 68) v_m_th (nI ((t.1 52).2.2 0)) ((t.1 52).1 0) ((t.1 52).1 1) ((t.1 52).1 2) ((t.1 52).1 3) ((t.1 52).1 4) ((t.1 52).1 5) ((t.1 52).1 6) ((t.1 52).1 7) ((t.1 52).1 8) ((t.1 52).1 9) ((t.1 52).1 10) ((t.1 52).2.1 0) ((t.1 52).2.1 1) h hw).at (hI.1.I [52] _ rfl (by decide) (by decide) (List.forall_mem_cons.mpr ⟨w_m, (fun _ h => nomatch h)⟩))).mono (Nat.le_of_ble_eq_true rfl) (Nat.le_of_ble_eq_true rfl) (fun o w1 hp => ?_)
  obtain ⟨cs1, hp, hi9⟩ := hp
  obtain ⟨e1, e2⟩ := hp
  subst e1; subst e2
  exact ⟨rfl, hI.fix (t2 := t) (is := [52]) hi9 rfl ⟨kd_52.mpr ⟨_, rfl⟩, trivial⟩ (by decide) (by decide) (fun _ _ _ => rfl) (fun h => h) rfl⟩
noncomputable def tK_Mm_tap (m : Int32) (t : zTT) : zTT := (if 1 ≤ m ∧ m ≤ 500 then (if (t.1 63).1 1 ≤ 0 then (if (t.1 63).1 0 < m then t else (zup t.1 [(52, ((upd (upd (upd ((t.1 52).1) 6 1450) 7 0) 8 0), (t.1 52).2.1, (t.1 52).2.2)), (63, (mvN ((t.1 63).1) 0 1 m, (t.1 63).2)), (64, ((t.1 64).1, mvR ((t.1 64).2.1) 0 1 m (((t.1 63).1) 0) 4, (t.1 64).2.2))], t.2)) else t) else t)
