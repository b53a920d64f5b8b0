set_option maxHeartbeats 4000000 in
theorem Qx_Ip_chargeE {g : zG} {ad : Nat → Nat} {t : zTT} {u : zNN} {w : zW} (hI : IV g ad t u w) (m : Int32) (k : Int32) (hw : ¬ (0 ≤ z_ix 1 k ∧ (1 ≤ m ∧ m ≤ 1000))) : zMB g M_Ip_charge [.ref (ad 0), .int k, .int m] w (fun o w1 => o = .inr "java/lang/IllegalArgumentException" ∧ IV g ad t u w1) 1 6 := by
  obtain ⟨e_a, w_a, k_a⟩ := hI.1.2 0 (by decide)
  obtain rfl := kd_0.mp k_a
  obtain ⟨e_fu, w_fu, k_fu⟩ := hI.1.2 36 (by decide)
  obtain rfl := kd_36.mp k_fu
  obtain ⟨e_fub, w_fub, k_fub⟩ := hI.1.2 37 (by decide)
  obtain rfl := kd_37.mp k_fub
  obtain ⟨e_fubg, w_fubg, k_fubg⟩ := hI.1.2 38 (by decide)
  obtain rfl := kd_38.mp k_fubg
  obtain ⟨e_fut1, w_fut1, k_fut1⟩ := hI.1.2 39 (by decide)
  obtain rfl := kd_39.mp k_fut1
  obtain ⟨e_fut2, w_fut2, k_fut2⟩ := hI.1.2 40 (by decide)
  obtain rfl := kd_40.mp k_fut2
  obtain ⟨e_fut3, w_fut3, k_fut3⟩ := hI.1.2 41 (by decide)
  obtain rfl := kd_41.mp k_fut3
  obtain ⟨e_gy, w_gy, k_gy⟩ := hI.1.2 45 (by decide)
  obtain rfl := kd_45.mp k_gy
  obtain ⟨e_gyg, w_gyg, k_gyg⟩ := hI.1.2 46 (by decide)
  obtain rfl := kd_46.mp k_gyg
  obtain ⟨e_du, w_du, k_du⟩ := hI.1.2 47 (by decide)
  obtain rfl := kd_47.mp k_du
  obtain ⟨e_dug, w_dug, k_dug⟩ := hI.1.2 48 (by decide)
  obtain rfl := kd_48.mp k_dug
  refine ((C_Ip_chargeE g (ad 0) (ad 1) (ad 5) (ad 18) (ad 31) (ad 32) (ad 36) (ad 42) (ad 45) (ad 47) (ad 49) (ad 50) (ad 51) (ad 43) (ad 44) (ad 46) (ad 48) (ad 37) (ad 38) (ad 39) (ad 40) (ad 41) ((t.1 38).2.1) ((t.1 39).2.1) ((t.1 40).2.1) ((t.1 41).2.1) ((t.1 46).2.1) ((t.1 48).2.1) ((t.1 37).1 0) ((t.1 45).1 0) ((t.1 47).1 0) ((t.1 36).2.1 0) m k hw).at (hI.1.I [0, 36, 37, 38, 39, 40, 41, 45, 46, 47, 48] _ rfl (by decide) (by decide) (List.forall_mem_cons.mpr ⟨w_a, (List.forall_mem_cons.mpr ⟨w_fu, (List.forall_mem_cons.mpr ⟨w_fub, (List.forall_mem_cons.mpr ⟨w_fubg, (List.forall_mem_cons.mpr ⟨w_fut1, (List.forall_mem_cons.mpr ⟨w_fut2, (List.forall_mem_cons.mpr ⟨w_fut3, (List.forall_mem_cons.mpr ⟨w_gy, (List.forall_mem_cons.mpr ⟨w_gyg, (List.forall_mem_cons.mpr ⟨w_du, (List.forall_mem_cons.mpr ⟨w_dug, (fun _ h => nomatch h)⟩)⟩)⟩)⟩)⟩)⟩)⟩)⟩)⟩)⟩)⟩))).mono (Nat.le_of_ble_eq_true rfl) (Nat.le_of_ble_eq_true rfl) (fun o w1 hp => ?_)
  obtain ⟨cs1, hp, hi9⟩ := hp
  obtain ⟨e1, e2⟩ := hp
  subst e1; subst e2
  exact ⟨rfl, hI.fix (t2 := t) (is := [0, 36, 37, 38, 39, 40, 41, 45, 46, 47, 48]) hi9 rfl ⟨kd_0.mpr rfl, kd_36.mpr rfl, kd_37.mpr rfl, kd_38.mpr rfl, kd_39.mpr rfl, kd_40.mpr rfl, kd_41.mpr rfl, kd_45.mpr rfl, kd_46.mpr rfl, kd_47.mpr rfl, kd_48.mpr rfl, trivial⟩ (by decide) (by decide) (fun _ _ _ => rfl) (fun h => h) rfl⟩
noncomputable def tK_Ip_charge (k m : Int32) (t : zTT) : zTT := (if 0 ≤ z_ix 1 k ∧ (1 ≤ m ∧ m ≤ 1000) then (if k = 112 then (if 3000 < (t.1 37).1 0 + m then t else (zup t.1 [(36, ((t.1 36).1, (vp_updL ((t.1 36).2.1) 0 (((t.1 36).2.1 0) + (m : Int32).toInt64)), (t.1 36).2.2)), (37, ((upd ((t.1 37).1) 0 (((t.1 37).1 0) + m)), (t.1 37).2.1, (t.1 37).2.2)), (38, ((t.1 38).1, lfd ((t.1 38).2.1) (fun e => chS m 0 e / 10) 4, (t.1 38).2.2)), (39, ((t.1 39).1, lfd ((t.1 39).2.1) (fun e => chS m 0 e) 4, (t.1 39).2.2)), (40, ((t.1 40).1, lfd ((t.1 40).2.1) (fun e => chS m 0 e - chS m 0 e / 10 * 10) 4, (t.1 40).2.2))], t.2)) else (if k = 115 then (if 3000 < (t.1 37).1 0 + m then t else (zup t.1 [(36, ((t.1 36).1, (vp_updL ((t.1 36).2.1) 0 (((t.1 36).2.1 0) + (m : Int32).toInt64)), (t.1 36).2.2)), (37, ((upd ((t.1 37).1) 0 (((t.1 37).1 0) + m)), (t.1 37).2.1, (t.1 37).2.2)), (38, ((t.1 38).1, lfd ((t.1 38).2.1) (fun e => chS m 1 e / 10) 4, (t.1 38).2.2)), (39, ((t.1 39).1, lfd ((t.1 39).2.1) (fun e => chS m 1 e) 4, (t.1 39).2.2)), (40, ((t.1 40).1, lfd ((t.1 40).2.1) (fun e => chS m 1 e - chS m 1 e / 10 * 10) 4, (t.1 40).2.2))], t.2)) else (if k = 102 then (if 3000 < (t.1 37).1 0 + m then t else (zup t.1 [(36, ((t.1 36).1, (vp_updL ((t.1 36).2.1) 0 (((t.1 36).2.1 0) + (m : Int32).toInt64)), (t.1 36).2.2)), (37, ((upd ((t.1 37).1) 0 (((t.1 37).1 0) + m)), (t.1 37).2.1, (t.1 37).2.2)), (38, ((t.1 38).1, lfd ((t.1 38).2.1) (fun e => chS m 2 e / 10) 4, (t.1 38).2.2)), (39, ((t.1 39).1, lfd ((t.1 39).2.1) (fun e => chS m 2 e) 4, (t.1 39).2.2)), (40, ((t.1 40).1, lfd ((t.1 40).2.1) (fun e => chS m 2 e - chS m 2 e / 10 * 10) 4, (t.1 40).2.2))], t.2)) else (if k = 107 then (if 3000 < (t.1 37).1 0 + 0 then t else (zup t.1 [(36, ((t.1 36).1, (vp_updL ((t.1 36).2.1) 0 (((t.1 36).2.1 0) + (0 : Int32).toInt64)), (t.1 36).2.2)), (37, ((upd ((t.1 37).1) 0 (((t.1 37).1 0) + 0)), (t.1 37).2.1, (t.1 37).2.2)), (38, ((t.1 38).1, lfd ((t.1 38).2.1) (fun e => chS m 3 e / 10) 4, (t.1 38).2.2)), (39, ((t.1 39).1, lfd ((t.1 39).2.1) (fun e => chS m 3 e) 4, (t.1 39).2.2)), (40, ((t.1 40).1, lfd ((t.1 40).2.1) (fun e => chS m 3 e - chS m 3 e / 10 * 10) 4, (t.1 40).2.2))], t.2)) else (if k = 103 then (if (t.1 45).1 0 < m then t else (if 3000 < (t.1 37).1 0 + m then t else (zup t.1 [(37, ((upd ((t.1 37).1) 0 (((t.1 37).1 0) + m)), (t.1 37).2.1, (t.1 37).2.2)), (38, ((t.1 38).1, mvT ((t.1 46).2.1) m ((t.1 45).1 0) ((t.1 38).2.1) 4, (t.1 38).2.2)), (45, ((upd ((t.1 45).1) 0 (((t.1 45).1 0) - m)), (t.1 45).2.1, (t.1 45).2.2)), (46, ((t.1 46).1, mvS ((t.1 46).2.1) m ((t.1 45).1 0) 4, (t.1 46).2.2))], t.2))) else (if (t.1 47).1 0 < m then t else (if 3000 < (t.1 37).1 0 + m then t else (zup t.1 [(37, ((upd ((t.1 37).1) 0 (((t.1 37).1 0) + m)), (t.1 37).2.1, (t.1 37).2.2)), (38, ((t.1 38).1, mvT ((t.1 48).2.1) m ((t.1 47).1 0) ((t.1 38).2.1) 4, (t.1 38).2.2)), (47, ((upd ((t.1 47).1) 0 (((t.1 47).1 0) - m)), (t.1 47).2.1, (t.1 47).2.2)), (48, ((t.1 48).1, mvS ((t.1 48).2.1) m ((t.1 47).1 0) 4, (t.1 48).2.2))], t.2)))))))) else t)
theorem K_Ip_charge {g : zG} {ad : Nat → Nat} {t : zTT} {u : zNN} {w : zW} (hI : IVm g ad t u w) (k m : Int32) : zMB g M_Ip_charge [.ref (ad 0), .int k, .int m] w (CKx g ad (tK_Ip_charge k m t) u.1 ["java/lang/IllegalArgumentException", "java/lang/UnsupportedOperationException", "java/lang/IllegalStateException"]) 10 300 := by
  obtain ⟨s, hI⟩ := hI
  by_cases hw : 0 ≤ z_ix 1 k ∧ (1 ≤ m ∧ m ≤ 1000)
  · rcases z_ix1 hw.1 with rfl | rfl | rfl | rfl | rfl | rfl
    · by_cases hg : 3000 < (t.1 37).1 0 + m
      · have eT : (tK_Ip_charge 112 m t) = t := by unfold tK_Ip_charge; rw [if_pos hw, if_pos (rfl : (112 : Int32) = 112), if_pos hg]
        rw [eT]
        exact (Qx_Ip_charge112G hI m hw.2 hg).mono (by decide) (by decide) (fun o w1 h => ⟨zri.th h.1 (by simp), u, rfl, ⟨_, h.2⟩⟩)
      · have eT : (tK_Ip_charge 112 m t) = (zup t.1 [(36, ((t.1 36).1, (vp_updL ((t.1 36).2.1) 0 (((t.1 36).2.1 0) + (m : Int32).toInt64)), (t.1 36).2.2)), (37, ((upd ((t.1 37).1) 0 (((t.1 37).1 0) + m)), (t.1 37).2.1, (t.1 37).2.2)), (38, ((t.1 38).1, lfd ((t.1 38).2.1) (fun e => chS m 0 e / 10) 4, (t.1 38).2.2)), (39, ((t.1 39).1, lfd ((t.1 39).2.1) (fun e => chS m 0 e) 4, (t.1 39).2.2)), (40, ((t.1 40).1, lfd ((t.1 40).2.1) (fun e => chS m 0 e - chS m 0 e / 10 * 10) 4, (t.1 40).2.2))], t.2) := by unfold tK_Ip_charge; rw [if_pos hw, if_pos (rfl : (112 : Int32) = 112), if_neg hg]
        rw [eT]
        exact (Qx_Ip_charge112N hI m hw.2 hg).mono (by decide) (by decide) (fun o w1 h => ⟨zri.vl h.1, u, rfl, IVm.zu h.2⟩)
    · by_cases hg : 3000 < (t.1 37).1 0 + m
      · have eT : (tK_Ip_charge 115 m t) = t := by unfold tK_Ip_charge; rw [if_pos hw, if_neg (show ¬ ((115 : Int32) = 112) by decide), if_pos (rfl : (115 : Int32) = 115), if_pos hg]
        rw [eT]
        exact (Qx_Ip_charge115G hI m hw.2 hg).mono (by decide) (by decide) (fun o w1 h => ⟨zri.th h.1 (by simp), u, rfl, ⟨_, h.2⟩⟩)
      · have eT : (tK_Ip_charge 115 m t) = (zup t.1 [(36, ((t.1 36).1, (vp_updL ((t.1 36).2.1) 0 (((t.1 36).2.1 0) + (m : Int32).toInt64)), (t.1 36).2.2)), (37, ((upd ((t.1 37).1) 0 (((t.1 37).1 0) + m)), (t.1 37).2.1, (t.1 37).2.2)), (38, ((t.1 38).1, lfd ((t.1 38).2.1) (fun e => chS m 1 e / 10) 4, (t.1 38).2.2)), (39, ((t.1 39).1, lfd ((t.1 39).2.1) (fun e => chS m 1 e) 4, (t.1 39).2.2)), (40, ((t.1 40).1, lfd ((t.1 40).2.1) (fun e => chS m 1 e - chS m 1 e / 10 * 10) 4, (t.1 40).2.2))], t.2) := by unfold tK_Ip_charge; rw [if_pos hw, if_neg (show ¬ ((115 : Int32) = 112) by decide), if_pos (rfl : (115 : Int32) = 115), if_neg hg]
        rw [eT]
        exact (Qx_Ip_charge115N hI m hw.2 hg).mono (by decide) (by decide) (fun o w1 h => ⟨zri.vl h.1, u, rfl, IVm.zu h.2⟩)
    · by_cases hg : 3000 < (t.1 37).1 0 + m
      · have eT : (tK_Ip_charge 102 m t) = t := by unfold tK_Ip_charge; rw [if_pos hw, if_neg (show ¬ ((102 : Int32) = 112) by decide), if_neg (show ¬ ((102 : Int32) = 115) by decide), if_pos (rfl : (102 : Int32) = 102), if_pos hg]
        rw [eT]
        exact (Qx_Ip_charge102G hI m hw.2 hg).mono (by decide) (by decide) (fun o w1 h => ⟨zri.th h.1 (by simp), u, rfl, ⟨_, h.2⟩⟩)
      · have eT : (tK_Ip_charge 102 m t) = (zup t.1 [(36, ((t.1 36).1, (vp_updL ((t.1 36).2.1) 0 (((t.1 36).2.1 0) + (m : Int32).toInt64)), (t.1 36).2.2)), (37, ((upd ((t.1 37).1) 0 (((t.1 37).1 0) + m)), (t.1 37).2.1, (t.1 37).2.2)), (38, ((t.1 38).1, lfd ((t.1 38).2.1) (fun e => chS m 2 e / 10) 4, (t.1 38).2.2)), (39, ((t.1 39).1, lfd ((t.1 39).2.1) (fun e => chS m 2 e) 4, (t.1 39).2.2)), (40, ((t.1 40).1, lfd ((t.1 40).2.1) (fun e => chS m 2 e - chS m 2 e / 10 * 10) 4, (t.1 40).2.2))], t.2) := by unfold tK_Ip_charge; rw [if_pos hw, if_neg (show ¬ ((102 : Int32) = 112) by decide), if_neg (show ¬ ((102 : Int32) = 115) by decide), if_pos (rfl : (102 : Int32) = 102), if_neg hg]
        rw [eT]
        exact (Qx_Ip_charge102N hI m hw.2 hg).mono (by decide) (by decide) (fun o w1 h => ⟨zri.vl h.1, u, rfl, IVm.zu h.2⟩)
    · by_cases hg : 3000 < (t.1 37).1 0 + 0
      · have eT : (tK_Ip_charge 107 m t) = t := by unfold tK_Ip_charge; rw [if_pos hw, if_neg (show ¬ ((107 : Int32) = 112) by decide), if_neg (show ¬ ((107 : Int32) = 115) by decide), if_neg (show ¬ ((107 : Int32) = 102) by decide), if_pos (rfl : (107 : Int32) = 107), if_pos hg]
        rw [eT]
        exact (Qx_Ip_charge107G hI m hw.2 hg).mono (by decide) (by decide) (fun o w1 h => ⟨zri.th h.1 (by simp), u, rfl, ⟨_, h.2⟩⟩)
      · have eT : (tK_Ip_charge 107 m t) = (zup t.1 [(36, ((t.1 36).1, (vp_updL ((t.1 36).2.1) 0 (((t.1 36).2.1 0) + (0 : Int32).toInt64)), (t.1 36).2.2)), (37, ((upd ((t.1 37).1) 0 (((t.1 37).1 0) + 0)), (t.1 37).2.1, (t.1 37).2.2)), (38, ((t.1 38).1, lfd ((t.1 38).2.1) (fun e => chS m 3 e / 10) 4, (t.1 38).2.2)), (39, ((t.1 39).1, lfd ((t.1 39).2.1) (fun e => chS m 3 e) 4, (t.1 39).2.2)), (40, ((t.1 40).1, lfd ((t.1 40).2.1) (fun e => chS m 3 e - chS m 3 e / 10 * 10) 4, (t.1 40).2.2))], t.2) := by unfold tK_Ip_charge; rw [if_pos hw, if_neg (show ¬ ((107 : Int32) = 112) by decide), if_neg (show ¬ ((107 : Int32) = 115) by decide), if_neg (show ¬ ((107 : Int32) = 102) by decide), if_pos (rfl : (107 : Int32) = 107), if_neg hg]
        rw [eT]
        exact (Qx_Ip_charge107N hI m hw.2 hg).mono (by decide) (by decide) (fun o w1 h => ⟨zri.vl h.1, u, rfl, IVm.zu h.2⟩)
    · by_cases hf : (t.1 45).1 0 < m
      · have eT : (tK_Ip_charge 103 m t) = t := by unfold tK_Ip_charge; rw [if_pos hw, if_neg (show ¬ ((103 : Int32) = 112) by decide), if_neg (show ¬ ((103 : Int32) = 115) by decide), if_neg (show ¬ ((103 : Int32) = 102) by decide), if_neg (show ¬ ((103 : Int32) = 107) by decide), if_pos (rfl : (103 : Int32) = 103), if_pos hf]
        rw [eT]
        exact (Qx_Ip_charge103F hI m hw.2 hf).mono (by decide) (by decide) (fun o w1 h => ⟨zri.th h.1 (by simp), u, rfl, ⟨_, h.2⟩⟩)
      · by_cases hg : 3000 < (t.1 37).1 0 + m
        · have eT : (tK_Ip_charge 103 m t) = t := by unfold tK_Ip_charge; rw [if_pos hw, if_neg (show ¬ ((103 : Int32) = 112) by decide), if_neg (show ¬ ((103 : Int32) = 115) by decide), if_neg (show ¬ ((103 : Int32) = 102) by decide), if_neg (show ¬ ((103 : Int32) = 107) by decide), if_pos (rfl : (103 : Int32) = 103), if_neg hf, if_pos hg]
          rw [eT]
          exact (Qx_Ip_charge103G hI m hw.2 hf hg).mono (by decide) (by decide) (fun o w1 h => ⟨zri.th h.1 (by simp), u, rfl, ⟨_, h.2⟩⟩)
        · have eT : (tK_Ip_charge 103 m t) = (zup t.1 [(37, ((upd ((t.1 37).1) 0 (((t.1 37).1 0) + m)), (t.1 37).2.1, (t.1 37).2.2)), (38, ((t.1 38).1, mvT ((t.1 46).2.1) m ((t.1 45).1 0) ((t.1 38).2.1) 4, (t.1 38).2.2)), (45, ((upd ((t.1 45).1) 0 (((t.1 45).1 0) - m)), (t.1 45).2.1, (t.1 45).2.2)), (46, ((t.1 46).1, mvS ((t.1 46).2.1) m ((t.1 45).1 0) 4, (t.1 46).2.2))], t.2) := by unfold tK_Ip_charge; rw [if_pos hw, if_neg (show ¬ ((103 : Int32) = 112) by decide), if_neg (show ¬ ((103 : Int32) = 115) by decide), if_neg (show ¬ ((103 : Int32) = 102) by decide), if_neg (show ¬ ((103 : Int32) = 107) by decide), if_pos (rfl : (103 : Int32) = 103), if_neg hf, if_neg hg]
          rw [eT]
          exact (Qx_Ip_charge103N hI m hw.2 hf hg).mono (by decide) (by decide) (fun o w1 h => ⟨zri.vl h.1, u, rfl, IVm.zu h.2⟩)
    · by_cases hf : (t.1 47).1 0 < m
      · have eT : (tK_Ip_charge 100 m t) = t := by unfold tK_Ip_charge; rw [if_pos hw, if_neg (show ¬ ((100 : Int32) = 112) by decide), if_neg (show ¬ ((100 : Int32) = 115) by decide), if_neg (show ¬ ((100 : Int32) = 102) by decide), if_neg (show ¬ ((100 : Int32) = 107) by decide), if_neg (show ¬ ((100 : Int32) = 103) by decide), if_pos hf]
        rw [eT]
        exact (Qx_Ip_charge100F hI m hw.2 hf).mono (by decide) (by decide) (fun o w1 h => ⟨zri.th h.1 (by simp), u, rfl, ⟨_, h.2⟩⟩)
      · by_cases hg : 3000 < (t.1 37).1 0 + m
        · have eT : (tK_Ip_charge 100 m t) = t := by unfold tK_Ip_charge; rw [if_pos hw, if_neg (show ¬ ((100 : Int32) = 112) by decide), if_neg (show ¬ ((100 : Int32) = 115) by decide), if_neg (show ¬ ((100 : Int32) = 102) by decide), if_neg (show ¬ ((100 : Int32) = 107) by decide), if_neg (show ¬ ((100 : Int32) = 103) by decide), if_neg hf, if_pos hg]
          rw [eT]
          exact (Qx_Ip_charge100G hI m hw.2 hf hg).mono (by decide) (by decide) (fun o w1 h => ⟨zri.th h.1 (by simp), u, rfl, ⟨_, h.2⟩⟩)
        · have eT : (tK_Ip_charge 100 m t) = (zup t.1 [(37, ((upd ((t.1 37).1) 0 (((t.1 37).1 0) + m)), (t.1 37).2.1, (t.1 37).2.2)), (38, ((t.1 38).1, mvT ((t.1 48).2.1) m ((t.1 47).1 0) ((t.1 38).2.1) 4, (t.1 38).2.2)), (47, ((upd ((t.1 47).1) 0 (((t.1 47).1 0) - m)), (t.1 47).2.1, (t.1 47).2.2)), (48, ((t.1 48).1, mvS ((t.1 48).2.1) m ((t.1 47).1 0) 4, (t.1 48).2.2))], t.2) := by unfold tK_Ip_charge; rw [if_pos hw, if_neg (show ¬ ((100 : Int32) = 112) by decide), if_neg (show ¬ ((100 : Int32) = 115) by decide), if_neg (show ¬ ((100 : Int32) = 102) by decide), if_neg (show ¬ ((100 : Int32) = 107) by decide), if_neg (show ¬ ((100 : Int32) = 103) by decide), if_neg hf, if_neg hg]
          rw [eT]
          exact (Qx_Ip_charge100N hI m hw.2 hf hg).mono (by decide) (by decide) (fun o w1 h => ⟨zri.vl h.1, u, rfl, IVm.zu h.2⟩)
  · have eT : (tK_Ip_charge k m t) = t := by unfold tK_Ip_charge; rw [if_neg hw]
    rw [eT]
    exact (Qx_Ip_chargeE hI m k hw).mono (by decide) (by decide) (fun o w1 h => ⟨zri.th h.1 (by simp), u, rfl, ⟨_, h.2⟩⟩)
set_option maxHeartbeats 4000000 in
theorem Qx_Ip_furnaceE {g : zG} {ad : Nat → Nat} {t : zTT} {u : zNN} {w : zW} (hI : IV g ad t u w) (k : Int32) (hk : z_ix 2 k < 0) : zMB g M_Ip_furnace [.ref (ad 0), .int k] w (fun o w1 => o = .inr "java/lang/IllegalArgumentException" ∧ IV g ad t u w1) 1 6 := by
  obtain ⟨e_a, w_a, k_a⟩ := hI.1.2 0 (by decide)
  obtain rfl := kd_0.mp k_a
  obtain ⟨e_fu, w_fu, k_fu⟩ := hI.1.2 36 (by decide)
  obtain rfl := kd_36.mp k_fu
  obtain ⟨e_fub, w_fub, k_fub⟩ := hI.1.2 37 (by decide)
  obtain rfl := kd_37.mp k_fub
  obtain ⟨e_fubg, w_fubg, k_fubg⟩ := hI.1.2 38 (by decide)
  obtain rfl := kd_38.mp k_fubg
  refine ((C_Ip_furnaceE g (ad 0) (ad 1) (ad 5) (ad 18) (ad 31) (ad 32) (ad 36) (ad 42) (ad 45) (ad 47) (ad 49) (ad 50) (ad 51) (ad 37) (ad 38) (ad 39) (ad 40) (ad 41) ((t.1 38).2.1) ((t.1 37).1 0) ((t.1 36).2.1 0) k hk).at (hI.1.I [0, 36, 37, 38] _ rfl (by decide) (by decide) (List.forall_mem_cons.mpr ⟨w_a, (List.forall_mem_cons.mpr ⟨w_fu, (List.forall_mem_cons.mpr ⟨w_fub, (List.forall_mem_cons.mpr ⟨w_fubg, (fun _ h => nomatch h)⟩)⟩)⟩)⟩))).mono (Nat.le_of_ble_eq_true rfl) (Nat.le_of_ble_eq_true rfl) (fun o w1 hp => ?_)
  obtain ⟨cs1, hp, hi9⟩ := hp
  obtain ⟨e1, e2⟩ := hp
  subst e1; subst e2
  exact ⟨rfl, hI.fix (t2 := t) (is := [0, 36, 37, 38]) hi9 rfl ⟨kd_0.mpr rfl, kd_36.mpr rfl, kd_37.mpr rfl, kd_38.mpr rfl, trivial⟩ (by decide) (by decide) (fun _ _ _ => rfl) (fun h => h) rfl⟩
set_option maxHeartbeats 4000000 in
theorem Qx_Ip_furnaceF {g : zG} {ad : Nat → Nat} {t : zTT} {u : zNN} {w : zW} (hI : IV g ad t u w) (k : Int32) (e : Nat) (he : e < 4) (hk : z_ix 2 k = nI e) (hi : ((t.1 37).1 0) ≤ 0) : zMB g M_Ip_furnace [.ref (ad 0), .int k] w (fun o w1 => o = .inr "java/util/NoSuchElementException" ∧ IV g ad t u w1) 2 12 := by
  obtain ⟨e_a, w_a, k_a⟩ := hI.1.2 0 (by decide)
  obtain rfl := kd_0.mp k_a
  obtain ⟨e_fu, w_fu, k_fu⟩ := hI.1.2 36 (by decide)
  obtain rfl := kd_36.mp k_fu
  obtain ⟨e_fub, w_fub, k_fub⟩ := hI.1.2 37 (by decide)
  obtain rfl := kd_37.mp k_fub
  obtain ⟨e_fubg, w_fubg, k_fubg⟩ := hI.1.2 38 (by decide)
  obtain rfl := kd_38.mp k_fubg
  refine ((C_Ip_furnaceF g (ad 0) (ad 1) (ad 5) (ad 18) (ad 31) (ad 32) (ad 36) (ad 42) (ad 45) (ad 47) (ad 49) (ad 50) (ad 51) (ad 37) (ad 38) (ad 39) (ad 40) (ad 41) ((t.1 38).2.1) ((t.1 37).1 0) ((t.1 36).2.1 0) k e he hk hi).at (hI.1.I [0, 36, 37, 38] _ rfl (by decide) (by decide) (List.forall_mem_cons.mpr ⟨w_a, (List.forall_mem_cons.mpr ⟨w_fu, (List.forall_mem_cons.mpr ⟨w_fub, (List.forall_mem_cons.mpr ⟨w_fubg, (fun _ h => nomatch h)⟩)⟩)⟩)⟩))).mono (Nat.le_of_ble_eq_true rfl) (Nat.le_of_ble_eq_true rfl) (fun o w1 hp => ?_)
  obtain ⟨cs1, hp, hi9⟩ := hp
  obtain ⟨e1, e2⟩ := hp
  subst e1; subst e2
  exact ⟨rfl, hI.fix (t2 := t) (is := [0, 36, 37, 38]) hi9 rfl ⟨kd_0.mpr rfl, kd_36.mpr rfl, kd_37.mpr rfl, kd_38.mpr rfl, trivial⟩ (by decide) (by decide) (fun _ _ _ => rfl) (fun h => h) rfl⟩
set_option maxHeartbeats 4000000 in
theorem Qx_Ip_furnaceN {g : zG} {ad : Nat → Nat} {t : zTT} {u : zNN} {w : zW} (hI : IV g ad t u w) (k : Int32) (e : Nat) (he : e < 4) (hk : z_ix 2 k = nI e) (hi : ¬ ((t.1 37).1 0) ≤ 0) : zMB g M_Ip_furnace [.ref (ad 0), .int k] w (fun o w1 => o = .inl (some (.int (poI ((t.1 38).2.1) ((t.1 37).1 0) e))) ∧ IV g ad t u w1) 2 12 := by
  obtain ⟨e_a, w_a, k_a⟩ := hI.1.2 0 (by decide)
  obtain rfl := kd_0.mp k_a
  obtain ⟨e_fu, w_fu, k_fu⟩ := hI.1.2 36 (by decide)
  obtain rfl := kd_36.mp k_fu
  obtain ⟨e_fub, w_fub, k_fub⟩ := hI.1.2 37 (by decide)
  obtain rfl := kd_37.mp k_fub
  obtain ⟨e_fubg, w_fubg, k_fubg⟩ := hI.1.2 38 (by decide)
  obtain rfl := kd_38.mp k_fubg
  refine ((C_Ip_furnaceN g (ad 0) (ad 1) (ad 5) (ad 18) (ad 31) (ad 32) (ad 36) (ad 42) (ad 45) (ad 47) (ad 49) (ad 50) (ad 51) (ad 37) (ad 38) (ad 39) (ad 40) (ad 41) ((t.1 38).2.1) ((t.1 37).1 0) ((t.1 36).2.1 0) k e he hk hi).at (hI.1.I [0, 36, 37, 38] _ rfl (by decide) (by decide) (List.forall_mem_cons.mpr ⟨w_a, (List.forall_mem_cons.mpr ⟨w_fu, (List.forall_mem_cons.mpr ⟨w_fub, (List.forall_mem_cons.mpr ⟨w_fubg, (fun _ h => nomatch h)⟩)⟩)⟩)⟩))).mono (Nat.le_of_ble_eq_true rfl) (Nat.le_of_ble_eq_true rfl) (fun o w1 hp => ?_)
  obtain ⟨cs1, hp, hi9⟩ := hp
  obtain ⟨e1, e2⟩ := hp
  subst e1; subst e2
  exact ⟨rfl, hI.fix (t2 := t) (is := [0, 36, 37, 38]) hi9 rfl ⟨kd_0.mpr rfl, kd_36.mpr rfl, kd_37.mpr rfl, kd_38.mpr rfl, trivial⟩ (by decide) (by decide) (fun _ _ _ => rfl) (fun h => h) rfl⟩
theorem K_Ip_furnace {g : zG} {ad : Nat → Nat} {t : zTT} {u : zNN} {w : zW} (hI : IVm g ad t u w) (k : Int32) : zMB g M_Ip_furnace [.ref (ad 0), .int k] w (CKx g ad t u.1 ["java/lang/IllegalArgumentException", "java/util/NoSuchElementException"]) 10 300 := by
  obtain ⟨s, hI⟩ := hI
  by_cases hk : z_ix 2 k < 0
  · exact (Qx_Ip_furnaceE hI k hk).mono (by decide) (by decide) (fun o w1 h => ⟨zri.th h.1 (by simp), u, rfl, ⟨_, h.2⟩⟩)
  · obtain ⟨e9, he9, h2⟩ := z_ix2 hk
    by_cases hi : (t.1 37).1 0 ≤ 0
    · exact (Qx_Ip_furnaceF hI k e9 he9 h2 hi).mono (by decide) (by decide) (fun o w1 h => ⟨zri.th h.1 (by simp), u, rfl, ⟨_, h.2⟩⟩)
    · exact (Qx_Ip_furnaceN hI k e9 he9 h2 hi).mono (by decide) (by decide) (fun o w1 h => ⟨zri.vl h.1, u, rfl, ⟨_, h.2⟩⟩)
set_option maxHeartbeats 4000000 in
theorem Qx_Ip_holdN {g : zG} {ad : Nat → Nat} {t : zTT} {u : zNN} {w : zW} (hI : IV g ad t u w) (m : Nat) (hm : m < 1000) (hw : (1 ≤ nI m ∧ nI m ≤ 120)) : zMB g M_Ip_hold [.ref (ad 0), .int (nI m)] w (fun o w1 => o = .inl (some (.int (((lmS (((t.1 38).2.1), ((t.1 41).2.1)) m).1 0).toInt32))) ∧ IV g ad (zup t.1 [(38, ((t.1 38).1, (lmS (((t.1 38).2.1), ((t.1 41).2.1)) m).1, (t.1 38).2.2)), (41, ((t.1 41).1, (lmS (((t.1 38).2.1), ((t.1 41).2.1)) m).2, (t.1 41).2.2))], t.2) u w1) 1 6 := by
  obtain ⟨e_a, w_a, k_a⟩ := hI.1.2 0 (by decide)
  obtain rfl := kd_0.mp k_a
  obtain ⟨e_fu, w_fu, k_fu⟩ := hI.1.2 36 (by decide)
  obtain rfl := kd_36.mp k_fu
  obtain ⟨e_fub, w_fub, k_fub⟩ := hI.1.2 37 (by decide)
  obtain rfl := kd_37.mp k_fub
  obtain ⟨e_fubg, w_fubg, k_fubg⟩ := hI.1.2 38 (by decide)
  obtain rfl := kd_38.mp k_fubg
  obtain ⟨e_fut1, w_fut1, k_fut1⟩ := hI.1.2 39 (by decide)
  obtain rfl := kd_39.mp k_fut1
  obtain ⟨e_fut2, w_fut2, k_fut2⟩ := hI.1.2 40 (by decide)
  obtain rfl := kd_40.mp k_fut2
  obtain ⟨e_fut3, w_fut3, k_fut3⟩ := hI.1.2 41 (by decide)
  obtain rfl := kd_41.mp k_fut3
  refine ((C_Ip_holdN g (ad 0) (ad 1) (ad 5) (ad 18) (ad 31) (ad 32) (ad 36) (ad 42) (ad 45) (ad 47) (ad 49) (ad 50) (ad 51) (ad 37) (ad 38) (ad 39) (ad 40) (ad 41) ((t.1 38).2.1) ((t.1 39).2.1) ((t.1 40).2.1) ((t.1 41).2.1) ((t.1 37).1 0) ((t.1 36).2.1 0) m hm hw).at (hI.1.I [0, 36, 37, 38, 39, 40, 41] _ rfl (by decide) (by decide) (List.forall_mem_cons.mpr ⟨w_a, (List.forall_mem_cons.mpr ⟨w_fu, (List.forall_mem_cons.mpr ⟨w_fub, (List.forall_mem_cons.mpr ⟨w_fubg, (List.forall_mem_cons.mpr ⟨w_fut1, (List.forall_mem_cons.mpr ⟨w_fut2, (List.forall_mem_cons.mpr ⟨w_fut3, (fun _ h => nomatch h)⟩)⟩)⟩)⟩)⟩)⟩)⟩))).mono (Nat.le_of_ble_eq_true rfl) (Nat.le_of_ble_eq_true rfl) (fun o w1 hp => ?_)
  obtain ⟨cs1, hp, hi9⟩ := hp
  obtain ⟨e1, e2⟩ := hp
  subst e1; subst e2
  exact ⟨rfl, hI.fix (t2 := (zup t.1 [(38, ((t.1 38).1, (lmS (((t.1 38).2.1), ((t.1 41).2.1)) m).1, (t.1 38).2.2)), (41, ((t.1 41).1, (lmS (((t.1 38).2.1), ((t.1 41).2.1)) m).2, (t.1 41).2.2))], t.2)) (is := [0, 36, 37, 38, 39, 40, 41]) hi9 rfl ⟨kd_0.mpr rfl, kd_36.mpr rfl, kd_37.mpr rfl, kd_38.mpr rfl, kd_39.mpr rfl, kd_40.mpr rfl, kd_41.mpr rfl, trivial⟩ (by decide) (by decide) (fun i hi hn => zup_out (fun q => hn ((by decide : ∀ j ∈ ([38, 41] : List Nat), j ∈ ([0, 36, 37, 38, 39, 40, 41] : List Nat)) i q))) (fun h => h) rfl⟩
set_option maxHeartbeats 4000000 in
theorem Qx_Ip_holdE {g : zG} {ad : Nat → Nat} {t : zTT} {u : zNN} {w : zW} (hI : IV g ad t u w) (h : Int32) (hw : ¬ (1 ≤ h ∧ h ≤ 120)) : zMB g M_Ip_hold [.ref (ad 0), .int h] w (fun o w1 => o = .inr "java/lang/IllegalArgumentException" ∧ IV g ad t u w1) 1 6 := by
  obtain ⟨e_a, w_a, k_a⟩ := hI.1.2 0 (by decide)
  obtain rfl := kd_0.mp k_a
  obtain ⟨e_fu, w_fu, k_fu⟩ := hI.1.2 36 (by decide)
  obtain rfl := kd_36.mp k_fu
  obtain ⟨e_fub, w_fub, k_fub⟩ := hI.1.2 37 (by decide)
  obtain rfl := kd_37.mp k_fub
  obtain ⟨e_fubg, w_fubg, k_fubg⟩ := hI.1.2 38 (by decide)
  obtain rfl := kd_38.mp k_fubg
  obtain ⟨e_fut1, w_fut1, k_fut1⟩ := hI.1.2 39 (by decide)
  obtain rfl := kd_39.mp k_fut1
  obtain ⟨e_fut2, w_fut2, k_fut2⟩ := hI.1.2 40 (by decide)
  obtain rfl := kd_40.mp k_fut2
  obtain ⟨e_fut3, w_fut3, k_fut3⟩ := hI.1.2 41 (by decide)
  obtain rfl := kd_41.mp k_fut3
  refine ((C_Ip_holdE g (ad 0) (ad 1) (ad 5) (ad 18) (ad 31) (ad 32) (ad 36) (ad 42) (ad 45) (ad 47) (ad 49) (ad 50) (ad 51) (ad 37) (ad 38) (ad 39) (ad 40) (ad 41) ((t.1 38).2.1) ((t.1 39).2.1) ((t.1 40).2.1) ((t.1 41).2.1) ((t.1 37).1 0) ((t.1 36).2.1 0) h hw).at (hI.1.I [0, 36, 37, 38, 39, 40, 41] _ rfl (by decide) (by decide) (List.forall_mem_cons.mpr ⟨w_a, (List.forall_mem_cons.mpr ⟨w_fu, (List.forall_mem_cons.mpr ⟨w_fub, (List.forall_mem_cons.mpr ⟨w_fubg, (List.forall_mem_cons.mpr ⟨w_fut1, (List.forall_mem_cons.mpr ⟨w_fut2, (List.forall_mem_cons.mpr ⟨w_fut3, (fun _ h => nomatch h)⟩)⟩)⟩)⟩)⟩)⟩)⟩))).mono (Nat.le_of_ble_eq_true rfl) (Nat.le_of_ble_eq_true rfl) (fun o w1 hp => ?_)
  obtain ⟨cs1, hp, hi9⟩ := hp
  obtain ⟨e1, e2⟩ := hp
  subst e1; subst e2
  exact ⟨rfl, hI.fix (t2 := t) (is := [0, 36, 37, 38, 39, 40, 41]) hi9 rfl ⟨kd_0.mpr rfl, kd_36.mpr rfl, kd_37.mpr rfl, kd_38.mpr rfl, kd_39.mpr rfl, kd_40.mpr rfl, kd_41.mpr rfl, trivial⟩ (by decide) (by decide) (fun _ _ _ => rfl) (fun h => h) rfl⟩
noncomputable def tK_Ip_hold (x : Int32) (t : zTT) : zTT := (if 1 ≤ x ∧ x ≤ 120 then (zup t.1 [(38, ((t.1 38).1, (lmS (((t.1 38).2.1), ((t.1 41).2.1)) x.toNatClampNeg).1, (t.1 38).2.2)), (41, ((t.1 41).1, (lmS (((t.1 38).2.1), ((t.1 41).2.1)) x.toNatClampNeg).2, (t.1 41).2.2))], t.2) else t)
