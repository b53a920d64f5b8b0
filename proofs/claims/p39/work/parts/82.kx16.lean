theorem K_Ip_hold {g : zG} {ad : Nat → Nat} {t : zTT} {u : zNN} {w : zW} (hI : IVm g ad t u w) (x : Int32) : zMB g M_Ip_hold [.ref (ad 0), .int x] w (CKx g ad (tK_Ip_hold x t) u.1 ["java/lang/IllegalArgumentException"]) 10 300 := by
  obtain ⟨s, hI⟩ := hI
  by_cases hw : 1 ≤ x ∧ x ≤ 120
  · obtain ⟨a9, ha9, e9⟩ := z_in20 (b := 120) (by decide) ⟨Int32.le_trans (by decide) hw.1, hw.2⟩
    subst e9
    have eT : (tK_Ip_hold (nI a9) t) = (zup t.1 [(38, ((t.1 38).1, (lmS (((t.1 38).2.1), ((t.1 41).2.1)) a9).1, (t.1 38).2.2)), (41, ((t.1 41).1, (lmS (((t.1 38).2.1), ((t.1 41).2.1)) a9).2, (t.1 41).2.2))], t.2) := by unfold tK_Ip_hold; rw [if_pos hw, nI_clamp (by omega)]
    rw [eT]
    exact (Qx_Ip_holdN hI a9 (by omega) hw).mono (by decide) (by decide) (fun o w1 h => ⟨zri.vl h.1, u, rfl, IVm.zu h.2⟩)
  · have eT : (tK_Ip_hold x t) = t := by unfold tK_Ip_hold; rw [if_neg hw]
    rw [eT]
    exact (Qx_Ip_holdE hI x hw).mono (by decide) (by decide) (fun o w1 h => ⟨zri.th h.1 (by simp), u, rfl, ⟨_, h.2⟩⟩)
set_option maxHeartbeats 4000000 in
theorem Qx_Ip_tapG {g : zG} {ad : Nat → Nat} {t : zTT} {u : zNN} {w : zW} (hI : IV g ad t u w) (m : Int32) (hw : (1 ≤ m ∧ m ≤ 500)) (he0 : ((t.1 43).1 0) = 0) (hg : ((t.1 37).1 0) < m) : zMB g M_Ip_tap [.ref (ad 0), .int m] w (fun o w1 => o = .inr "java/lang/UnsupportedOperationException" ∧ IV g ad t u w1) 1 6 := by
  obtain ⟨e_a, w_a, k_a⟩ := hI.1.2 0 (by decide)
  obtain rfl := kd_0.mp k_a
  obtain ⟨e_la, w_la, k_la⟩ := hI.1.2 42 (by decide)
  obtain ⟨c_la_0, rfl⟩ := kd_42.mp k_la
  obtain ⟨e_lab, w_lab, k_lab⟩ := hI.1.2 43 (by decide)
  obtain ⟨c_lab_0, rfl⟩ := kd_43.mp k_lab
  obtain ⟨e_labg, w_labg, k_labg⟩ := hI.1.2 44 (by decide)
  obtain rfl := kd_44.mp k_labg
  obtain ⟨e_fu, w_fu, k_fu⟩ := hI.1.2 36 (by decide)
  obtain rfl := kd_36.mp k_fu
  obtain ⟨e_fub, w_fub, k_fub⟩ := hI.1.2 37 (by decide)
  obtain rfl := kd_37.mp k_fub
  obtain ⟨e_fubg, w_fubg, k_fubg⟩ := hI.1.2 38 (by decide)
  obtain rfl := kd_38.mp k_fubg
  refine ((C_Ip_tapG g (ad 0) (ad 1) (ad 5) (ad 18) (ad 31) (ad 32) (ad 36) (ad 42) (ad 45) (ad 47) (ad 49) (ad 50) (ad 51) (ad 43) (ad 44) (ad 37) (ad 38) (ad 39) (ad 40) (ad 41) ((t.1 44).2.1) ((t.1 38).2.1) ((t.1 42).1 0) ((t.1 42).1 1) ((t.1 42).1 2) ((t.1 43).1 0) ((t.1 37).1 0) ((t.1 36).2.1 0) m hw he0 hg).at (hI.1.I [0, 42, 43, 44, 36, 37, 38] _ rfl (by decide) (by decide) (List.forall_mem_cons.mpr ⟨w_a, (List.forall_mem_cons.mpr ⟨w_la, (List.forall_mem_cons.mpr ⟨w_lab, (List.forall_mem_cons.mpr ⟨w_labg, (List.forall_mem_cons.mpr ⟨w_fu, (List.forall_mem_cons.mpr ⟨w_fub, (List.forall_mem_cons.mpr ⟨w_fubg, (fun _ h => nomatch h)⟩)⟩)⟩)⟩)⟩)⟩)⟩))).mono (Nat.le_of_ble_eq_true rfl) (Nat.le_of_ble_eq_true rfl) (fun o w1 hp => ?_)
  obtain ⟨cs1, hp, hi9⟩ := hp
  obtain ⟨e1, e2⟩ := hp
  subst e1; subst e2
  exact ⟨rfl, hI.fix (t2 := t) (is := [0, 42, 43, 44, 36, 37, 38]) hi9 rfl ⟨kd_0.mpr rfl, kd_42.mpr ⟨c_la_0, rfl⟩, kd_43.mpr ⟨c_lab_0, rfl⟩, kd_44.mpr rfl, kd_36.mpr rfl, kd_37.mpr rfl, kd_38.mpr rfl, trivial⟩ (by decide) (by decide) (fun _ _ _ => rfl) (fun h => h) rfl⟩
set_option maxHeartbeats 4000000 in
theorem Qx_Ip_tapN {g : zG} {ad : Nat → Nat} {t : zTT} {u : zNN} {w : zW} (hI : IV g ad t u w) (m : Int32) (hw : (1 ≤ m ∧ m ≤ 500)) (he0 : ((t.1 43).1 0) = 0) (hg : ¬ ((t.1 37).1 0) < m) : zMB g M_Ip_tap [.ref (ad 0), .int m] w (fun o w1 => o = .inl (some (.int (((t.1 37).1 0) - m))) ∧ IV g ad (zup t.1 [(42, ((upd (upd (upd ((t.1 42).1) 0 1450) 1 0) 2 0), (t.1 42).2.1, (t.1 42).2.2)), (43, ((upd ((t.1 43).1) 0 (((t.1 43).1 0) + m)), (t.1 43).2.1, (t.1 43).2.2)), (44, ((t.1 44).1, mvT ((t.1 38).2.1) m ((t.1 37).1 0) ((t.1 44).2.1) 4, (t.1 44).2.2)), (37, ((upd ((t.1 37).1) 0 (((t.1 37).1 0) - m)), (t.1 37).2.1, (t.1 37).2.2)), (38, ((t.1 38).1, mvS ((t.1 38).2.1) m ((t.1 37).1 0) 4, (t.1 38).2.2))], t.2) u w1) 1 6 := by
  obtain ⟨e_a, w_a, k_a⟩ := hI.1.2 0 (by decide)
  obtain rfl := kd_0.mp k_a
  obtain ⟨e_la, w_la, k_la⟩ := hI.1.2 42 (by decide)
  obtain ⟨c_la_0, rfl⟩ := kd_42.mp k_la
  obtain ⟨e_lab, w_lab, k_lab⟩ := hI.1.2 43 (by decide)
  obtain ⟨c_lab_0, rfl⟩ := kd_43.mp k_lab
  obtain ⟨e_labg, w_labg, k_labg⟩ := hI.1.2 44 (by decide)
  obtain rfl := kd_44.mp k_labg
  obtain ⟨e_fu, w_fu, k_fu⟩ := hI.1.2 36 (by decide)
  obtain rfl := kd_36.mp k_fu
  obtain ⟨e_fub, w_fub, k_fub⟩ := hI.1.2 37 (by decide)
  obtain rfl := kd_37.mp k_fub
  obtain ⟨e_fubg, w_fubg, k_fubg⟩ := hI.1.2 38 (by decide)
  obtain rfl := kd_38.mp k_fubg
  refine ((C_Ip_tapN g (ad 0) (ad 1) (ad 5) (ad 18) (ad 31) (ad 32) (ad 36) (ad 42) (ad 45) (ad 47) (ad 49) (ad 50) (ad 51) (ad 43) (ad 44) (ad 37) (ad 38) (ad 39) (ad 40) (ad 41) ((t.1 44).2.1) ((t.1 38).2.1) ((t.1 42).1 0) ((t.1 42).1 1) ((t.1 42).1 2) ((t.1 43).1 0) ((t.1 37).1 0) ((t.1 36).2.1 0) m hw he0 hg (z_ge1 hw.1 hg)).at (hI.1.I [0, 42, 43, 44, 36, 37, 38] _ rfl (by decide) (by decide) (List.forall_mem_cons.mpr ⟨w_a, (List.forall_mem_cons.mpr ⟨w_la, (List.forall_mem_cons.mpr ⟨w_lab, (List.forall_mem_cons.mpr ⟨w_labg, (List.forall_mem_cons.mpr ⟨w_fu, (List.forall_mem_cons.mpr ⟨w_fub, (List.forall_mem_cons.mpr ⟨w_fubg, (fun _ h => nomatch h)⟩)⟩)⟩)⟩)⟩)⟩)⟩))).mono (Nat.le_of_ble_eq_true rfl) (Nat.le_of_ble_eq_true rfl) (fun o w1 hp => ?_)
  obtain ⟨cs1, hp, hi9⟩ := hp
  obtain ⟨e1, e2⟩ := hp
  subst e1; subst e2
  exact ⟨rfl, hI.fix (t2 := (zup t.1 [(42, ((upd (upd (upd ((t.1 42).1) 0 1450) 1 0) 2 0), (t.1 42).2.1, (t.1 42).2.2)), (43, ((upd ((t.1 43).1) 0 (((t.1 43).1 0) + m)), (t.1 43).2.1, (t.1 43).2.2)), (44, ((t.1 44).1, mvT ((t.1 38).2.1) m ((t.1 37).1 0) ((t.1 44).2.1) 4, (t.1 44).2.2)), (37, ((upd ((t.1 37).1) 0 (((t.1 37).1 0) - m)), (t.1 37).2.1, (t.1 37).2.2)), (38, ((t.1 38).1, mvS ((t.1 38).2.1) m ((t.1 37).1 0) 4, (t.1 38).2.2))], t.2)) (is := [0, 42, 43, 44, 36, 37, 38]) hi9 rfl ⟨kd_0.mpr rfl, kd_42.mpr ⟨Or.inl rfl, rfl⟩, kd_43.mpr ⟨(show 0 ≤ ((t.1 43).1 0) + m from by rw [he0, Int32.zero_add]; exact Int32.le_trans (by decide) hw.1), rfl⟩, kd_44.mpr rfl, kd_36.mpr rfl, kd_37.mpr rfl, kd_38.mpr rfl, trivial⟩ (by decide) (by decide) (fun i hi hn => zup_out (fun q => hn ((by decide : ∀ j ∈ ([42, 43, 44, 37, 38] : List Nat), j ∈ ([0, 42, 43, 44, 36, 37, 38] : List Nat)) i q))) (fun h => h) rfl⟩
set_option maxHeartbeats 4000000 in
theorem Qx_Ip_tapF {g : zG} {ad : Nat → Nat} {t : zTT} {u : zNN} {w : zW} (hI : IV g ad t u w) (m : Int32) (hw : (1 ≤ m ∧ m ≤ 500)) (he0 : ¬ ((t.1 43).1 0) = 0) : zMB g M_Ip_tap [.ref (ad 0), .int m] w (fun o w1 => o = .inr "java/lang/IllegalStateException" ∧ IV g ad t u w1) 1 6 := by
  obtain ⟨e_a, w_a, k_a⟩ := hI.1.2 0 (by decide)
  obtain rfl := kd_0.mp k_a
  obtain ⟨e_la, w_la, k_la⟩ := hI.1.2 42 (by decide)
  obtain ⟨c_la_0, rfl⟩ := kd_42.mp k_la
  obtain ⟨e_lab, w_lab, k_lab⟩ := hI.1.2 43 (by decide)
  obtain ⟨c_lab_0, rfl⟩ := kd_43.mp k_lab
  obtain ⟨e_labg, w_labg, k_labg⟩ := hI.1.2 44 (by decide)
  obtain rfl := kd_44.mp k_labg
  obtain ⟨e_fu, w_fu, k_fu⟩ := hI.1.2 36 (by decide)
  obtain rfl := kd_36.mp k_fu
  obtain ⟨e_fub, w_fub, k_fub⟩ := hI.1.2 37 (by decide)
  obtain rfl := kd_37.mp k_fub
  obtain ⟨e_fubg, w_fubg, k_fubg⟩ := hI.1.2 38 (by decide)
  obtain rfl := kd_38.mp k_fubg
  refine ((C_Ip_tapF g (ad 0) (ad 1) (ad 5) (ad 18) (ad 31) (ad 32) (ad 36) (ad 42) (ad 45) (ad 47) (ad 49) (ad 50) (ad 51) (ad 43) (ad 44) (ad 37) (ad 38) (ad 39) (ad 40) (ad 41) ((t.1 44).2.1) ((t.1 38).2.1) ((t.1 42).1 0) ((t.1 42).1 1) ((t.1 42).1 2) ((t.1 43).1 0) ((t.1 37).1 0) ((t.1 36).2.1 0) m hw he0).at (hI.1.I [0, 42, 43, 44, 36, 37, 38] _ rfl (by decide) (by decide) (List.forall_mem_cons.mpr ⟨w_a, (List.forall_mem_cons.mpr ⟨w_la, (List.forall_mem_cons.mpr ⟨w_lab, (List.forall_mem_cons.mpr ⟨w_labg, (List.forall_mem_cons.mpr ⟨w_fu, (List.forall_mem_cons.mpr ⟨w_fub, (List.forall_mem_cons.mpr ⟨w_fubg, (fun _ h => nomatch h)⟩)⟩)⟩)⟩)⟩)⟩)⟩))).mono (Nat.le_of_ble_eq_true rfl) (Nat.le_of_ble_eq_true rfl) (fun o w1 hp => ?_)
  obtain ⟨cs1, hp, hi9⟩ := hp
  obtain ⟨e1, e2⟩ := hp
  subst e1; subst e2
  exact ⟨rfl, hI.fix (t2 := t) (is := [0, 42, 43, 44, 36, 37, 38]) hi9 rfl ⟨kd_0.mpr rfl, kd_42.mpr ⟨c_la_0, rfl⟩, kd_43.mpr ⟨c_lab_0, rfl⟩, kd_44.mpr rfl, kd_36.mpr rfl, kd_37.mpr rfl, kd_38.mpr rfl, trivial⟩ (by decide) (by decide) (fun _ _ _ => rfl) (fun h => h) rfl⟩
set_option maxHeartbeats 4000000 in
theorem Qx_Ip_tapE {g : zG} {ad : Nat → Nat} {t : zTT} {u : zNN} {w : zW} (hI : IV g ad t u w) (m : Int32) (hw : ¬ (1 ≤ m ∧ m ≤ 500)) : zMB g M_Ip_tap [.ref (ad 0), .int m] w (fun o w1 => o = .inr "java/lang/IllegalArgumentException" ∧ IV g ad t u w1) 1 6 := by
  obtain ⟨e_a, w_a, k_a⟩ := hI.1.2 0 (by decide)
  obtain rfl := kd_0.mp k_a
  obtain ⟨e_la, w_la, k_la⟩ := hI.1.2 42 (by decide)
  obtain ⟨c_la_0, rfl⟩ := kd_42.mp k_la
  obtain ⟨e_lab, w_lab, k_lab⟩ := hI.1.2 43 (by decide)
  obtain ⟨c_lab_0, rfl⟩ := kd_43.mp k_lab
  obtain ⟨e_labg, w_labg, k_labg⟩ := hI.1.2 44 (by decide)
  obtain rfl := kd_44.mp k_labg
  obtain ⟨e_fu, w_fu, k_fu⟩ := hI.1.2 36 (by decide)
  obtain rfl := kd_36.mp k_fu
  obtain ⟨e_fub, w_fub, k_fub⟩ := hI.1.2 37 (by decide)
  obtain rfl := kd_37.mp k_fub
  obtain ⟨e_fubg, w_fubg, k_fubg⟩ := hI.1.2 38 (by decide)
  obtain rfl := kd_38.mp k_fubg
  refine ((C_Ip_tapE g (ad 0) (ad 1) (ad 5) (ad 18) (ad 31) (ad 32) (ad 36) (ad 42) (ad 45) (ad 47) (ad 49) (ad 50) (ad 51) (ad 43) (ad 44) (ad 37) (ad 38) (ad 39) (ad 40) (ad 41) ((t.1 44).2.1) ((t.1 38).2.1) ((t.1 42).1 0) ((t.1 42).1 1) ((t.1 42).1 2) ((t.1 43).1 0) ((t.1 37).1 0) ((t.1 36).2.1 0) m hw).at (hI.1.I [0, 42, 43, 44, 36, 37, 38] _ rfl (by decide) (by decide) (List.forall_mem_cons.mpr ⟨w_a, (List.forall_mem_cons.mpr ⟨w_la, (List.forall_mem_cons.mpr ⟨w_lab, (List.forall_mem_cons.mpr ⟨w_labg, (List.forall_mem_cons.mpr ⟨w_fu, (List.forall_mem_cons.mpr ⟨w_fub, (List.forall_mem_cons.mpr ⟨w_fubg, (fun _ h => nomatch h)⟩)⟩)⟩)⟩)⟩)⟩)⟩))).mono (Nat.le_of_ble_eq_true rfl) (Nat.le_of_ble_eq_true rfl) (fun o w1 hp => ?_)
  obtain ⟨cs1, hp, hi9⟩ := hp
  obtain ⟨e1, e2⟩ := hp
  subst e1; subst e2
  exact ⟨rfl, hI.fix (t2 := t) (is := [0, 42, 43, 44, 36, 37, 38]) hi9 rfl ⟨kd_0.mpr rfl, kd_42.mpr ⟨c_la_0, rfl⟩, kd_43.mpr ⟨c_lab_0, rfl⟩, kd_44.mpr rfl, kd_36.mpr rfl, kd_37.mpr rfl, kd_38.mpr rfl, trivial⟩ (by decide) (by decide) (fun _ _ _ => rfl) (fun h => h) rfl⟩
noncomputable def tK_Ip_tap (m : Int32) (t : zTT) : zTT := (if 1 ≤ m ∧ m ≤ 500 then (if (t.1 43).1 0 = 0 then (if (t.1 37).1 0 < m then t else (zup t.1 [(42, ((upd (upd (upd ((t.1 42).1) 0 1450) 1 0) 2 0), (t.1 42).2.1, (t.1 42).2.2)), (43, ((upd ((t.1 43).1) 0 (((t.1 43).1 0) + m)), (t.1 43).2.1, (t.1 43).2.2)), (44, ((t.1 44).1, mvT ((t.1 38).2.1) m ((t.1 37).1 0) ((t.1 44).2.1) 4, (t.1 44).2.2)), (37, ((upd ((t.1 37).1) 0 (((t.1 37).1 0) - m)), (t.1 37).2.1, (t.1 37).2.2)), (38, ((t.1 38).1, mvS ((t.1 38).2.1) m ((t.1 37).1 0) 4, (t.1 38).2.2))], t.2)) else t) else t)
theorem K_Ip_tap {g : zG} {ad : Nat → Nat} {t : zTT} {u : zNN} {w : zW} (hI : IVm g ad t u w) (m : Int32) : zMB g M_Ip_tap [.ref (ad 0), .int m] w (CKx g ad (tK_Ip_tap m t) u.1 ["java/lang/IllegalArgumentException", "java/lang/IllegalStateException", "java/lang/UnsupportedOperationException"]) 10 300 := by
  obtain ⟨s, hI⟩ := hI
  by_cases hw : 1 ≤ m ∧ m ≤ 500
  · by_cases he0 : (t.1 43).1 0 = 0
    · by_cases hg : (t.1 37).1 0 < m
      · have eT : (tK_Ip_tap m t) = t := by unfold tK_Ip_tap; rw [if_pos hw, if_pos he0, if_pos hg]
        rw [eT]
        exact (Qx_Ip_tapG hI m hw he0 hg).mono (by decide) (by decide) (fun o w1 h => ⟨zri.th h.1 (by simp), u, rfl, ⟨_, h.2⟩⟩)
      · have eT : (tK_Ip_tap m t) = (zup t.1 [(42, ((upd (upd (upd ((t.1 42).1) 0 1450) 1 0) 2 0), (t.1 42).2.1, (t.1 42).2.2)), (43, ((upd ((t.1 43).1) 0 (((t.1 43).1 0) + m)), (t.1 43).2.1, (t.1 43).2.2)), (44, ((t.1 44).1, mvT ((t.1 38).2.1) m ((t.1 37).1 0) ((t.1 44).2.1) 4, (t.1 44).2.2)), (37, ((upd ((t.1 37).1) 0 (((t.1 37).1 0) - m)), (t.1 37).2.1, (t.1 37).2.2)), (38, ((t.1 38).1, mvS ((t.1 38).2.1) m ((t.1 37).1 0) 4, (t.1 38).2.2))], t.2) := by unfold tK_Ip_tap; rw [if_pos hw, if_pos he0, if_neg hg]
        rw [eT]
        exact (Qx_Ip_tapN hI m hw he0 hg).mono (by decide) (by decide) (fun o w1 h => ⟨zri.vl h.1, u, rfl, IVm.zu h.2⟩)
    · have eT : (tK_Ip_tap m t) = t := by unfold tK_Ip_tap; rw [if_pos hw, if_neg he0]
      rw [eT]
      exact (Qx_Ip_tapF hI m hw he0).mono (by decide) (by decide) (fun o w1 h => ⟨zri.th h.1 (by simp), u, rfl, ⟨_, h.2⟩⟩)
  · have eT : (tK_Ip_tap m t) = t := by unfold tK_Ip_tap; rw [if_neg hw]
    rw [eT]
    exact (Qx_Ip_tapE hI m hw).mono (by decide) (by decide) (fun o w1 h => ⟨zri.th h.1 (by simp), u, rfl, ⟨_, h.2⟩⟩)
set_option maxHeartbeats 4000000 in
theorem Qx_Ip_treatF {g : zG} {ad : Nat → Nat} {t : zTT} {u : zNN} {w : zW} (hI : IV g ad t u w) (m : Int32) (hw : (1 ≤ m ∧ m ≤ 100)) (he0 : ((t.1 43).1 0) = 0) : zMB g M_Ip_treat [.ref (ad 0), .int m] w (fun o w1 => o = .inr "java/lang/IllegalStateException" ∧ IV g ad t u w1) 1 6 := by
  obtain ⟨e_a, w_a, k_a⟩ := hI.1.2 0 (by decide)
  obtain rfl := kd_0.mp k_a
  obtain ⟨e_la, w_la, k_la⟩ := hI.1.2 42 (by decide)
  obtain ⟨c_la_0, rfl⟩ := kd_42.mp k_la
  obtain ⟨e_lab, w_lab, k_lab⟩ := hI.1.2 43 (by decide)
  obtain ⟨c_lab_0, rfl⟩ := kd_43.mp k_lab
  obtain ⟨e_labg, w_labg, k_labg⟩ := hI.1.2 44 (by decide)
  obtain rfl := kd_44.mp k_labg
  refine ((C_Ip_treatF g (ad 0) (ad 1) (ad 5) (ad 18) (ad 31) (ad 32) (ad 36) (ad 42) (ad 45) (ad 47) (ad 49) (ad 50) (ad 51) (ad 43) (ad 44) ((t.1 44).2.1) ((t.1 42).1 0) ((t.1 42).1 1) ((t.1 42).1 2) ((t.1 43).1 0) m hw he0).at (hI.1.I [0, 42, 43, 44] _ rfl (by decide) (by decide) (List.forall_mem_cons.mpr ⟨w_a, (List.forall_mem_cons.mpr ⟨w_la, (List.forall_mem_cons.mpr ⟨w_lab, (List.forall_mem_cons.mpr ⟨w_labg, (fun _ h => nomatch h)⟩)⟩)⟩)⟩))).mono (Nat.le_of_ble_eq_true rfl) (Nat.le_of_ble_eq_true rfl) (fun o w1 hp => ?_)
  obtain ⟨cs1, hp, hi9⟩ := hp
  obtain ⟨e1, e2⟩ := hp
  subst e1; subst e2
  exact ⟨rfl, hI.fix (t2 := t) (is := [0, 42, 43, 44]) hi9 rfl ⟨kd_0.mpr rfl, kd_42.mpr ⟨c_la_0, rfl⟩, kd_43.mpr ⟨c_lab_0, rfl⟩, kd_44.mpr rfl, trivial⟩ (by decide) (by decide) (fun _ _ _ => rfl) (fun h => h) rfl⟩
set_option maxHeartbeats 4000000 in
theorem Qx_Ip_treatN {g : zG} {ad : Nat → Nat} {t : zTT} {u : zNN} {w : zW} (hI : IV g ad t u w) (m : Int32) (hw : (1 ≤ m ∧ m ≤ 100)) (he0 : ¬ ((t.1 43).1 0) = 0) (hg : ((t.1 42).1 1) + m ≤ 100) : zMB g M_Ip_treat [.ref (ad 0), .int m] w (fun o w1 => o = .inl (some (.int (((t.1 42).1 1) + m))) ∧ IV g ad (zup t.1 [(42, ((upd (upd ((t.1 42).1) 1 (((t.1 42).1 1) + m)) 2 (if ((t.1 42).1 1) + m < 20 then ((t.1 42).1 2) else 1)), (t.1 42).2.1, (t.1 42).2.2))], t.2) u w1) 1 6 := by
  obtain ⟨e_a, w_a, k_a⟩ := hI.1.2 0 (by decide)
  obtain rfl := kd_0.mp k_a
  obtain ⟨e_la, w_la, k_la⟩ := hI.1.2 42 (by decide)
  obtain ⟨c_la_0, rfl⟩ := kd_42.mp k_la
  obtain ⟨e_lab, w_lab, k_lab⟩ := hI.1.2 43 (by decide)
  obtain ⟨c_lab_0, rfl⟩ := kd_43.mp k_lab
  obtain ⟨e_labg, w_labg, k_labg⟩ := hI.1.2 44 (by decide)
  obtain rfl := kd_44.mp k_labg
  refine ((C_Ip_treatN g (ad 0) (ad 1) (ad 5) (ad 18) (ad 31) (ad 32) (ad 36) (ad 42) (ad 45) (ad 47) (ad 49) (ad 50) (ad 51) (ad 43) (ad 44) ((t.1 44).2.1) ((t.1 42).1 0) ((t.1 42).1 1) ((t.1 42).1 2) ((t.1 43).1 0) m c_la_0 hw he0 hg).at (hI.1.I [0, 42, 43, 44] _ rfl (by decide) (by decide) (List.forall_mem_cons.mpr ⟨w_a, (List.forall_mem_cons.mpr ⟨w_la, (List.forall_mem_cons.mpr ⟨w_lab, (List.forall_mem_cons.mpr ⟨w_labg, (fun _ h => nomatch h)⟩)⟩)⟩)⟩))).mono (Nat.le_of_ble_eq_true rfl) (Nat.le_of_ble_eq_true rfl) (fun o w1 hp => ?_)
  obtain ⟨cs1, hp, hi9⟩ := hp
  obtain ⟨e1, e2⟩ := hp
  subst e1; subst e2
  exact ⟨rfl, hI.fix (t2 := (zup t.1 [(42, ((upd (upd ((t.1 42).1) 1 (((t.1 42).1 1) + m)) 2 (if ((t.1 42).1 1) + m < 20 then ((t.1 42).1 2) else 1)), (t.1 42).2.1, (t.1 42).2.2))], t.2)) (is := [0, 42, 43, 44]) hi9 rfl ⟨kd_0.mpr rfl, kd_42.mpr ⟨(by show (if (t.1 42).1 1 + m < 20 then (t.1 42).1 2 else 1) = 0 ∨ (if (t.1 42).1 1 + m < 20 then (t.1 42).1 2 else 1) = 1; split; exact c_la_0; exact Or.inr rfl), rfl⟩, kd_43.mpr ⟨c_lab_0, rfl⟩, kd_44.mpr rfl, trivial⟩ (by decide) (by decide) (fun i hi hn => zup_out (fun q => hn ((by decide : ∀ j ∈ ([42] : List Nat), j ∈ ([0, 42, 43, 44] : List Nat)) i q))) (fun h => h) rfl⟩
set_option maxHeartbeats 4000000 in
theorem Qx_Ip_treatG {g : zG} {ad : Nat → Nat} {t : zTT} {u : zNN} {w : zW} (hI : IV g ad t u w) (m : Int32) (hw : (1 ≤ m ∧ m ≤ 100)) (he0 : ¬ ((t.1 43).1 0) = 0) (hg : ¬ ((t.1 42).1 1) + m ≤ 100) : zMB g M_Ip_treat [.ref (ad 0), .int m] w (fun o w1 => o = .inr "java/lang/UnsupportedOperationException" ∧ IV g ad t u w1) 1 6 := by
  obtain ⟨e_a, w_a, k_a⟩ := hI.1.2 0 (by decide)
  obtain rfl := kd_0.mp k_a
  obtain ⟨e_la, w_la, k_la⟩ := hI.1.2 42 (by decide)
  obtain ⟨c_la_0, rfl⟩ := kd_42.mp k_la
  obtain ⟨e_lab, w_lab, k_lab⟩ := hI.1.2 43 (by decide)
  obtain ⟨c_lab_0, rfl⟩ := kd_43.mp k_lab
  obtain ⟨e_labg, w_labg, k_labg⟩ := hI.1.2 44 (by decide)
  obtain rfl := kd_44.mp k_labg
  refine ((C_Ip_treatG g (ad 0) (ad 1) (ad 5) (ad 18) (ad 31) (ad 32) (ad 36) (ad 42) (ad 45) (ad 47) (ad 49) (ad 50) (ad 51) (ad 43) (ad 44) ((t.1 44).2.1) ((t.1 42).1 0) ((t.1 42).1 1) ((t.1 42).1 2) ((t.1 43).1 0) m hw he0 hg).at (hI.1.I [0, 42, 43, 44] _ rfl (by decide) (by decide) (List.forall_mem_cons.mpr ⟨w_a, (List.forall_mem_cons.mpr ⟨w_la, (List.forall_mem_cons.mpr ⟨w_lab, (List.forall_mem_cons.mpr ⟨w_labg, (fun _ h => nomatch h)⟩)⟩)⟩)⟩))).mono (Nat.le_of_ble_eq_true rfl) (Nat.le_of_ble_eq_true rfl) (fun o w1 hp => ?_)
  obtain ⟨cs1, hp, hi9⟩ := hp
  obtain ⟨e1, e2⟩ := hp
  subst e1; subst e2
  exact ⟨rfl, hI.fix (t2 := t) (is := [0, 42, 43, 44]) hi9 rfl ⟨kd_0.mpr rfl, kd_42.mpr ⟨c_la_0, rfl⟩, kd_43.mpr ⟨c_lab_0, rfl⟩, kd_44.mpr rfl, trivial⟩ (by decide) (by decide) (fun _ _ _ => rfl) (fun h => h) rfl⟩
set_option maxHeartbeats 4000000 in
theorem Qx_Ip_treatE {g : zG} {ad : Nat → Nat} {t : zTT} {u : zNN} {w : zW} (hI : IV g ad t u w) (m : Int32) (hw : ¬ (1 ≤ m ∧ m ≤ 100)) : zMB g M_Ip_treat [.ref (ad 0), .int m] w (fun o w1 => o = .inr "java/lang/IllegalArgumentException" ∧ IV g ad t u w1) 1 6 := by
  obtain ⟨e_a, w_a, k_a⟩ := hI.1.2 0 (by decide)
  obtain rfl := kd_0.mp k_a
  obtain ⟨e_la, w_la, k_la⟩ := hI.1.2 42 (by decide)
  obtain ⟨c_la_0, rfl⟩ := kd_42.mp k_la
  obtain ⟨e_lab, w_lab, k_lab⟩ := hI.1.2 43 (by decide)
  obtain ⟨c_lab_0, rfl⟩ := kd_43.mp k_lab
  obtain ⟨e_labg, w_labg, k_labg⟩ := hI.1.2 44 (by decide)
  obtain rfl := kd_44.mp k_labg
  refine ((C_Ip_treatE g (ad 0) (ad 1) (ad 5) (ad 18) (ad 31) (ad 32) (ad 36) (ad 42) (ad 45) (ad 47) (ad 49) (ad 50) (ad 51) (ad 43) (ad 44) ((t.1 44).2.1) ((t.1 42).1 0) ((t.1 42).1 1) ((t.1 42).1 2) ((t.1 43).1 0) m hw).at (hI.1.I [0, 42, 43, 44] _ rfl (by decide) (by decide) (List.forall_mem_cons.mpr ⟨w_a, (List.forall_mem_cons.mpr ⟨w_la, (List.forall_mem_cons.mpr ⟨w_lab, (List.forall_mem_cons.mpr ⟨w_labg, (fun _ h => nomatch h)⟩)⟩)⟩)⟩))).mono (Nat.le_of_ble_eq_true rfl) (Nat.le_of_ble_eq_true rfl) (fun o w1 hp => ?_)
  obtain ⟨cs1, hp, hi9⟩ := hp
  obtain ⟨e1, e2⟩ := hp
  subst e1; subst e2
  exact ⟨rfl, hI.fix (t2 := t) (is := [0, 42, 43, 44]) hi9 rfl ⟨kd_0.mpr rfl, kd_42.mpr ⟨c_la_0, rfl⟩, kd_43.mpr ⟨c_lab_0, rfl⟩, kd_44.mpr rfl, trivial⟩ (by decide) (by decide) (fun _ _ _ => rfl) (fun h => h) rfl⟩
noncomputable def tK_Ip_treat (m : Int32) (t : zTT) : zTT := (if 1 ≤ m ∧ m ≤ 100 then (if (t.1 43).1 0 = 0 then t else (if (t.1 42).1 1 + m ≤ 100 then (zup t.1 [(42, ((upd (upd ((t.1 42).1) 1 (((t.1 42).1 1) + m)) 2 (if ((t.1 42).1 1) + m < 20 then ((t.1 42).1 2) else 1)), (t.1 42).2.1, (t.1 42).2.2))], t.2) else t)) else t)
theorem K_Ip_treat {g : zG} {ad : Nat → Nat} {t : zTT} {u : zNN} {w : zW} (hI : IVm g ad t u w) (m : Int32) : zMB g M_Ip_treat [.ref (ad 0), .int m] w (CKx g ad (tK_Ip_treat m t) u.1 ["java/lang/IllegalArgumentException", "java/lang/IllegalStateException", "java/lang/UnsupportedOperationException"]) 10 300 := by
  obtain ⟨s, hI⟩ := hI
  by_cases hw : 1 ≤ m ∧ m ≤ 100
  · by_cases he0 : (t.1 43).1 0 = 0
    · have eT : (tK_Ip_treat m t) = t := by unfold tK_Ip_treat; rw [if_pos hw, if_pos he0]
      rw [eT]
      exact (Qx_Ip_treatF hI m hw he0).mono (by decide) (by decide) (fun o w1 h => ⟨zri.th h.1 (by simp), u, rfl, ⟨_, h.2⟩⟩)
    · by_cases hg : (t.1 42).1 1 + m ≤ 100
      · have eT : (tK_Ip_treat m t) = (zup t.1 [(42, ((upd (upd ((t.1 42).1) 1 (((t.1 42).1 1) + m)) 2 (if ((t.1 42).1 1) + m < 20 then ((t.1 42).1 2) else 1)), (t.1 42).2.1, (t.1 42).2.2))], t.2) := by unfold tK_Ip_treat; rw [if_pos hw, if_neg he0, if_pos hg]
        rw [eT]
        exact (Qx_Ip_treatN hI m hw he0 hg).mono (by decide) (by decide) (fun o w1 h => ⟨zri.vl h.1, u, rfl, IVm.zu h.2⟩)
      · have eT : (tK_Ip_treat m t) = t := by unfold tK_Ip_treat; rw [if_pos hw, if_neg he0, if_neg hg]
        rw [eT]
        exact (Qx_Ip_treatG hI m hw he0 hg).mono (by decide) (by decide) (fun o w1 h => ⟨zri.th h.1 (by simp), u, rfl, ⟨_, h.2⟩⟩)
  · have eT : (tK_Ip_treat m t) = t := by unfold tK_Ip_treat; rw [if_neg hw]
    rw [eT]
    exact (Qx_Ip_treatE hI m hw).mono (by decide) (by decide) (fun o w1 h => ⟨zri.th h.1 (by simp), u, rfl, ⟨_, h.2⟩⟩)
set_option maxHeartbeats 4000000 in
theorem Qx_Ip_ladleE {g : zG} {ad : Nat → Nat} {t : zTT} {u : zNN} {w : zW} (hI : IV g ad t u w) (w8 : Int32) (hw : z_ix 3 w8 < 0) : zMB g M_Ip_ladle [.ref (ad 0), .int w8] w (fun o w1 => o = .inr "java/lang/IllegalArgumentException" ∧ IV g ad t u w1) 1 6 := by
  obtain ⟨e_a, w_a, k_a⟩ := hI.1.2 0 (by decide)
  obtain rfl := kd_0.mp k_a
  obtain ⟨e_la, w_la, k_la⟩ := hI.1.2 42 (by decide)
  obtain ⟨c_la_0, rfl⟩ := kd_42.mp k_la
  obtain ⟨e_lab, w_lab, k_lab⟩ := hI.1.2 43 (by decide)
  obtain ⟨c_lab_0, rfl⟩ := kd_43.mp k_lab
  obtain ⟨e_labg, w_labg, k_labg⟩ := hI.1.2 44 (by decide)
  obtain rfl := kd_44.mp k_labg
  refine ((C_Ip_ladleE g (ad 0) (ad 1) (ad 5) (ad 18) (ad 31) (ad 32) (ad 36) (ad 42) (ad 45) (ad 47) (ad 49) (ad 50) (ad 51) (ad 43) (ad 44) ((t.1 44).2.1) ((t.1 42).1 0) ((t.1 42).1 1) ((t.1 42).1 2) ((t.1 43).1 0) w8 hw).at (hI.1.I [0, 42, 43, 44] _ rfl (by decide) (by decide) (List.forall_mem_cons.mpr ⟨w_a, (List.forall_mem_cons.mpr ⟨w_la, (List.forall_mem_cons.mpr ⟨w_lab, (List.forall_mem_cons.mpr ⟨w_labg, (fun _ h => nomatch h)⟩)⟩)⟩)⟩))).mono (Nat.le_of_ble_eq_true rfl) (Nat.le_of_ble_eq_true rfl) (fun o w1 hp => ?_)
  obtain ⟨cs1, hp, hi9⟩ := hp
  obtain ⟨e1, e2⟩ := hp
  subst e1; subst e2
  exact ⟨rfl, hI.fix (t2 := t) (is := [0, 42, 43, 44]) hi9 rfl ⟨kd_0.mpr rfl, kd_42.mpr ⟨c_la_0, rfl⟩, kd_43.mpr ⟨c_lab_0, rfl⟩, kd_44.mpr rfl, trivial⟩ (by decide) (by decide) (fun _ _ _ => rfl) (fun h => h) rfl⟩
set_option maxHeartbeats 4000000 in
theorem Qx_Ip_ladle0 {g : zG} {ad : Nat → Nat} {t : zTT} {u : zNN} {w : zW} (hI : IV g ad t u w) (w8 : Int32) (hw : ¬ z_ix 3 w8 < 0) (he0 : ((t.1 43).1 0) = 0) : zMB g M_Ip_ladle [.ref (ad 0), .int w8] w (fun o w1 => o = .inl (some (.int 0)) ∧ IV g ad t u w1) 1 6 := by
  obtain ⟨e_a, w_a, k_a⟩ := hI.1.2 0 (by decide)
  obtain rfl := kd_0.mp k_a
  obtain ⟨e_la, w_la, k_la⟩ := hI.1.2 42 (by decide)
  obtain ⟨c_la_0, rfl⟩ := kd_42.mp k_la
  obtain ⟨e_lab, w_lab, k_lab⟩ := hI.1.2 43 (by decide)
  obtain ⟨c_lab_0, rfl⟩ := kd_43.mp k_lab
  obtain ⟨e_labg, w_labg, k_labg⟩ := hI.1.2 44 (by decide)
  obtain rfl := kd_44.mp k_labg
  refine ((C_Ip_ladle0 g (ad 0) (ad 1) (ad 5) (ad 18) (ad 31) (ad 32) (ad 36) (ad 42) (ad 45) (ad 47) (ad 49) (ad 50) (ad 51) (ad 43) (ad 44) ((t.1 44).2.1) ((t.1 42).1 0) ((t.1 42).1 1) ((t.1 42).1 2) ((t.1 43).1 0) w8 hw he0).at (hI.1.I [0, 42, 43, 44] _ rfl (by decide) (by decide) (List.forall_mem_cons.mpr ⟨w_a, (List.forall_mem_cons.mpr ⟨w_la, (List.forall_mem_cons.mpr ⟨w_lab, (List.forall_mem_cons.mpr ⟨w_labg, (fun _ h => nomatch h)⟩)⟩)⟩)⟩))).mono (Nat.le_of_ble_eq_true rfl) (Nat.le_of_ble_eq_true rfl) (fun o w1 hp => ?_)
  obtain ⟨cs1, hp, hi9⟩ := hp
  obtain ⟨e1, e2⟩ := hp
  subst e1; subst e2
  exact ⟨rfl, hI.fix (t2 := t) (is := [0, 42, 43, 44]) hi9 rfl ⟨kd_0.mpr rfl, kd_42.mpr ⟨c_la_0, rfl⟩, kd_43.mpr ⟨c_lab_0, rfl⟩, kd_44.mpr rfl, trivial⟩ (by decide) (by decide) (fun _ _ _ => rfl) (fun h => h) rfl⟩
