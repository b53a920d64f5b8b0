set_option maxHeartbeats 4000000 in
theorem Qx_Ip_hoursE {g : zG} {ad : Nat → Nat} {t : zTT} {u : zNN} {w : zW} (hI : IV g ad t u w) (h : Int32) (hw : ¬ (1 ≤ h ∧ h ≤ 48)) : zMB g M_Ip_hours [.ref (ad 0), .int h] w (fun o w1 => o = .inr "java/lang/IllegalArgumentException" ∧ IV g ad t u w1) 1 6 := by
  obtain ⟨e_a, w_a, k_a⟩ := hI.1.2 0 (by decide)
  obtain rfl := kd_0.mp k_a
  obtain ⟨e_co, w_co, k_co⟩ := hI.1.2 32 (by decide)
  obtain ⟨c_co_0, rfl⟩ := kd_32.mp k_co
  obtain ⟨e_co1, w_co1, k_co1⟩ := hI.1.2 33 (by decide)
  obtain rfl := kd_33.mp k_co1
  obtain ⟨e_co2, w_co2, k_co2⟩ := hI.1.2 34 (by decide)
  obtain rfl := kd_34.mp k_co2
  obtain ⟨e_co3, w_co3, k_co3⟩ := hI.1.2 35 (by decide)
  obtain rfl := kd_35.mp k_co3
  refine ((C_Ip_hoursE g (ad 0) (ad 1) (ad 5) (ad 18) (ad 31) (ad 32) (ad 36) (ad 42) (ad 45) (ad 47) (ad 49) (ad 50) (ad 51) (ad 33) (ad 34) (ad 35) ((t.1 33).1) ((t.1 34).1) ((t.1 35).1) ((t.1 32).2.2 0) c_co_0 h hw).at (hI.1.I [0, 32, 33, 34, 35] _ rfl (by decide) (by decide) (List.forall_mem_cons.mpr ⟨w_a, (List.forall_mem_cons.mpr ⟨w_co, (List.forall_mem_cons.mpr ⟨w_co1, (List.forall_mem_cons.mpr ⟨w_co2, (List.forall_mem_cons.mpr ⟨w_co3, (fun _ h => nomatch h)⟩)⟩)⟩)⟩)⟩))).mono (Nat.le_of_ble_eq_true rfl) (Nat.le_of_ble_eq_true rfl) (fun o w1 hp => ?_)
  obtain ⟨cs1, hp, hi9⟩ := hp
  obtain ⟨e1, e2⟩ := hp
  subst e1; subst e2
  exact ⟨rfl, hI.fix (t2 := t) (is := [0, 32, 33, 34, 35]) hi9 rfl ⟨kd_0.mpr rfl, kd_32.mpr ⟨c_co_0, rfl⟩, kd_33.mpr rfl, kd_34.mpr rfl, kd_35.mpr rfl, trivial⟩ (by decide) (by decide) (fun _ _ _ => rfl) (fun h => h) rfl⟩
noncomputable def tK_Ip_hours (h : Int32) (t : zTT) : zTT := (if 1 ≤ h ∧ h ≤ 48 then (zup t.1 [(32, ((t.1 32).1, (t.1 32).2.1, (fun z => ([(dlS (gwS ((t.1 33).1) ((t.1 34).1) ((t.1 35).1) h ((t.1 32).2.2 0)).1 ((t.1 34).1) (gwS ((t.1 33).1) ((t.1 34).1) ((t.1 35).1) h ((t.1 32).2.2 0)).2.1 ((t.1 32).2.2 0)).1] : List Nat).getD z 0))), (33, ((dlS (gwS ((t.1 33).1) ((t.1 34).1) ((t.1 35).1) h ((t.1 32).2.2 0)).1 ((t.1 34).1) (gwS ((t.1 33).1) ((t.1 34).1) ((t.1 35).1) h ((t.1 32).2.2 0)).2.1 ((t.1 32).2.2 0)).2.1, (t.1 33).2)), (34, ((dlS (gwS ((t.1 33).1) ((t.1 34).1) ((t.1 35).1) h ((t.1 32).2.2 0)).1 ((t.1 34).1) (gwS ((t.1 33).1) ((t.1 34).1) ((t.1 35).1) h ((t.1 32).2.2 0)).2.1 ((t.1 32).2.2 0)).2.2.1, (t.1 34).2)), (35, ((dlS (gwS ((t.1 33).1) ((t.1 34).1) ((t.1 35).1) h ((t.1 32).2.2 0)).1 ((t.1 34).1) (gwS ((t.1 33).1) ((t.1 34).1) ((t.1 35).1) h ((t.1 32).2.2 0)).2.1 ((t.1 32).2.2 0)).2.2.2, (t.1 35).2))], t.2) else t)
theorem K_Ip_hours {g : zG} {ad : Nat → Nat} {t : zTT} {u : zNN} {w : zW} (hI : IVm g ad t u w) (h : Int32) : zMB g M_Ip_hours [.ref (ad 0), .int h] w (CKx g ad (tK_Ip_hours h t) u.1 ["java/lang/IllegalArgumentException"]) 10 300 := by
  obtain ⟨s, hI⟩ := hI
  by_cases hw : 1 ≤ h ∧ h ≤ 48
  · have eT : (tK_Ip_hours h t) = (zup t.1 [(32, ((t.1 32).1, (t.1 32).2.1, (fun z => ([(dlS (gwS ((t.1 33).1) ((t.1 34).1) ((t.1 35).1) h ((t.1 32).2.2 0)).1 ((t.1 34).1) (gwS ((t.1 33).1) ((t.1 34).1) ((t.1 35).1) h ((t.1 32).2.2 0)).2.1 ((t.1 32).2.2 0)).1] : List Nat).getD z 0))), (33, ((dlS (gwS ((t.1 33).1) ((t.1 34).1) ((t.1 35).1) h ((t.1 32).2.2 0)).1 ((t.1 34).1) (gwS ((t.1 33).1) ((t.1 34).1) ((t.1 35).1) h ((t.1 32).2.2 0)).2.1 ((t.1 32).2.2 0)).2.1, (t.1 33).2)), (34, ((dlS (gwS ((t.1 33).1) ((t.1 34).1) ((t.1 35).1) h ((t.1 32).2.2 0)).1 ((t.1 34).1) (gwS ((t.1 33).1) ((t.1 34).1) ((t.1 35).1) h ((t.1 32).2.2 0)).2.1 ((t.1 32).2.2 0)).2.2.1, (t.1 34).2)), (35, ((dlS (gwS ((t.1 33).1) ((t.1 34).1) ((t.1 35).1) h ((t.1 32).2.2 0)).1 ((t.1 34).1) (gwS ((t.1 33).1) ((t.1 34).1) ((t.1 35).1) h ((t.1 32).2.2 0)).2.1 ((t.1 32).2.2 0)).2.2.2, (t.1 35).2))], t.2) := by unfold tK_Ip_hours; rw [if_pos hw]
    rw [eT]
    exact (Qx_Ip_hoursN hI h hw).mono (by decide) (by decide) (fun o w1 h => ⟨zri.vl h.1, u, rfl, IVm.zu h.2⟩)
  · have eT : (tK_Ip_hours h t) = t := by unfold tK_Ip_hours; rw [if_neg hw]
    rw [eT]
    exact (Qx_Ip_hoursE hI h hw).mono (by decide) (by decide) (fun o w1 h => ⟨zri.th h.1 (by simp), u, rfl, ⟨_, h.2⟩⟩)
set_option maxHeartbeats 4000000 in
theorem Qx_Ip_charge112G {g : zG} {ad : Nat → Nat} {t : zTT} {u : zNN} {w : zW} (hI : IV g ad t u w) (m : Int32) (hw : (1 ≤ m ∧ m ≤ 1000)) (hg : 3000 < ((t.1 37).1 0) + m) : zMB g M_Ip_charge [.ref (ad 0), .int 112, .int m] w (fun o w1 => o = .inr "java/lang/IllegalStateException" ∧ IV g ad t u w1) 1 6 := by
  obtain ⟨e_a, w_a, k_a⟩ := hI.1.2 0 (by decide)
  obtain rfl := kd_0.mp k_a
  obtain ⟨e_fu, w_fu, k_fu⟩ := hI.1.2 36 (by decide)
  obtain rfl := kd_36.mp k_fu
  obtain ⟨e_fub, w_fub, k_fub⟩ := hI.1.2 37 (by decide)
  obtain rfl := kd_37.mp k_fub
  obtain ⟨e_fubg, w_fubg, k_fubg⟩ := hI.1.2 38 (by decide)
  obtain rfl := kd_38.mp k_fubg
  obtain ⟨e_fut1, w_fut1, k_fut1⟩ := hI.1.2 39 (by decide)
  obtain rfl := kd_39.mp k_fut1
  obtain ⟨e_fut2, w_fut2, k_fut2⟩ := hI.1.2 40 (by decide)
  obtain rfl := kd_40.mp k_fut2
  obtain ⟨e_fut3, w_fut3, k_fut3⟩ := hI.1.2 41 (by decide)
  obtain rfl := kd_41.mp k_fut3
  obtain ⟨e_gy, w_gy, k_gy⟩ := hI.1.2 45 (by decide)
  obtain rfl := kd_45.mp k_gy
  obtain ⟨e_gyg, w_gyg, k_gyg⟩ := hI.1.2 46 (by decide)
  obtain rfl := kd_46.mp k_gyg
  obtain ⟨e_du, w_du, k_du⟩ := hI.1.2 47 (by decide)
  obtain rfl := kd_47.mp k_du
  obtain ⟨e_dug, w_dug, k_dug⟩ := hI.1.2 48 (by decide)
  obtain rfl := kd_48.mp k_dug
  refine ((C_Ip_charge112G g (ad 0) (ad 1) (ad 5) (ad 18) (ad 31) (ad 32) (ad 36) (ad 42) (ad 45) (ad 47) (ad 49) (ad 50) (ad 51) (ad 43) (ad 44) (ad 46) (ad 48) (ad 37) (ad 38) (ad 39) (ad 40) (ad 41) ((t.1 38).2.1) ((t.1 39).2.1) ((t.1 40).2.1) ((t.1 41).2.1) ((t.1 46).2.1) ((t.1 48).2.1) ((t.1 37).1 0) ((t.1 45).1 0) ((t.1 47).1 0) ((t.1 36).2.1 0) m hw hg).at (hI.1.I [0, 36, 37, 38, 39, 40, 41, 45, 46, 47, 48] _ rfl (by decide) (by decide) (List.forall_mem_cons.mpr ⟨w_a, (List.forall_mem_cons.mpr ⟨w_fu, (List.forall_mem_cons.mpr ⟨w_fub, (List.forall_mem_cons.mpr ⟨w_fubg, (List.forall_mem_cons.mpr ⟨w_fut1, (List.forall_mem_cons.mpr ⟨w_fut2, (List.forall_mem_cons.mpr ⟨w_fut3, (List.forall_mem_cons.mpr ⟨w_gy, (List.forall_mem_cons.mpr ⟨w_gyg, (List.forall_mem_cons.mpr ⟨w_du, (List.forall_mem_cons.mpr ⟨w_dug, (fun _ h => nomatch h)⟩)⟩)⟩)⟩)⟩)⟩)⟩)⟩)⟩)⟩)⟩))).mono (Nat.le_of_ble_eq_true rfl) (Nat.le_of_ble_eq_true rfl) (fun o w1 hp => ?_)
  obtain ⟨cs1, hp, hi9⟩ := hp
  obtain ⟨e1, e2⟩ := hp
  subst e1; subst e2
  exact ⟨rfl, hI.fix (t2 := t) (is := [0, 36, 37, 38, 39, 40, 41, 45, 46, 47, 48]) hi9 rfl ⟨kd_0.mpr rfl, kd_36.mpr rfl, kd_37.mpr rfl, kd_38.mpr rfl, kd_39.mpr rfl, kd_40.mpr rfl, kd_41.mpr rfl, kd_45.mpr rfl, kd_46.mpr rfl, kd_47.mpr rfl, kd_48.mpr rfl, trivial⟩ (by decide) (by decide) (fun _ _ _ => rfl) (fun h => h) rfl⟩
set_option maxHeartbeats 4000000 in
theorem Qx_Ip_charge112N {g : zG} {ad : Nat → Nat} {t : zTT} {u : zNN} {w : zW} (hI : IV g ad t u w) (m : Int32) (hw : (1 ≤ m ∧ m ≤ 1000)) (hg : ¬ 3000 < ((t.1 37).1 0) + m) : zMB g M_Ip_charge [.ref (ad 0), .int 112, .int m] w (fun o w1 => o = .inl (some (.int (((t.1 37).1 0) + m))) ∧ IV g ad (zup t.1 [(36, ((t.1 36).1, (vp_updL ((t.1 36).2.1) 0 (((t.1 36).2.1 0) + (m : Int32).toInt64)), (t.1 36).2.2)), (37, ((upd ((t.1 37).1) 0 (((t.1 37).1 0) + m)), (t.1 37).2.1, (t.1 37).2.2)), (38, ((t.1 38).1, lfd ((t.1 38).2.1) (fun e => chS m 0 e / 10) 4, (t.1 38).2.2)), (39, ((t.1 39).1, lfd ((t.1 39).2.1) (fun e => chS m 0 e) 4, (t.1 39).2.2)), (40, ((t.1 40).1, lfd ((t.1 40).2.1) (fun e => chS m 0 e - chS m 0 e / 10 * 10) 4, (t.1 40).2.2))], t.2) u w1) 1 6 := by
  obtain ⟨e_a, w_a, k_a⟩ := hI.1.2 0 (by decide)
  obtain rfl := kd_0.mp k_a
  obtain ⟨e_fu, w_fu, k_fu⟩ := hI.1.2 36 (by decide)
  obtain rfl := kd_36.mp k_fu
  obtain ⟨e_fub, w_fub, k_fub⟩ := hI.1.2 37 (by decide)
  obtain rfl := kd_37.mp k_fub
  obtain ⟨e_fubg, w_fubg, k_fubg⟩ := hI.1.2 38 (by decide)
  obtain rfl := kd_38.mp k_fubg
  obtain ⟨e_fut1, w_fut1, k_fut1⟩ := hI.1.2 39 (by decide)
  obtain rfl := kd_39.mp k_fut1
  obtain ⟨e_fut2, w_fut2, k_fut2⟩ := hI.1.2 40 (by decide)
  obtain rfl := kd_40.mp k_fut2
  obtain ⟨e_fut3, w_fut3, k_fut3⟩ := hI.1.2 41 (by decide)
  obtain rfl := kd_41.mp k_fut3
  obtain ⟨e_gy, w_gy, k_gy⟩ := hI.1.2 45 (by decide)
  obtain rfl := kd_45.mp k_gy
  obtain ⟨e_gyg, w_gyg, k_gyg⟩ := hI.1.2 46 (by decide)
  obtain rfl := kd_46.mp k_gyg
  obtain ⟨e_du, w_du, k_du⟩ := hI.1.2 47 (by decide)
  obtain rfl := kd_47.mp k_du
  obtain ⟨e_dug, w_dug, k_dug⟩ := hI.1.2 48 (by decide)
  obtain rfl := kd_48.mp k_dug
  refine ((C_Ip_charge112N g (ad 0) (ad 1) (ad 5) (ad 18) (ad 31) (ad 32) (ad 36) (ad 42) (ad 45) (ad 47) (ad 49) (ad 50) (ad 51) (ad 43) (ad 44) (ad 46) (ad 48) (ad 37) (ad 38) (ad 39) (ad 40) (ad 41) ((t.1 38).2.1) ((t.1 39).2.1) ((t.1 40).2.1) ((t.1 41).2.1) ((t.1 46).2.1) ((t.1 48).2.1) ((t.1 37).1 0) ((t.1 45).1 0) ((t.1 47).1 0) ((t.1 36).2.1 0) m hw hg).at (hI.1.I [0, 36, 37, 38, 39, 40, 41, 45, 46, 47, 48] _ rfl (by decide) (by decide) (List.forall_mem_cons.mpr ⟨w_a, (List.forall_mem_cons.mpr ⟨w_fu, (List.forall_mem_cons.mpr ⟨w_fub, (List.forall_mem_cons.mpr ⟨w_fubg, (List.forall_mem_cons.mpr ⟨w_fut1, (List.forall_mem_cons.mpr ⟨w_fut2, (List.forall_mem_cons.mpr ⟨w_fut3, (List.forall_mem_cons.mpr ⟨w_gy, (List.forall_mem_cons.mpr ⟨w_gyg, (List.forall_mem_cons.mpr ⟨w_du, (List.forall_mem_cons.mpr ⟨w_dug, (fun _ h => nomatch h)⟩)⟩)⟩)⟩)⟩)⟩)⟩)⟩)⟩)⟩)⟩))).mono (Nat.le_of_ble_eq_true rfl) (Nat.le_of_ble_eq_true rfl) (fun o w1 hp => ?_)
  obtain ⟨cs1, hp, hi9⟩ := hp
  obtain ⟨e1, e2⟩ := hp
  subst e1; subst e2
  exact ⟨rfl, hI.fix (t2 := (zup t.1 [(36, ((t.1 36).1, (vp_updL ((t.1 36).2.1) 0 (((t.1 36).2.1 0) + (m : Int32).toInt64)), (t.1 36).2.2)), (37, ((upd ((t.1 37).1) 0 (((t.1 37).1 0) + m)), (t.1 37).2.1, (t.1 37).2.2)), (38, ((t.1 38).1, lfd ((t.1 38).2.1) (fun e => chS m 0 e / 10) 4, (t.1 38).2.2)), (39, ((t.1 39).1, lfd ((t.1 39).2.1) (fun e => chS m 0 e) 4, (t.1 39).2.2)), (40, ((t.1 40).1, lfd ((t.1 40).2.1) (fun e => chS m 0 e - chS m 0 e / 10 * 10) 4, (t.1 40).2.2))], t.2)) (is := [0, 36, 37, 38, 39, 40, 41, 45, 46, 47, 48]) hi9 rfl ⟨kd_0.mpr rfl, kd_36.mpr rfl, kd_37.mpr rfl, kd_38.mpr rfl, kd_39.mpr rfl, kd_40.mpr rfl, kd_41.mpr rfl, kd_45.mpr rfl, kd_46.mpr rfl, kd_47.mpr rfl, kd_48.mpr rfl, trivial⟩ (by decide) (by decide) (fun i hi hn => zup_out (fun q => hn ((by decide : ∀ j ∈ ([36, 37, 38, 39, 40] : List Nat), j ∈ ([0, 36, 37, 38, 39, 40, 41, 45, 46, 47, 48] : List Nat)) i q))) (fun h => h) rfl⟩
set_option maxHeartbeats 4000000 in
theorem Qx_Ip_charge115G {g : zG} {ad : Nat → Nat} {t : zTT} {u : zNN} {w : zW} (hI : IV g ad t u w) (m : Int32) (hw : (1 ≤ m ∧ m ≤ 1000)) (hg : 3000 < ((t.1 37).1 0) + m) : zMB g M_Ip_charge [.ref (ad 0), .int 115, .int m] w (fun o w1 => o = .inr "java/lang/IllegalStateException" ∧ IV g ad t u w1) 1 6 := by
  obtain ⟨e_a, w_a, k_a⟩ := hI.1.2 0 (by decide)
  obtain rfl := kd_0.mp k_a
  obtain ⟨e_fu, w_fu, k_fu⟩ := hI.1.2 36 (by decide)
  obtain rfl := kd_36.mp k_fu
  obtain ⟨e_fub, w_fub, k_fub⟩ := hI.1.2 37 (by decide)
  obtain rfl := kd_37.mp k_fub
  obtain ⟨e_fubg, w_fubg, k_fubg⟩ := hI.1.2 38 (by decide)
  obtain rfl := kd_38.mp k_fubg
  obtain ⟨e_fut1, w_fut1, k_fut1⟩ := hI.1.2 39 (by decide)
  obtain rfl := kd_39.mp k_fut1
  obtain ⟨e_fut2, w_fut2, k_fut2⟩ := hI.1.2 40 (by decide)
  obtain rfl := kd_40.mp k_fut2
  obtain ⟨e_fut3, w_fut3, k_fut3⟩ := hI.1.2 41 (by decide)
  obtain rfl := kd_41.mp k_fut3
  obtain ⟨e_gy, w_gy, k_gy⟩ := hI.1.2 45 (by decide)
  obtain rfl := kd_45.mp k_gy
  obtain ⟨e_gyg, w_gyg, k_gyg⟩ := hI.1.2 46 (by decide)
  obtain rfl := kd_46.mp k_gyg
  obtain ⟨e_du, w_du, k_du⟩ := hI.1.2 47 (by decide)
  obtain rfl := kd_47.mp k_du
  obtain ⟨e_dug, w_dug, k_dug⟩ := hI.1.2 48 (by decide)
  obtain rfl := kd_48.mp k_dug
  refine ((C_Ip_charge115G g (ad 0) (ad 1) (ad 5) (ad 18) (ad 31) (ad 32) (ad 36) (ad 42) (ad 45) (ad 47) (ad 49) (ad 50) (ad 51) (ad 43) (ad 44) (ad 46) (ad 48) (ad 37) (ad 38) (ad 39) (ad 40) (ad 41) ((t.1 38).2.1) ((t.1 39).2.1) ((t.1 40).2.1) ((t.1 41).2.1) ((t.1 46).2.1) ((t.1 48).2.1) ((t.1 37).1 0) ((t.1 45).1 0) ((t.1 47).1 0) ((t.1 36).2.1 0) m hw hg).at (hI.1.I [0, 36, 37, 38, 39, 40, 41, 45, 46, 47, 48] _ rfl (by decide) (by decide) (List.forall_mem_cons.mpr ⟨w_a, (List.forall_mem_cons.mpr ⟨w_fu, (List.forall_mem_cons.mpr ⟨w_fub, (List.forall_mem_cons.mpr ⟨w_fubg, (List.forall_mem_cons.mpr ⟨w_fut1, (List.forall_mem_cons.mpr ⟨w_fut2, (List.forall_mem_cons.mpr ⟨w_fut3, (List.forall_mem_cons.mpr ⟨w_gy, (List.forall_mem_cons.mpr ⟨w_gyg, (List.forall_mem_cons.mpr ⟨w_du, (List.forall_mem_cons.mpr ⟨w_dug, (fun _ h => nomatch h)⟩)⟩)⟩)⟩)⟩)⟩)⟩)⟩)⟩)⟩)⟩))).mono (Nat.le_of_ble_eq_true rfl) (Nat.le_of_ble_eq_true rfl) (fun o w1 hp => ?_)
  obtain ⟨cs1, hp, hi9⟩ := hp
  obtain ⟨e1, e2⟩ := hp
  subst e1; subst e2
  exact ⟨rfl, hI.fix (t2 := t) (is := [0, 36, 37, 38, 39, 40, 41, 45, 46, 47, 48]) hi9 rfl ⟨kd_0.mpr rfl, kd_36.mpr rfl, kd_37.mpr rfl, kd_38.mpr rfl, kd_39.mpr rfl, kd_40.mpr rfl, kd_41.mpr rfl, kd_45.mpr rfl, kd_46.mpr rfl, kd_47.mpr rfl, kd_48.mpr rfl, trivial⟩ (by decide) (by decide) (fun _ _ _ => rfl) (fun h => h) rfl⟩
set_option maxHeartbeats 4000000 in
theorem Qx_Ip_charge115N {g : zG} {ad : Nat → Nat} {t : zTT} {u : zNN} {w : zW} (hI : IV g ad t u w) (m : Int32) (hw : (1 ≤ m ∧ m ≤ 1000)) (hg : ¬ 3000 < ((t.1 37).1 0) + m) : zMB g M_Ip_charge [.ref (ad 0), .int 115, .int m] w (fun o w1 => o = .inl (some (.int (((t.1 37).1 0) + m))) ∧ IV g ad (zup t.1 [(36, ((t.1 36).1, (vp_updL ((t.1 36).2.1) 0 (((t.1 36).2.1 0) + (m : Int32).toInt64)), (t.1 36).2.2)), (37, ((upd ((t.1 37).1) 0 (((t.1 37).1 0) + m)), (t.1 37).2.1, (t.1 37).2.2)), (38, ((t.1 38).1, lfd ((t.1 38).2.1) (fun e => chS m 1 e / 10) 4, (t.1 38).2.2)), (39, ((t.1 39).1, lfd ((t.1 39).2.1) (fun e => chS m 1 e) 4, (t.1 39).2.2)), (40, ((t.1 40).1, lfd ((t.1 40).2.1) (fun e => chS m 1 e - chS m 1 e / 10 * 10) 4, (t.1 40).2.2))], t.2) u w1) 1 6 := by
  obtain ⟨e_a, w_a, k_a⟩ := hI.1.2 0 (by decide)
  obtain rfl := kd_0.mp k_a
  obtain ⟨e_fu, w_fu, k_fu⟩ := hI.1.2 36 (by decide)
  obtain rfl := kd_36.mp k_fu
  obtain ⟨e_fub, w_fub, k_fub⟩ := hI.1.2 37 (by decide)
  obtain rfl := kd_37.mp k_fub
  obtain ⟨e_fubg, w_fubg, k_fubg⟩ := hI.1.2 38 (by decide)
  obtain rfl := kd_38.mp k_fubg
  obtain ⟨e_fut1, w_fut1, k_fut1⟩ := hI.1.2 39 (by decide)
  obtain rfl := kd_39.mp k_fut1
  obtain ⟨e_fut2, w_fut2, k_fut2⟩ := hI.1.2 40 (by decide)
  obtain rfl := kd_40.mp k_fut2
  obtain ⟨e_fut3, w_fut3, k_fut3⟩ := hI.1.2 41 (by decide)
  obtain rfl := kd_41.mp k_fut3
  obtain ⟨e_gy, w_gy, k_gy⟩ := hI.1.2 45 (by decide)
  obtain rfl := kd_45.mp k_gy
  obtain ⟨e_gyg, w_gyg, k_gyg⟩ := hI.1.2 46 (by decide)
  obtain rfl := kd_46.mp k_gyg
  obtain ⟨e_du, w_du, k_du⟩ := hI.1.2 47 (by decide)
  obtain rfl := kd_47.mp k_du
  obtain ⟨e_dug, w_dug, k_dug⟩ := hI.1.2 48 (by decide)
  obtain rfl := kd_48.mp k_dug
  refine ((C_Ip_charge115N g (ad 0) (ad 1) (ad 5) (ad 18) (ad 31) (ad 32) (ad 36) (ad 42) (ad 45) (ad 47) (ad 49) (ad 50) (ad 51) (ad 43) (ad 44) (ad 46) (ad 48) (ad 37) (ad 38) (ad 39) (ad 40) (ad 41) ((t.1 38).2.1) ((t.1 39).2.1) ((t.1 40).2.1) ((t.1 41).2.1) ((t.1 46).2.1) ((t.1 48).2.1) ((t.1 37).1 0) ((t.1 45).1 0) ((t.1 47).1 0) ((t.1 36).2.1 0) m hw hg).at (hI.1.I [0, 36, 37, 38, 39, 40, 41, 45, 46, 47, 48] _ rfl (by decide) (by decide) (List.forall_mem_cons.mpr ⟨w_a, (List.forall_mem_cons.mpr ⟨w_fu, (List.forall_mem_cons.mpr ⟨w_fub, (List.forall_mem_cons.mpr ⟨w_fubg, (List.forall_mem_cons.mpr ⟨w_fut1, (List.forall_mem_cons.mpr ⟨w_fut2, (List.forall_mem_cons.mpr ⟨w_fut3, (List.forall_mem_cons.mpr ⟨w_gy, (List.forall_mem_cons.mpr ⟨w_gyg, (List.forall_mem_cons.mpr ⟨w_du, (List.forall_mem_cons.mpr ⟨w_dug, (fun _ h => nomatch h)⟩)⟩)⟩)⟩)⟩)⟩)⟩)⟩)⟩)⟩)⟩))).mono (Nat.le_of_ble_eq_true rfl) (Nat.le_of_ble_eq_true rfl) (fun o w1 hp => ?_)
  obtain ⟨cs1, hp, hi9⟩ := hp
  obtain ⟨e1, e2⟩ := hp
  subst e1; subst e2
  exact ⟨rfl, hI.fix (t2 := (zup t.1 [(36, ((t.1 36).1, (vp_updL ((t.1 36).2.1) 0 (((t.1 36).2.1 0) + (m : Int32).toInt64)), (t.1 36).2.2)), (37, ((upd ((t.1 37).1) 0 (((t.1 37).1 0) + m)), (t.1 37).2.1, (t.1 37).2.2)), (38, ((t.1 38).1, lfd ((t.1 38).2.1) (fun e => chS m 1 e / 10) 4, (t.1 38).2.2)), (39, ((t.1 39).1, lfd ((t.1 39).2.1) (fun e => chS m 1 e) 4, (t.1 39).2.2)), (40, ((t.1 40).1, lfd ((t.1 40).2.1) (fun e => chS m 1 e - chS m 1 e / 10 * 10) 4, (t.1 40).2.2))], t.2)) (is := [0, 36, 37, 38, 39, 40, 41, 45, 46, 47, 48]) hi9 rfl ⟨kd_0.mpr rfl, kd_36.mpr rfl, kd_37.mpr rfl, kd_38.mpr rfl, kd_39.mpr rfl, kd_40.mpr rfl, kd_41.mpr rfl, kd_45.mpr rfl, kd_46.mpr rfl, kd_47.mpr rfl, kd_48.mpr rfl, trivial⟩ (by decide) (by decide) (fun i hi hn => zup_out (fun q => hn ((by decide : ∀ j ∈ ([36, 37, 38, 39, 40] : List Nat), j ∈ ([0, 36, 37, 38, 39, 40, 41, 45, 46, 47, 48] : List Nat)) i q))) (fun h => h) rfl⟩
set_option maxHeartbeats 4000000 in
theorem Qx_Ip_charge102G {g : zG} {ad : Nat → Nat} {t : zTT} {u : zNN} {w : zW} (hI : IV g ad t u w) (m : Int32) (hw : (1 ≤ m ∧ m ≤ 1000)) (hg : 3000 < ((t.1 37).1 0) + m) : zMB g M_Ip_charge [.ref (ad 0), .int 102, .int m] w (fun o w1 => o = .inr "java/lang/IllegalStateException" ∧ IV g ad t u w1) 1 6 := by
  obtain ⟨e_a, w_a, k_a⟩ := hI.1.2 0 (by decide)
  obtain rfl := kd_0.mp k_a
  obtain ⟨e_fu, w_fu, k_fu⟩ := hI.1.2 36 (by decide)
  obtain rfl := kd_36.mp k_fu
  obtain ⟨e_fub, w_fub, k_fub⟩ := hI.1.2 37 (by decide)
  obtain rfl := kd_37.mp k_fub
  obtain ⟨e_fubg, w_fubg, k_fubg⟩ := hI.1.2 38 (by decide)
  obtain rfl := kd_38.mp k_fubg
  obtain ⟨e_fut1, w_fut1, k_fut1⟩ := hI.1.2 39 (by decide)
  obtain rfl := kd_39.mp k_fut1
  obtain ⟨e_fut2, w_fut2, k_fut2⟩ := hI.1.2 40 (by decide)
  obtain rfl := kd_40.mp k_fut2
  obtain ⟨e_fut3, w_fut3, k_fut3⟩ := hI.1.2 41 (by decide)
  obtain rfl := kd_41.mp k_fut3
  obtain ⟨e_gy, w_gy, k_gy⟩ := hI.1.2 45 (by decide)
  obtain rfl := kd_45.mp k_gy
  obtain ⟨e_gyg, w_gyg, k_gyg⟩ := hI.1.2 46 (by decide)
  obtain rfl := kd_46.mp k_gyg
  obtain ⟨e_du, w_du, k_du⟩ := hI.1.2 47 (by decide)
  obtain rfl := kd_47.mp k_du
  obtain ⟨e_dug, w_dug, k_dug⟩ := hI.1.2 48 (by decide)
  obtain rfl := kd_48.mp k_dug
  refine ((C_Ip_charge102G g (ad 0) (ad 1) (ad 5) (ad 18) (ad 31) (ad 32) (ad 36) (ad 42) (ad 45) (ad 47) (ad 49) (ad 50) (ad 51) (ad 43) (ad 44) (ad 46) (ad 48) (ad 37) (ad 38) (ad 39) (ad 40) (ad 41) ((t.1 38).2.1) ((t.1 39).2.1) ((t.1 40).2.1) ((t.1 41).2.1) ((t.1 46).2.1) ((t.1 48).2.1) ((t.1 37).1 0) ((t.1 45).1 0) ((t.1 47).1 0) ((t.1 36).2.1 0) m hw hg).at (hI.1.I [0, 36, 37, 38, 39, 40, 41, 45, 46, 47, 48] _ rfl (by decide) (by decide) (List.forall_mem_cons.mpr ⟨w_a, (List.forall_mem_cons.mpr ⟨w_fu, (List.forall_mem_cons.mpr ⟨w_fub, (List.forall_mem_cons.mpr ⟨w_fubg, (List.forall_mem_cons.mpr ⟨w_fut1, (List.forall_mem_cons.mpr ⟨w_fut2, (List.forall_mem_cons.mpr ⟨w_fut3, (List.forall_mem_cons.mpr ⟨w_gy, (List.forall_mem_cons.mpr ⟨w_gyg, (List.forall_mem_cons.mpr ⟨w_du, (List.forall_mem_cons.mpr ⟨w_dug, (fun _ h => nomatch h)⟩)⟩)⟩)⟩)⟩)⟩)⟩)⟩)⟩)⟩)⟩))).mono (Nat.le_of_ble_eq_true rfl) (Nat.le_of_ble_eq_true rfl) (fun o w1 hp => ?_)
  obtain ⟨cs1, hp, hi9⟩ := hp
  obtain ⟨e1, e2⟩ := hp
  subst e1; subst e2
  exact ⟨rfl, hI.fix (t2 := t) (is := [0, 36, 37, 38, 39, 40, 41, 45, 46, 47, 48]) hi9 rfl ⟨kd_0.mpr rfl, kd_36.mpr rfl, kd_37.mpr rfl, kd_38.mpr rfl, kd_39.mpr rfl, kd_40.mpr rfl, kd_41.mpr rfl, kd_45.mpr rfl, kd_46.mpr rfl, kd_47.mpr rfl, kd_48.mpr rfl, trivial⟩ (by decide) (by decide) (fun _ _ _ => rfl) (fun h => h) rfl⟩
set_option maxHeartbeats 4000000 in
theorem Qx_Ip_charge102N {g : zG} {ad : Nat → Nat} {t : zTT} {u : zNN} {w : zW} (hI : IV g ad t u w) (m : Int32) (hw : (1 ≤ m ∧ m ≤ 1000)) (hg : ¬ 3000 < ((t.1 37).1 0) + m) : zMB g M_Ip_charge [.ref (ad 0), .int 102, .int m] w (fun o w1 => o = .inl (some (.int (((t.1 37).1 0) + m))) ∧ IV g ad (zup t.1 [(36, ((t.1 36).1, (vp_updL ((t.1 36).2.1) 0 (((t.1 36).2.1 0) + (m : Int32).toInt64)), (t.1 36).2.2)), (37, ((upd ((t.1 37).1) 0 (((t.1 37).1 0) + m)), (t.1 37).2.1, (t.1 37).2.2)), (38, ((t.1 38).1, lfd ((t.1 38).2.1) (fun e => chS m 2 e / 10) 4, (t.1 38).2.2)), (39, ((t.1 39).1, lfd ((t.1 39).2.1) (fun e => chS m 2 e) 4, (t.1 39).2.2)), (40, ((t.1 40).1, lfd ((t.1 40).2.1) (fun e => chS m 2 e - chS m 2 e / 10 * 10) 4, (t.1 40).2.2))], t.2) u w1) 1 6 := by
  obtain ⟨e_a, w_a, k_a⟩ := hI.1.2 0 (by decide)
  obtain rfl := kd_0.mp k_a
  obtain ⟨e_fu, w_fu, k_fu⟩ := hI.1.2 36 (by decide)
  obtain rfl := kd_36.mp k_fu
  obtain ⟨e_fub, w_fub, k_fub⟩ := hI.1.2 37 (by decide)
  obtain rfl := kd_37.mp k_fub
  obtain ⟨e_fubg, w_fubg, k_fubg⟩ := hI.1.2 38 (by decide)
  obtain rfl := kd_38.mp k_fubg
  obtain ⟨e_fut1, w_fut1, k_fut1⟩ := hI.1.2 39 (by decide)
  obtain rfl := kd_39.mp k_fut1
  obtain ⟨e_fut2, w_fut2, k_fut2⟩ := hI.1.2 40 (by decide)
  obtain rfl := kd_40.mp k_fut2
  obtain ⟨e_fut3, w_fut3, k_fut3⟩ := hI.1.2 41 (by decide)
  obtain rfl := kd_41.mp k_fut3
  obtain ⟨e_gy, w_gy, k_gy⟩ := hI.1.2 45 (by decide)
  obtain rfl := kd_45.mp k_gy
  obtain ⟨e_gyg, w_gyg, k_gyg⟩ := hI.1.2 46 (by decide)
  obtain rfl := kd_46.mp k_gyg
  obtain ⟨e_du, w_du, k_du⟩ := hI.1.2 47 (by decide)
  obtain rfl := kd_47.mp k_du
  obtain ⟨e_dug, w_dug, k_dug⟩ := hI.1.2 48 (by decide)
  obtain rfl := kd_48.mp k_dug
  refine ((C_Ip_charge102N g (ad 0) (ad 1) (ad 5) (ad 18) (ad 31) (ad 32) (ad 36) (ad 42) (ad 45) (ad 47) (ad 49) (ad 50) (ad 51) (ad 43) (ad 44) (ad 46) (ad 48) (ad 37) (ad 38) (ad 39) (ad 40) (ad 41) ((t.1 38).2.1) ((t.1 39).2.1) ((t.1 40).2.1) ((t.1 41).2.1) ((t.1 46).2.1) ((t.1 48).2.1) ((t.1 37).1 0) ((t.1 45).1 0) ((t.1 47).1 0) ((t.1 36).2.1 0) m hw hg).at (hI.1.I [0, 36, 37, 38, 39, 40, 41, 45, 46, 47, 48] _ rfl (by decide) (by decide) (List.forall_mem_cons.mpr ⟨w_a, (List.forall_mem_cons.mpr ⟨w_fu, (List.forall_mem_cons.mpr ⟨w_fub, (List.forall_mem_cons.mpr ⟨w_fubg, (List.forall_mem_cons.mpr ⟨w_fut1, (List.forall_mem_cons.mpr ⟨w_fut2, (List.forall_mem_cons.mpr ⟨w_fut3, (List.forall_mem_cons.mpr ⟨w_gy, (List.forall_mem_cons.mpr ⟨w_gyg, (List.forall_mem_cons.mpr ⟨w_du, (List.forall_mem_cons.mpr ⟨w_dug, (fun _ h => nomatch h)⟩)⟩)⟩)⟩)⟩)⟩)⟩)⟩)⟩)⟩)⟩))).mono (Nat.le_of_ble_eq_true rfl) (Nat.le_of_ble_eq_true rfl) (fun o w1 hp => ?_)
  obtain ⟨cs1, hp, hi9⟩ := hp
  obtain ⟨e1, e2⟩ := hp
  subst e1; subst e2
  exact ⟨rfl, hI.fix (t2 := (zup t.1 [(36, ((t.1 36).1, (vp_updL ((t.1 36).2.1) 0 (((t.1 36).2.1 0) + (m : Int32).toInt64)), (t.1 36).2.2)), (37, ((upd ((t.1 37).1) 0 (((t.1 37).1 0) + m)), (t.1 37).2.1, (t.1 37).2.2)), (38, ((t.1 38).1, lfd ((t.1 38).2.1) (fun e => chS m 2 e / 10) 4, (t.1 38).2.2)), (39, ((t.1 39).1, lfd ((t.1 39).2.1) (fun e => chS m 2 e) 4, (t.1 39).2.2)), (40, ((t.1 40).1, lfd ((t.1 40).2.1) (fun e => chS m 2 e - chS m 2 e / 10 * 10) 4, (t.1 40).2.2))], t.2)) (is := [0, 36, 37, 38, 39, 40, 41, 45, 46, 47, 48]) hi9 rfl ⟨kd_0.mpr rfl, kd_36.mpr rfl, kd_37.mpr rfl, kd_38.mpr rfl, kd_39.mpr rfl, kd_40.mpr rfl, kd_41.mpr rfl, kd_45.mpr rfl, kd_46.mpr rfl, kd_47.mpr rfl, kd_48.mpr rfl, trivial⟩ (by decide) (by decide) (fun i hi hn => zup_out (fun q => hn ((by decide : ∀ j ∈ ([36, 37, 38, 39, 40] : List Nat), j ∈ ([0, 36, 37, 38, 39, 40, 41, 45, 46, 47, 48] : List Nat)) i q))) (fun h => h) rfl⟩
