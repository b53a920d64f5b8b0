theorem K_Ip_part {g : zG} {ad : Nat → Nat} {t : zTT} {u : zNN} {w : zW} (hI : IVm g ad t u w) (r : Int32) : zMB g M_Ip_part [.ref (ad 0), .int r] w (CKx g ad (tK_Ip_part r t) u.1 ["java/lang/IllegalArgumentException"]) 10 300 := by
  obtain ⟨s, hI⟩ := hI
  by_cases hw : 1 ≤ r ∧ r ≤ 8
  · obtain ⟨p9, hp9, e9⟩ := z_in20 (b := 8) (by decide) ⟨Int32.le_trans (by decide) hw.1, hw.2⟩
    subst e9
    have h1 : 1 ≤ p9 := z_1n hw.1 (by omega)
    have eT : (tK_Ip_part (nI p9) t) = (zup t.1 [(1, ((t.1 1).1, (t.1 1).2.1, (fun z => ([p9] : List Nat).getD z 0)))], t.2) := by unfold tK_Ip_part; rw [if_pos hw, nI_clamp (by omega)]
    rw [eT]
    exact (Qx_Ip_partN hI p9 h1 (by omega) (fun q => q.elim (fun q1 => absurd hw.1 (Int32.not_le.mpr q1)) (fun q1 => absurd hw.2 (Int32.not_le.mpr (Int32.lt_of_lt_of_le (by decide) q1))))).mono (by decide) (by decide) (fun o w1 h => ⟨zri.vl h.1, u, rfl, IVm.zu h.2⟩)
  · have eT : (tK_Ip_part r t) = t := by unfold tK_Ip_part; rw [if_neg hw]
    rw [eT]
    exact (Qx_Ip_partE hI r (z_pr9 hw)).mono (by decide) (by decide) (fun o w1 h => ⟨zri.th h.1 (by simp), u, rfl, ⟨_, h.2⟩⟩)
set_option maxHeartbeats 4000000 in
theorem Qx_Mm_partN {g : zG} {ad : Nat → Nat} {t : zTT} {u : zNN} {w : zW} (hI : IV g ad t u w) (p9 : Nat) (h1 : 1 ≤ p9) (h2 : p9 < 9) (hw : (1 ≤ (nI p9) ∧ (nI p9) ≤ 8)) : zMB g M_Mm_part [.ref (ad 52), .int (nI p9)] w (fun o w1 => o = .inl (some (.int (nI ((t.1 52).2.2 0)))) ∧ IV g ad (zup t.1 [(52, ((t.1 52).1, (t.1 52).2.1, (fun z => ([p9] : List Nat).getD z 0)))], t.2) u w1) 0 0 := by
  obtain ⟨e_m, w_m, k_m⟩ := hI.1.2 52 (by decide)
  obtain ⟨v_m_th, rfl⟩ := kd_52.mp k_m
  refine ((C_Mm_partN g (ad 52) (ad 53) (ad 54) (ad 55) (ad 56) (ad 57) (ad 58) (ad 59) (ad 60) (ad 61) (ad 62) (ad 63) (ad 64) (ad 65) (ad 66) (ad 67) (ad 68) v_m_th (nI ((t.1 52).2.2 0)) ((t.1 52).1 0) ((t.1 52).1 1) ((t.1 52).1 2) ((t.1 52).1 3) ((t.1 52).1 4) ((t.1 52).1 5) ((t.1 52).1 6) ((t.1 52).1 7) ((t.1 52).1 8) ((t.1 52).1 9) ((t.1 52).1 10) ((t.1 52).2.1 0) ((t.1 52).2.1 1) (nI p9) hw).at (hI.1.I [52] _ rfl (by decide) (by decide) (List.forall_mem_cons.mpr ⟨w_m, (fun _ h => nomatch h)⟩))).mono (Nat.le_of_ble_eq_true rfl) (Nat.le_of_ble_eq_true rfl) (fun o w1 hp => ?_)
  obtain ⟨cs1, hp, hi9⟩ := hp
  obtain ⟨e1, e2⟩ := hp
  subst e1; subst e2
  exact ⟨rfl, hI.fix (t2 := (zup t.1 [(52, ((t.1 52).1, (t.1 52).2.1, (fun z => ([p9] : List Nat).getD z 0)))], t.2)) (is := [52]) hi9 rfl ⟨kd_52.mpr ⟨_, rfl⟩, trivial⟩ (by decide) (by decide) (fun i hi hn => zup_out (fun q => hn ((by decide : ∀ j ∈ ([52] : List Nat), j ∈ ([52] : List Nat)) i q))) (fun h => ⟨h.1, h.2.1, h.2.2.1, ⟨h1, h2⟩⟩) rfl⟩
set_option maxHeartbeats 4000000 in
theorem Qx_Mm_partE {g : zG} {ad : Nat → Nat} {t : zTT} {u : zNN} {w : zW} (hI : IV g ad t u w) (r : Int32) (hw : ¬ (1 ≤ r ∧ r ≤ 8)) : zMB g M_Mm_part [.ref (ad 52), .int r] w (fun o w1 => o = .inl (some (.int 0)) ∧ IV g ad t u w1) 0 0 := by
  obtain ⟨e_m, w_m, k_m⟩ := hI.1.2 52 (by decide)
  obtain ⟨v_m_th, rfl⟩ := kd_52.mp k_m
  refine ((C_Mm_partE g (ad 52) (ad 53) (ad 54) (ad 55) (ad 56) (ad 57) (ad 58) (ad 59) (ad 60) (ad 61) (ad 62) (ad 63) (ad 64) (ad 65) (ad 66) (ad 67) (ad 68) v_m_th (nI ((t.1 52).2.2 0)) ((t.1 52).1 0) ((t.1 52).1 1) ((t.1 52).1 2) ((t.1 52).1 3) ((t.1 52).1 4) ((t.1 52).1 5) ((t.1 52).1 6) ((t.1 52).1 7) ((t.1 52).1 8) ((t.1 52).1 9) ((t.1 52).1 10) ((t.1 52).2.1 0) ((t.1 52).2.1 1) r hw).at (hI.1.I [52] _ rfl (by decide) (by decide) (List.forall_mem_cons.mpr ⟨w_m, (fun _ h => nomatch h)⟩))).mono (Nat.le_of_ble_eq_true rfl) (Nat.le_of_ble_eq_true rfl) (fun o w1 hp => ?_)
  obtain ⟨cs1, hp, hi9⟩ := hp
  obtain ⟨e1, e2⟩ := hp
  subst e1; subst e2
  exact ⟨rfl, hI.fix (t2 := t) (is := [52]) hi9 rfl ⟨kd_52.mpr ⟨_, rfl⟩, trivial⟩ (by decide) (by decide) (fun _ _ _ => rfl) (fun h => h) rfl⟩
noncomputable def tK_Mm_part (r : Int32) (t : zTT) : zTT := (if 1 ≤ r ∧ r ≤ 8 then (zup t.1 [(52, ((t.1 52).1, (t.1 52).2.1, (fun z => ([r.toNatClampNeg] : List Nat).getD z 0)))], t.2) else t)
theorem K_Mm_part {g : zG} {ad : Nat → Nat} {t : zTT} {u : zNN} {w : zW} (hI : IVm g ad t u w) (r : Int32) : zMB g M_Mm_part [.ref (ad 52), .int r] w (MKx g ad (tK_Mm_part r t) u.1) 10 300 := by
  obtain ⟨s, hI⟩ := hI
  by_cases hw : 1 ≤ r ∧ r ≤ 8
  · obtain ⟨p9, hp9, e9⟩ := z_in20 (b := 8) (by decide) ⟨Int32.le_trans (by decide) hw.1, hw.2⟩
    subst e9
    have h1 : 1 ≤ p9 := z_1n hw.1 (by omega)
    have eT : (tK_Mm_part (nI p9) t) = (zup t.1 [(52, ((t.1 52).1, (t.1 52).2.1, (fun z => ([p9] : List Nat).getD z 0)))], t.2) := by unfold tK_Mm_part; rw [if_pos hw, nI_clamp (by omega)]
    rw [eT]
    exact (Qx_Mm_partN hI p9 h1 (by omega) hw).mono (by decide) (by decide) (fun o w1 h => ⟨⟨_, h.1⟩, u, rfl, IVm.zu h.2⟩)
  · have eT : (tK_Mm_part r t) = t := by unfold tK_Mm_part; rw [if_neg hw]
    rw [eT]
    exact (Qx_Mm_partE hI r hw).mono (by decide) (by decide) (fun o w1 h => ⟨⟨_, h.1⟩, u, rfl, ⟨_, h.2⟩⟩)
set_option maxHeartbeats 4000000 in
theorem Qx_Ip_cores {g : zG} {ad : Nat → Nat} {t : zTT} {u : zNN} {w : zW} (hI : IV g ad t u w) : zMB g M_Ip_cores [.ref (ad 0)] w (fun o w1 => (∃ v : Int32, o = .inl (some (.int v))) ∧ IV g ad t u w1) 0 0 := by
  obtain ⟨e_a, w_a, k_a⟩ := hI.1.2 0 (by decide)
  obtain rfl := kd_0.mp k_a
  obtain ⟨e_pa, w_pa, k_pa⟩ := hI.1.2 1 (by decide)
  obtain rfl := kd_1.mp k_pa
  obtain ⟨e_pa1, w_pa1, k_pa1⟩ := hI.1.2 2 (by decide)
  obtain rfl := kd_2.mp k_pa1
  obtain ⟨e_pa2, w_pa2, k_pa2⟩ := hI.1.2 3 (by decide)
  obtain ⟨v_pa2_f, rfl⟩ := kd_3.mp k_pa2
  obtain ⟨e_pa3, w_pa3, k_pa3⟩ := hI.1.2 4 (by decide)
  obtain ⟨v_pa3_h, rfl⟩ := kd_4.mp k_pa3
  refine ((C_Ip_cores g (ad 0) (ad 1) (ad 5) (ad 18) (ad 31) (ad 32) (ad 36) (ad 42) (ad 45) (ad 47) (ad 49) (ad 50) (ad 51) (ad 2) (ad 3) (ad 4) ((t.1 2).1) v_pa2_f v_pa3_h ((t.1 1).2.2 0)).at (hI.1.I [0, 1, 2, 3, 4] _ rfl (by decide) (by decide) (List.forall_mem_cons.mpr ⟨w_a, (List.forall_mem_cons.mpr ⟨w_pa, (List.forall_mem_cons.mpr ⟨w_pa1, (List.forall_mem_cons.mpr ⟨w_pa2, (List.forall_mem_cons.mpr ⟨w_pa3, (fun _ h => nomatch h)⟩)⟩)⟩)⟩)⟩))).mono (Nat.le_of_ble_eq_true rfl) (Nat.le_of_ble_eq_true rfl) (fun o w1 hp => ?_)
  obtain ⟨cs1, hp, hi9⟩ := hp
  obtain ⟨e1, e2⟩ := hp
  subst e1; subst e2
  exact ⟨⟨_, rfl⟩, hI.fix (t2 := t) (is := [0, 1, 2, 3, 4]) hi9 rfl ⟨kd_0.mpr rfl, kd_1.mpr rfl, kd_2.mpr rfl, kd_3.mpr ⟨_, rfl⟩, kd_4.mpr ⟨_, rfl⟩, trivial⟩ (by decide) (by decide) (fun _ _ _ => rfl) (fun h => h) rfl⟩
theorem K_Ip_cores {g : zG} {ad : Nat → Nat} {t : zTT} {u : zNN} {w : zW} (hI : IVm g ad t u w) : zMB g M_Ip_cores [.ref (ad 0)] w (CKx g ad t u.1 []) 10 300 := by
  obtain ⟨s, hI⟩ := hI
  exact (Qx_Ip_cores hI).mono (by decide) (by decide) (fun o w1 h => ⟨(Or.inl h.1 : zri _ _), u, rfl, ⟨_, h.2⟩⟩)
set_option maxHeartbeats 4000000 in
theorem Qx_Ip_loose {g : zG} {ad : Nat → Nat} {t : zTT} {u : zNN} {w : zW} (hI : IV g ad t u w) : zMB g M_Ip_loose [.ref (ad 0)] w (fun o w1 => (∃ v : Int32, o = .inl (some (.int v))) ∧ IV g ad t u w1) 0 0 := by
  obtain ⟨e_a, w_a, k_a⟩ := hI.1.2 0 (by decide)
  obtain rfl := kd_0.mp k_a
  obtain ⟨e_pa, w_pa, k_pa⟩ := hI.1.2 1 (by decide)
  obtain rfl := kd_1.mp k_pa
  obtain ⟨e_pa1, w_pa1, k_pa1⟩ := hI.1.2 2 (by decide)
  obtain rfl := kd_2.mp k_pa1
  obtain ⟨e_pa2, w_pa2, k_pa2⟩ := hI.1.2 3 (by decide)
  obtain ⟨v_pa2_f, rfl⟩ := kd_3.mp k_pa2
  obtain ⟨e_pa3, w_pa3, k_pa3⟩ := hI.1.2 4 (by decide)
  obtain ⟨v_pa3_h, rfl⟩ := kd_4.mp k_pa3
  refine ((C_Ip_loose g (ad 0) (ad 1) (ad 5) (ad 18) (ad 31) (ad 32) (ad 36) (ad 42) (ad 45) (ad 47) (ad 49) (ad 50) (ad 51) (ad 2) (ad 3) (ad 4) ((t.1 2).1) v_pa2_f v_pa3_h ((t.1 1).2.2 0)).at (hI.1.I [0, 1, 2, 3, 4] _ rfl (by decide) (by decide) (List.forall_mem_cons.mpr ⟨w_a, (List.forall_mem_cons.mpr ⟨w_pa, (List.forall_mem_cons.mpr ⟨w_pa1, (List.forall_mem_cons.mpr ⟨w_pa2, (List.forall_mem_cons.mpr ⟨w_pa3, (fun _ h => nomatch h)⟩)⟩)⟩)⟩)⟩))).mono (Nat.le_of_ble_eq_true rfl) (Nat.le_of_ble_eq_true rfl) (fun o w1 hp => ?_)
  obtain ⟨cs1, hp, hi9⟩ := hp
  obtain ⟨e1, e2⟩ := hp
  subst e1; subst e2
  exact ⟨⟨_, rfl⟩, hI.fix (t2 := t) (is := [0, 1, 2, 3, 4]) hi9 rfl ⟨kd_0.mpr rfl, kd_1.mpr rfl, kd_2.mpr rfl, kd_3.mpr ⟨_, rfl⟩, kd_4.mpr ⟨_, rfl⟩, trivial⟩ (by decide) (by decide) (fun _ _ _ => rfl) (fun h => h) rfl⟩
theorem K_Ip_loose {g : zG} {ad : Nat → Nat} {t : zTT} {u : zNN} {w : zW} (hI : IVm g ad t u w) : zMB g M_Ip_loose [.ref (ad 0)] w (CKx g ad t u.1 []) 10 300 := by
  obtain ⟨s, hI⟩ := hI
  exact (Qx_Ip_loose hI).mono (by decide) (by decide) (fun o w1 h => ⟨(Or.inl h.1 : zri _ _), u, rfl, ⟨_, h.2⟩⟩)
set_option maxHeartbeats 4000000 in
theorem Qx_Ip_goodCores {g : zG} {ad : Nat → Nat} {t : zTT} {u : zNN} {w : zW} (hI : IV g ad t u w) : zMB g M_Ip_goodCores [.ref (ad 0)] w (fun o w1 => o = .inl (some (.int (bx_sum (fun k => if gdB ((t.1 34).1) ((t.1 35).1) k then ((t.1 33).1) k else 0) ((t.1 32).2.2 0)))) ∧ IV g ad t u w1) 0 0 := by
  obtain ⟨e_a, w_a, k_a⟩ := hI.1.2 0 (by decide)
  obtain rfl := kd_0.mp k_a
  obtain ⟨e_co, w_co, k_co⟩ := hI.1.2 32 (by decide)
  obtain ⟨c_co_0, rfl⟩ := kd_32.mp k_co
  obtain ⟨e_co1, w_co1, k_co1⟩ := hI.1.2 33 (by decide)
  obtain rfl := kd_33.mp k_co1
  obtain ⟨e_co2, w_co2, k_co2⟩ := hI.1.2 34 (by decide)
  obtain rfl := kd_34.mp k_co2
  obtain ⟨e_co3, w_co3, k_co3⟩ := hI.1.2 35 (by decide)
  obtain rfl := kd_35.mp k_co3
  refine ((C_Ip_goodCores g (ad 0) (ad 1) (ad 5) (ad 18) (ad 31) (ad 32) (ad 36) (ad 42) (ad 45) (ad 47) (ad 49) (ad 50) (ad 51) (ad 33) (ad 34) (ad 35) ((t.1 33).1) ((t.1 34).1) ((t.1 35).1) ((t.1 32).2.2 0) c_co_0).at (hI.1.I [0, 32, 33, 34, 35] _ rfl (by decide) (by decide) (List.forall_mem_cons.mpr ⟨w_a, (List.forall_mem_cons.mpr ⟨w_co, (List.forall_mem_cons.mpr ⟨w_co1, (List.forall_mem_cons.mpr ⟨w_co2, (List.forall_mem_cons.mpr ⟨w_co3, (fun _ h => nomatch h)⟩)⟩)⟩)⟩)⟩))).mono (Nat.le_of_ble_eq_true rfl) (Nat.le_of_ble_eq_true rfl) (fun o w1 hp => ?_)
  obtain ⟨cs1, hp, hi9⟩ := hp
  obtain ⟨e1, e2⟩ := hp
  subst e1; subst e2
  exact ⟨rfl, hI.fix (t2 := t) (is := [0, 32, 33, 34, 35]) hi9 rfl ⟨kd_0.mpr rfl, kd_32.mpr ⟨c_co_0, rfl⟩, kd_33.mpr rfl, kd_34.mpr rfl, kd_35.mpr rfl, trivial⟩ (by decide) (by decide) (fun _ _ _ => rfl) (fun h => h) rfl⟩
theorem K_Ip_goodCores {g : zG} {ad : Nat → Nat} {t : zTT} {u : zNN} {w : zW} (hI : IVm g ad t u w) : zMB g M_Ip_goodCores [.ref (ad 0)] w (CKx g ad t u.1 []) 10 300 := by
  obtain ⟨s, hI⟩ := hI
  exact (Qx_Ip_goodCores hI).mono (by decide) (by decide) (fun o w1 h => ⟨zri.vl h.1, u, rfl, ⟨_, h.2⟩⟩)
set_option maxHeartbeats 4000000 in
theorem Qx_Ip_undercut {g : zG} {ad : Nat → Nat} {t : zTT} {u : zNN} {w : zW} (hI : IV g ad t u w) : zMB g M_Ip_undercut [.ref (ad 0)] w (fun o w1 => o = .inl (some (.int (nI (ucT ((t.1 2).1) ((t.1 1).2.2 0) 12)))) ∧ IV g ad t u w1) 0 0 := by
  obtain ⟨e_a, w_a, k_a⟩ := hI.1.2 0 (by decide)
  obtain rfl := kd_0.mp k_a
  obtain ⟨e_pa, w_pa, k_pa⟩ := hI.1.2 1 (by decide)
  obtain rfl := kd_1.mp k_pa
  obtain ⟨e_pa1, w_pa1, k_pa1⟩ := hI.1.2 2 (by decide)
  obtain rfl := kd_2.mp k_pa1
  obtain ⟨e_pa2, w_pa2, k_pa2⟩ := hI.1.2 3 (by decide)
  obtain ⟨v_pa2_f, rfl⟩ := kd_3.mp k_pa2
  obtain ⟨e_pa3, w_pa3, k_pa3⟩ := hI.1.2 4 (by decide)
  obtain ⟨v_pa3_h, rfl⟩ := kd_4.mp k_pa3
  refine ((C_Ip_undercut g (ad 0) (ad 1) (ad 5) (ad 18) (ad 31) (ad 32) (ad 36) (ad 42) (ad 45) (ad 47) (ad 49) (ad 50) (ad 51) (ad 2) (ad 3) (ad 4) ((t.1 2).1) v_pa2_f v_pa3_h ((t.1 1).2.2 0) hI.2.2.2.2.1.1 hI.2.2.2.2.1.2).at (hI.1.I [0, 1, 2, 3, 4] _ rfl (by decide) (by decide) (List.forall_mem_cons.mpr ⟨w_a, (List.forall_mem_cons.mpr ⟨w_pa, (List.forall_mem_cons.mpr ⟨w_pa1, (List.forall_mem_cons.mpr ⟨w_pa2, (List.forall_mem_cons.mpr ⟨w_pa3, (fun _ h => nomatch h)⟩)⟩)⟩)⟩)⟩))).mono (Nat.le_of_ble_eq_true rfl) (Nat.le_of_ble_eq_true rfl) (fun o w1 hp => ?_)
  obtain ⟨cs1, hp, hi9⟩ := hp
  obtain ⟨e1, e2⟩ := hp
  subst e1; subst e2
  exact ⟨rfl, hI.fix (t2 := t) (is := [0, 1, 2, 3, 4]) hi9 rfl ⟨kd_0.mpr rfl, kd_1.mpr rfl, kd_2.mpr rfl, kd_3.mpr ⟨_, rfl⟩, kd_4.mpr ⟨_, rfl⟩, trivial⟩ (by decide) (by decide) (fun _ _ _ => rfl) (fun h => h) rfl⟩
theorem K_Ip_undercut {g : zG} {ad : Nat → Nat} {t : zTT} {u : zNN} {w : zW} (hI : IVm g ad t u w) : zMB g M_Ip_undercut [.ref (ad 0)] w (CKx g ad t u.1 []) 10 300 := by
  obtain ⟨s, hI⟩ := hI
  exact (Qx_Ip_undercut hI).mono (by decide) (by decide) (fun o w1 h => ⟨zri.vl h.1, u, rfl, ⟨_, h.2⟩⟩)
set_option maxHeartbeats 4000000 in
theorem Qx_Ip_weight {g : zG} {ad : Nat → Nat} {t : zTT} {u : zNN} {w : zW} (hI : IV g ad t u w) : zMB g M_Ip_weight [.ref (ad 0)] w (fun o w1 => o = .inl (some (.int (2 * nI (fa_cnt (fun k => tmB (((t.1 2).1) k)) 108)))) ∧ IV g ad t u w1) 0 0 := by
  obtain ⟨e_a, w_a, k_a⟩ := hI.1.2 0 (by decide)
  obtain rfl := kd_0.mp k_a
  obtain ⟨e_pa, w_pa, k_pa⟩ := hI.1.2 1 (by decide)
  obtain rfl := kd_1.mp k_pa
  obtain ⟨e_pa1, w_pa1, k_pa1⟩ := hI.1.2 2 (by decide)
  obtain rfl := kd_2.mp k_pa1
  obtain ⟨e_pa2, w_pa2, k_pa2⟩ := hI.1.2 3 (by decide)
  obtain ⟨v_pa2_f, rfl⟩ := kd_3.mp k_pa2
  obtain ⟨e_pa3, w_pa3, k_pa3⟩ := hI.1.2 4 (by decide)
  obtain ⟨v_pa3_h, rfl⟩ := kd_4.mp k_pa3
  refine ((C_Ip_weight g (ad 0) (ad 1) (ad 5) (ad 18) (ad 31) (ad 32) (ad 36) (ad 42) (ad 45) (ad 47) (ad 49) (ad 50) (ad 51) (ad 2) (ad 3) (ad 4) ((t.1 2).1) v_pa2_f v_pa3_h ((t.1 1).2.2 0)).at (hI.1.I [0, 1, 2, 3, 4] _ rfl (by decide) (by decide) (List.forall_mem_cons.mpr ⟨w_a, (List.forall_mem_cons.mpr ⟨w_pa, (List.forall_mem_cons.mpr ⟨w_pa1, (List.forall_mem_cons.mpr ⟨w_pa2, (List.forall_mem_cons.mpr ⟨w_pa3, (fun _ h => nomatch h)⟩)⟩)⟩)⟩)⟩))).mono (Nat.le_of_ble_eq_true rfl) (Nat.le_of_ble_eq_true rfl) (fun o w1 hp => ?_)
  obtain ⟨cs1, hp, hi9⟩ := hp
  obtain ⟨e1, e2⟩ := hp
  subst e1; subst e2
  exact ⟨rfl, hI.fix (t2 := t) (is := [0, 1, 2, 3, 4]) hi9 rfl ⟨kd_0.mpr rfl, kd_1.mpr rfl, kd_2.mpr rfl, kd_3.mpr ⟨_, rfl⟩, kd_4.mpr ⟨_, rfl⟩, trivial⟩ (by decide) (by decide) (fun _ _ _ => rfl) (fun h => h) rfl⟩
theorem K_Ip_weight {g : zG} {ad : Nat → Nat} {t : zTT} {u : zNN} {w : zW} (hI : IVm g ad t u w) : zMB g M_Ip_weight [.ref (ad 0)] w (CKx g ad t u.1 []) 10 300 := by
  obtain ⟨s, hI⟩ := hI
  exact (Qx_Ip_weight hI).mono (by decide) (by decide) (fun o w1 h => ⟨zri.vl h.1, u, rfl, ⟨_, h.2⟩⟩)
set_option maxHeartbeats 4000000 in
theorem Qx_Ip_cellN {g : zG} {ad : Nat → Nat} {t : zTT} {u : zNN} {w : zW} (hI : IV g ad t u w) (x : Int32) (y : Int32) (c : Nat) (hz : z_cl x y = some c) : zMB g M_Ip_cell [.ref (ad 0), .int x, .int y] w (fun o w1 => o = .inl (some (.int (((t.1 2).1) c))) ∧ IV g ad t u w1) 1 6 := by
  obtain ⟨e_a, w_a, k_a⟩ := hI.1.2 0 (by decide)
  obtain rfl := kd_0.mp k_a
  obtain ⟨e_pa, w_pa, k_pa⟩ := hI.1.2 1 (by decide)
  obtain rfl := kd_1.mp k_pa
  obtain ⟨e_pa1, w_pa1, k_pa1⟩ := hI.1.2 2 (by decide)
  obtain rfl := kd_2.mp k_pa1
  obtain ⟨e_pa2, w_pa2, k_pa2⟩ := hI.1.2 3 (by decide)
  obtain ⟨v_pa2_f, rfl⟩ := kd_3.mp k_pa2
  obtain ⟨e_pa3, w_pa3, k_pa3⟩ := hI.1.2 4 (by decide)
  obtain ⟨v_pa3_h, rfl⟩ := kd_4.mp k_pa3
  refine ((C_Ip_cellN g (ad 0) (ad 1) (ad 5) (ad 18) (ad 31) (ad 32) (ad 36) (ad 42) (ad 45) (ad 47) (ad 49) (ad 50) (ad 51) (ad 2) (ad 3) (ad 4) ((t.1 2).1) v_pa2_f v_pa3_h ((t.1 1).2.2 0) x y c hz hI.2.2.1).at (hI.1.I [0, 1, 2, 3, 4] _ rfl (by decide) (by decide) (List.forall_mem_cons.mpr ⟨w_a, (List.forall_mem_cons.mpr ⟨w_pa, (List.forall_mem_cons.mpr ⟨w_pa1, (List.forall_mem_cons.mpr ⟨w_pa2, (List.forall_mem_cons.mpr ⟨w_pa3, (fun _ h => nomatch h)⟩)⟩)⟩)⟩)⟩))).mono (Nat.le_of_ble_eq_true rfl) (Nat.le_of_ble_eq_true rfl) (fun o w1 hp => ?_)
  obtain ⟨cs1, hp, hi9⟩ := hp
  obtain ⟨e1, e2⟩ := hp
  subst e1; subst e2
  exact ⟨rfl, hI.fix (t2 := t) (is := [0, 1, 2, 3, 4]) hi9 rfl ⟨kd_0.mpr rfl, kd_1.mpr rfl, kd_2.mpr rfl, kd_3.mpr ⟨_, rfl⟩, kd_4.mpr ⟨_, rfl⟩, trivial⟩ (by decide) (by decide) (fun _ _ _ => rfl) (fun h => h) rfl⟩
set_option maxHeartbeats 4000000 in
theorem Qx_Ip_cellE {g : zG} {ad : Nat → Nat} {t : zTT} {u : zNN} {w : zW} (hI : IV g ad t u w) (x : Int32) (y : Int32) (hz : z_cl x y = none) : zMB g M_Ip_cell [.ref (ad 0), .int x, .int y] w (fun o w1 => o = .inr "java/lang/IndexOutOfBoundsException" ∧ IV g ad t u w1) 1 6 := by
  obtain ⟨e_a, w_a, k_a⟩ := hI.1.2 0 (by decide)
  obtain rfl := kd_0.mp k_a
  obtain ⟨e_pa, w_pa, k_pa⟩ := hI.1.2 1 (by decide)
  obtain rfl := kd_1.mp k_pa
  obtain ⟨e_pa1, w_pa1, k_pa1⟩ := hI.1.2 2 (by decide)
  obtain rfl := kd_2.mp k_pa1
  obtain ⟨e_pa2, w_pa2, k_pa2⟩ := hI.1.2 3 (by decide)
  obtain ⟨v_pa2_f, rfl⟩ := kd_3.mp k_pa2
  obtain ⟨e_pa3, w_pa3, k_pa3⟩ := hI.1.2 4 (by decide)
  obtain ⟨v_pa3_h, rfl⟩ := kd_4.mp k_pa3
  refine ((C_Ip_cellE g (ad 0) (ad 1) (ad 5) (ad 18) (ad 31) (ad 32) (ad 36) (ad 42) (ad 45) (ad 47) (ad 49) (ad 50) (ad 51) (ad 2) (ad 3) (ad 4) ((t.1 2).1) v_pa2_f v_pa3_h ((t.1 1).2.2 0) x y hz).at (hI.1.I [0, 1, 2, 3, 4] _ rfl (by decide) (by decide) (List.forall_mem_cons.mpr ⟨w_a, (List.forall_mem_cons.mpr ⟨w_pa, (List.forall_mem_cons.mpr ⟨w_pa1, (List.forall_mem_cons.mpr ⟨w_pa2, (List.forall_mem_cons.mpr ⟨w_pa3, (fun _ h => nomatch h)⟩)⟩)⟩)⟩)⟩))).mono (Nat.le_of_ble_eq_true rfl) (Nat.le_of_ble_eq_true rfl) (fun o w1 hp => ?_)
  obtain ⟨cs1, hp, hi9⟩ := hp
  obtain ⟨e1, e2⟩ := hp
  subst e1; subst e2
  exact ⟨rfl, hI.fix (t2 := t) (is := [0, 1, 2, 3, 4]) hi9 rfl ⟨kd_0.mpr rfl, kd_1.mpr rfl, kd_2.mpr rfl, kd_3.mpr ⟨_, rfl⟩, kd_4.mpr ⟨_, rfl⟩, trivial⟩ (by decide) (by decide) (fun _ _ _ => rfl) (fun h => h) rfl⟩
theorem K_Ip_cell {g : zG} {ad : Nat → Nat} {t : zTT} {u : zNN} {w : zW} (hI : IVm g ad t u w) (x y : Int32) : zMB g M_Ip_cell [.ref (ad 0), .int x, .int y] w (CKx g ad t u.1 ["java/lang/IndexOutOfBoundsException"]) 10 300 := by
  obtain ⟨s, hI⟩ := hI
  by_cases hq : 0 ≤ x ∧ x < 12 ∧ 0 ≤ y ∧ y < 9
  · obtain ⟨x0, y0, hx0, hy0, rfl, rfl, hz⟩ := z_cl_in hq
    exact (Qx_Ip_cellN hI (nI x0) (nI y0) _ hz).mono (by decide) (by decide) (fun o w1 h => ⟨zri.vl h.1, u, rfl, ⟨_, h.2⟩⟩)
  · exact (Qx_Ip_cellE hI x y (if_neg hq)).mono (by decide) (by decide) (fun o w1 h => ⟨zri.th h.1 (by simp), u, rfl, ⟨_, h.2⟩⟩)
set_option maxHeartbeats 4000000 in
theorem Qx_Ip_speedE {g : zG} {ad : Nat → Nat} {t : zTT} {u : zNN} {w : zW} (hI : IV g ad t u w) (hg : fa_cnt (fun k => decide (((t.1 2).1) k = 103)) 12 = 0) : zMB g M_Ip_speed [.ref (ad 0)] w (fun o w1 => o = .inr "java/util/NoSuchElementException" ∧ IV g ad t u w1) 1 6 := by
  obtain ⟨e_a, w_a, k_a⟩ := hI.1.2 0 (by decide)
  obtain rfl := kd_0.mp k_a
  obtain ⟨e_pa, w_pa, k_pa⟩ := hI.1.2 1 (by decide)
  obtain rfl := kd_1.mp k_pa
  obtain ⟨e_pa1, w_pa1, k_pa1⟩ := hI.1.2 2 (by decide)
  obtain rfl := kd_2.mp k_pa1
  obtain ⟨e_pa2, w_pa2, k_pa2⟩ := hI.1.2 3 (by decide)
  obtain ⟨v_pa2_f, rfl⟩ := kd_3.mp k_pa2
  obtain ⟨e_pa3, w_pa3, k_pa3⟩ := hI.1.2 4 (by decide)
  obtain ⟨v_pa3_h, rfl⟩ := kd_4.mp k_pa3
  refine ((C_Ip_speedE g (ad 0) (ad 1) (ad 5) (ad 18) (ad 31) (ad 32) (ad 36) (ad 42) (ad 45) (ad 47) (ad 49) (ad 50) (ad 51) (ad 2) (ad 3) (ad 4) ((t.1 2).1) v_pa2_f v_pa3_h ((t.1 1).2.2 0) hg).at (hI.1.I [0, 1, 2, 3, 4] _ rfl (by decide) (by decide) (List.forall_mem_cons.mpr ⟨w_a, (List.forall_mem_cons.mpr ⟨w_pa, (List.forall_mem_cons.mpr ⟨w_pa1, (List.forall_mem_cons.mpr ⟨w_pa2, (List.forall_mem_cons.mpr ⟨w_pa3, (fun _ h => nomatch h)⟩)⟩)⟩)⟩)⟩))).mono (Nat.le_of_ble_eq_true rfl) (Nat.le_of_ble_eq_true rfl) (fun o w1 hp => ?_)
  obtain ⟨cs1, hp, hi9⟩ := hp
  obtain ⟨e1, e2⟩ := hp
  subst e1; subst e2
  exact ⟨rfl, hI.fix (t2 := t) (is := [0, 1, 2, 3, 4]) hi9 rfl ⟨kd_0.mpr rfl, kd_1.mpr rfl, kd_2.mpr rfl, kd_3.mpr ⟨_, rfl⟩, kd_4.mpr ⟨_, rfl⟩, trivial⟩ (by decide) (by decide) (fun _ _ _ => rfl) (fun h => h) rfl⟩
set_option maxHeartbeats 4000000 in
theorem Qx_Ip_speedN {g : zG} {ad : Nat → Nat} {t : zTT} {u : zNN} {w : zW} (hI : IV g ad t u w) (hg : ¬ fa_cnt (fun k => decide (((t.1 2).1) k = 103)) 12 = 0) : zMB g M_Ip_speed [.ref (ad 0)] w (fun o w1 => o = .inl (some (.int (rsR ((t.1 2).1)))) ∧ IV g ad t u w1) 1 6 := by
  obtain ⟨e_a, w_a, k_a⟩ := hI.1.2 0 (by decide)
  obtain rfl := kd_0.mp k_a
  obtain ⟨e_pa, w_pa, k_pa⟩ := hI.1.2 1 (by decide)
  obtain rfl := kd_1.mp k_pa
  obtain ⟨e_pa1, w_pa1, k_pa1⟩ := hI.1.2 2 (by decide)
  obtain rfl := kd_2.mp k_pa1
  obtain ⟨e_pa2, w_pa2, k_pa2⟩ := hI.1.2 3 (by decide)
  obtain ⟨v_pa2_f, rfl⟩ := kd_3.mp k_pa2
  obtain ⟨e_pa3, w_pa3, k_pa3⟩ := hI.1.2 4 (by decide)
  obtain ⟨v_pa3_h, rfl⟩ := kd_4.mp k_pa3
  refine ((C_Ip_speedN g (ad 0) (ad 1) (ad 5) (ad 18) (ad 31) (ad 32) (ad 36) (ad 42) (ad 45) (ad 47) (ad 49) (ad 50) (ad 51) (ad 2) (ad 3) (ad 4) ((t.1 2).1) v_pa2_f v_pa3_h ((t.1 1).2.2 0) hg).at (hI.1.I [0, 1, 2, 3, 4] _ rfl (by decide) (by decide) (List.forall_mem_cons.mpr ⟨w_a, (List.forall_mem_cons.mpr ⟨w_pa, (List.forall_mem_cons.mpr ⟨w_pa1, (List.forall_mem_cons.mpr ⟨w_pa2, (List.forall_mem_cons.mpr ⟨w_pa3, (fun _ h => nomatch h)⟩)⟩)⟩)⟩)⟩))).mono (Nat.le_of_ble_eq_true rfl) (Nat.le_of_ble_eq_true rfl) (fun o w1 hp => ?_)
  obtain ⟨cs1, hp, hi9⟩ := hp
  obtain ⟨e1, e2⟩ := hp
  subst e1; subst e2
  exact ⟨rfl, hI.fix (t2 := t) (is := [0, 1, 2, 3, 4]) hi9 rfl ⟨kd_0.mpr rfl, kd_1.mpr rfl, kd_2.mpr rfl, kd_3.mpr ⟨_, rfl⟩, kd_4.mpr ⟨_, rfl⟩, trivial⟩ (by decide) (by decide) (fun _ _ _ => rfl) (fun h => h) rfl⟩
theorem K_Ip_speed {g : zG} {ad : Nat → Nat} {t : zTT} {u : zNN} {w : zW} (hI : IVm g ad t u w) : zMB g M_Ip_speed [.ref (ad 0)] w (CKx g ad t u.1 ["java/util/NoSuchElementException"]) 10 300 := by
  obtain ⟨s, hI⟩ := hI
  by_cases hg : fa_cnt (fun k => decide ((t.1 2).1 k = 103)) 12 = 0
  · exact (Qx_Ip_speedE hI hg).mono (by decide) (by decide) (fun o w1 h => ⟨zri.th h.1 (by simp), u, rfl, ⟨_, h.2⟩⟩)
  · exact (Qx_Ip_speedN hI hg).mono (by decide) (by decide) (fun o w1 h => ⟨zri.vl h.1, u, rfl, ⟨_, h.2⟩⟩)
