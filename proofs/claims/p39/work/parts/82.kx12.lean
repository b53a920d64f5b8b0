set_option maxHeartbeats 4000000 in
theorem Qx_Ip_millE {g : zG} {ad : Nat → Nat} {t : zTT} {u : zNN} {w : zW} (hI : IV g ad t u w) (m1 : Int32) (m2 : Int32) (m3 : Int32) (m4 : Int32) (hw : ¬ ((0 ≤ m1 ∧ m1 ≤ 20) ∧ (0 ≤ m2 ∧ m2 ≤ 20) ∧ (0 ≤ m3 ∧ m3 ≤ 20) ∧ (0 ≤ m4 ∧ m4 ≤ 50))) : zMB g M_Ip_mill [.ref (ad 0), .int m1, .int m2, .int m3, .int m4] w (fun o w1 => o = .inr "java/lang/IllegalArgumentException" ∧ IV g ad t u w1) 1 6 := by
  obtain ⟨e_a, w_a, k_a⟩ := hI.1.2 0 (by decide)
  obtain rfl := kd_0.mp k_a
  obtain ⟨e_gs, w_gs, k_gs⟩ := hI.1.2 31 (by decide)
  obtain rfl := kd_31.mp k_gs
  refine ((C_Ip_millE g (ad 0) (ad 1) (ad 5) (ad 18) (ad 31) (ad 32) (ad 36) (ad 42) (ad 45) (ad 47) (ad 49) (ad 50) (ad 51) ((t.1 31).1 0) ((t.1 31).1 1) ((t.1 31).1 2) ((t.1 31).1 3) ((t.1 31).1 4) m1 m2 m3 m4 hw).at (hI.1.I [0, 31] _ rfl (by decide) (by decide) (List.forall_mem_cons.mpr ⟨w_a, (List.forall_mem_cons.mpr ⟨w_gs, (fun _ h => nomatch h)⟩)⟩))).mono (Nat.le_of_ble_eq_true rfl) (Nat.le_of_ble_eq_true rfl) (fun o w1 hp => ?_)
  obtain ⟨cs1, hp, hi9⟩ := hp
  obtain ⟨e1, e2⟩ := hp
  subst e1; subst e2
  exact ⟨rfl, hI.fix (t2 := t) (is := [0, 31]) hi9 rfl ⟨kd_0.mpr rfl, kd_31.mpr rfl, trivial⟩ (by decide) (by decide) (fun _ _ _ => rfl) (fun h => h) rfl⟩
noncomputable def tK_Ip_mill (m1 m2 m3 m4 : Int32) (t : zTT) : zTT := (if (0 ≤ m1 ∧ m1 ≤ 20) ∧ (0 ≤ m2 ∧ m2 ≤ 20) ∧ (0 ≤ m3 ∧ m3 ≤ 20) ∧ (0 ≤ m4 ∧ m4 ≤ 50) then (zup t.1 [(31, ((upd (upd (upd (upd (upd ((t.1 31).1) 0 (if ((t.1 31).1 0) + m1 < 300 then ((t.1 31).1 0) + m1 else 300)) 1 (if ((t.1 31).1 1) + m2 < 300 then ((t.1 31).1 1) + m2 else 300)) 2 (if ((t.1 31).1 2) + m3 < 300 then ((t.1 31).1 2) + m3 else 300)) 3 (((t.1 31).1 3) - ((((t.1 31).1 3) * m4) / 100))) 4 (((t.1 31).1 4) - ((((t.1 31).1 4) * m4) / 100))), (t.1 31).2.1, (t.1 31).2.2))], t.2) else t)
theorem K_Ip_mill {g : zG} {ad : Nat → Nat} {t : zTT} {u : zNN} {w : zW} (hI : IVm g ad t u w) (m1 m2 m3 m4 : Int32) : zMB g M_Ip_mill [.ref (ad 0), .int m1, .int m2, .int m3, .int m4] w (CKx g ad (tK_Ip_mill m1 m2 m3 m4 t) u.1 ["java/lang/IllegalArgumentException"]) 10 300 := by
  obtain ⟨s, hI⟩ := hI
  by_cases hw : (0 ≤ m1 ∧ m1 ≤ 20) ∧ (0 ≤ m2 ∧ m2 ≤ 20) ∧ (0 ≤ m3 ∧ m3 ≤ 20) ∧ (0 ≤ m4 ∧ m4 ≤ 50)
  · have eT : (tK_Ip_mill m1 m2 m3 m4 t) = (zup t.1 [(31, ((upd (upd (upd (upd (upd ((t.1 31).1) 0 (if ((t.1 31).1 0) + m1 < 300 then ((t.1 31).1 0) + m1 else 300)) 1 (if ((t.1 31).1 1) + m2 < 300 then ((t.1 31).1 1) + m2 else 300)) 2 (if ((t.1 31).1 2) + m3 < 300 then ((t.1 31).1 2) + m3 else 300)) 3 (((t.1 31).1 3) - ((((t.1 31).1 3) * m4) / 100))) 4 (((t.1 31).1 4) - ((((t.1 31).1 4) * m4) / 100))), (t.1 31).2.1, (t.1 31).2.2))], t.2) := by unfold tK_Ip_mill; rw [if_pos hw]
    rw [eT]
    exact (Qx_Ip_millN hI m1 m2 m3 m4 hw).mono (by decide) (by decide) (fun o w1 h => ⟨zri.vl h.1, u, rfl, IVm.zu h.2⟩)
  · have eT : (tK_Ip_mill m1 m2 m3 m4 t) = t := by unfold tK_Ip_mill; rw [if_neg hw]
    rw [eT]
    exact (Qx_Ip_millE hI m1 m2 m3 m4 hw).mono (by decide) (by decide) (fun o w1 h => ⟨zri.th h.1 (by simp), u, rfl, ⟨_, h.2⟩⟩)
set_option maxHeartbeats 4000000 in
theorem Qx_Ip_sand99 {g : zG} {ad : Nat → Nat} {t : zTT} {u : zNN} {w : zW} (hI : IV g ad t u w) : zMB g M_Ip_sand [.ref (ad 0), .int 99] w (fun o w1 => o = .inl (some (.int ((t.1 31).1 0))) ∧ IV g ad t u w1) 1 6 := by
  obtain ⟨e_a, w_a, k_a⟩ := hI.1.2 0 (by decide)
  obtain rfl := kd_0.mp k_a
  obtain ⟨e_gs, w_gs, k_gs⟩ := hI.1.2 31 (by decide)
  obtain rfl := kd_31.mp k_gs
  refine ((C_Ip_sand99 g (ad 0) (ad 1) (ad 5) (ad 18) (ad 31) (ad 32) (ad 36) (ad 42) (ad 45) (ad 47) (ad 49) (ad 50) (ad 51) ((t.1 31).1 0) ((t.1 31).1 1) ((t.1 31).1 2) ((t.1 31).1 3) ((t.1 31).1 4)).at (hI.1.I [0, 31] _ rfl (by decide) (by decide) (List.forall_mem_cons.mpr ⟨w_a, (List.forall_mem_cons.mpr ⟨w_gs, (fun _ h => nomatch h)⟩)⟩))).mono (Nat.le_of_ble_eq_true rfl) (Nat.le_of_ble_eq_true rfl) (fun o w1 hp => ?_)
  obtain ⟨cs1, hp, hi9⟩ := hp
  obtain ⟨e1, e2⟩ := hp
  subst e1; subst e2
  exact ⟨rfl, hI.fix (t2 := t) (is := [0, 31]) hi9 rfl ⟨kd_0.mpr rfl, kd_31.mpr rfl, trivial⟩ (by decide) (by decide) (fun _ _ _ => rfl) (fun h => h) rfl⟩
set_option maxHeartbeats 4000000 in
theorem Qx_Ip_sand119 {g : zG} {ad : Nat → Nat} {t : zTT} {u : zNN} {w : zW} (hI : IV g ad t u w) : zMB g M_Ip_sand [.ref (ad 0), .int 119] w (fun o w1 => o = .inl (some (.int ((t.1 31).1 1))) ∧ IV g ad t u w1) 1 6 := by
  obtain ⟨e_a, w_a, k_a⟩ := hI.1.2 0 (by decide)
  obtain rfl := kd_0.mp k_a
  obtain ⟨e_gs, w_gs, k_gs⟩ := hI.1.2 31 (by decide)
  obtain rfl := kd_31.mp k_gs
  refine ((C_Ip_sand119 g (ad 0) (ad 1) (ad 5) (ad 18) (ad 31) (ad 32) (ad 36) (ad 42) (ad 45) (ad 47) (ad 49) (ad 50) (ad 51) ((t.1 31).1 0) ((t.1 31).1 1) ((t.1 31).1 2) ((t.1 31).1 3) ((t.1 31).1 4)).at (hI.1.I [0, 31] _ rfl (by decide) (by decide) (List.forall_mem_cons.mpr ⟨w_a, (List.forall_mem_cons.mpr ⟨w_gs, (fun _ h => nomatch h)⟩)⟩))).mono (Nat.le_of_ble_eq_true rfl) (Nat.le_of_ble_eq_true rfl) (fun o w1 hp => ?_)
  obtain ⟨cs1, hp, hi9⟩ := hp
  obtain ⟨e1, e2⟩ := hp
  subst e1; subst e2
  exact ⟨rfl, hI.fix (t2 := t) (is := [0, 31]) hi9 rfl ⟨kd_0.mpr rfl, kd_31.mpr rfl, trivial⟩ (by decide) (by decide) (fun _ _ _ => rfl) (fun h => h) rfl⟩
set_option maxHeartbeats 4000000 in
theorem Qx_Ip_sand107 {g : zG} {ad : Nat → Nat} {t : zTT} {u : zNN} {w : zW} (hI : IV g ad t u w) : zMB g M_Ip_sand [.ref (ad 0), .int 107] w (fun o w1 => o = .inl (some (.int ((t.1 31).1 2))) ∧ IV g ad t u w1) 1 6 := by
  obtain ⟨e_a, w_a, k_a⟩ := hI.1.2 0 (by decide)
  obtain rfl := kd_0.mp k_a
  obtain ⟨e_gs, w_gs, k_gs⟩ := hI.1.2 31 (by decide)
  obtain rfl := kd_31.mp k_gs
  refine ((C_Ip_sand107 g (ad 0) (ad 1) (ad 5) (ad 18) (ad 31) (ad 32) (ad 36) (ad 42) (ad 45) (ad 47) (ad 49) (ad 50) (ad 51) ((t.1 31).1 0) ((t.1 31).1 1) ((t.1 31).1 2) ((t.1 31).1 3) ((t.1 31).1 4)).at (hI.1.I [0, 31] _ rfl (by decide) (by decide) (List.forall_mem_cons.mpr ⟨w_a, (List.forall_mem_cons.mpr ⟨w_gs, (fun _ h => nomatch h)⟩)⟩))).mono (Nat.le_of_ble_eq_true rfl) (Nat.le_of_ble_eq_true rfl) (fun o w1 hp => ?_)
  obtain ⟨cs1, hp, hi9⟩ := hp
  obtain ⟨e1, e2⟩ := hp
  subst e1; subst e2
  exact ⟨rfl, hI.fix (t2 := t) (is := [0, 31]) hi9 rfl ⟨kd_0.mpr rfl, kd_31.mpr rfl, trivial⟩ (by decide) (by decide) (fun _ _ _ => rfl) (fun h => h) rfl⟩
set_option maxHeartbeats 4000000 in
theorem Qx_Ip_sand102 {g : zG} {ad : Nat → Nat} {t : zTT} {u : zNN} {w : zW} (hI : IV g ad t u w) : zMB g M_Ip_sand [.ref (ad 0), .int 102] w (fun o w1 => o = .inl (some (.int ((t.1 31).1 3))) ∧ IV g ad t u w1) 1 6 := by
  obtain ⟨e_a, w_a, k_a⟩ := hI.1.2 0 (by decide)
  obtain rfl := kd_0.mp k_a
  obtain ⟨e_gs, w_gs, k_gs⟩ := hI.1.2 31 (by decide)
  obtain rfl := kd_31.mp k_gs
  refine ((C_Ip_sand102 g (ad 0) (ad 1) (ad 5) (ad 18) (ad 31) (ad 32) (ad 36) (ad 42) (ad 45) (ad 47) (ad 49) (ad 50) (ad 51) ((t.1 31).1 0) ((t.1 31).1 1) ((t.1 31).1 2) ((t.1 31).1 3) ((t.1 31).1 4)).at (hI.1.I [0, 31] _ rfl (by decide) (by decide) (List.forall_mem_cons.mpr ⟨w_a, (List.forall_mem_cons.mpr ⟨w_gs, (fun _ h => nomatch h)⟩)⟩))).mono (Nat.le_of_ble_eq_true rfl) (Nat.le_of_ble_eq_true rfl) (fun o w1 hp => ?_)
  obtain ⟨cs1, hp, hi9⟩ := hp
  obtain ⟨e1, e2⟩ := hp
  subst e1; subst e2
  exact ⟨rfl, hI.fix (t2 := t) (is := [0, 31]) hi9 rfl ⟨kd_0.mpr rfl, kd_31.mpr rfl, trivial⟩ (by decide) (by decide) (fun _ _ _ => rfl) (fun h => h) rfl⟩
set_option maxHeartbeats 4000000 in
theorem Qx_Ip_sand98 {g : zG} {ad : Nat → Nat} {t : zTT} {u : zNN} {w : zW} (hI : IV g ad t u w) : zMB g M_Ip_sand [.ref (ad 0), .int 98] w (fun o w1 => o = .inl (some (.int ((t.1 31).1 4))) ∧ IV g ad t u w1) 1 6 := by
  obtain ⟨e_a, w_a, k_a⟩ := hI.1.2 0 (by decide)
  obtain rfl := kd_0.mp k_a
  obtain ⟨e_gs, w_gs, k_gs⟩ := hI.1.2 31 (by decide)
  obtain rfl := kd_31.mp k_gs
  refine ((C_Ip_sand98 g (ad 0) (ad 1) (ad 5) (ad 18) (ad 31) (ad 32) (ad 36) (ad 42) (ad 45) (ad 47) (ad 49) (ad 50) (ad 51) ((t.1 31).1 0) ((t.1 31).1 1) ((t.1 31).1 2) ((t.1 31).1 3) ((t.1 31).1 4)).at (hI.1.I [0, 31] _ rfl (by decide) (by decide) (List.forall_mem_cons.mpr ⟨w_a, (List.forall_mem_cons.mpr ⟨w_gs, (fun _ h => nomatch h)⟩)⟩))).mono (Nat.le_of_ble_eq_true rfl) (Nat.le_of_ble_eq_true rfl) (fun o w1 hp => ?_)
  obtain ⟨cs1, hp, hi9⟩ := hp
  obtain ⟨e1, e2⟩ := hp
  subst e1; subst e2
  exact ⟨rfl, hI.fix (t2 := t) (is := [0, 31]) hi9 rfl ⟨kd_0.mpr rfl, kd_31.mpr rfl, trivial⟩ (by decide) (by decide) (fun _ _ _ => rfl) (fun h => h) rfl⟩
set_option maxHeartbeats 4000000 in
theorem Qx_Ip_sand115 {g : zG} {ad : Nat → Nat} {t : zTT} {u : zNN} {w : zW} (hI : IV g ad t u w) : zMB g M_Ip_sand [.ref (ad 0), .int 115] w (fun o w1 => o = .inl (some (.int (S_GS_strength (ad 31) ((t.1 31).1 0) ((t.1 31).1 1) ((t.1 31).1 2) ((t.1 31).1 3) ((t.1 31).1 4)))) ∧ IV g ad t u w1) 1 6 := by
  obtain ⟨e_a, w_a, k_a⟩ := hI.1.2 0 (by decide)
  obtain rfl := kd_0.mp k_a
  obtain ⟨e_gs, w_gs, k_gs⟩ := hI.1.2 31 (by decide)
  obtain rfl := kd_31.mp k_gs
  refine ((C_Ip_sand115 g (ad 0) (ad 1) (ad 5) (ad 18) (ad 31) (ad 32) (ad 36) (ad 42) (ad 45) (ad 47) (ad 49) (ad 50) (ad 51) ((t.1 31).1 0) ((t.1 31).1 1) ((t.1 31).1 2) ((t.1 31).1 3) ((t.1 31).1 4)).at (hI.1.I [0, 31] _ rfl (by decide) (by decide) (List.forall_mem_cons.mpr ⟨w_a, (List.forall_mem_cons.mpr ⟨w_gs, (fun _ h => nomatch h)⟩)⟩))).mono (Nat.le_of_ble_eq_true rfl) (Nat.le_of_ble_eq_true rfl) (fun o w1 hp => ?_)
  obtain ⟨cs1, hp, hi9⟩ := hp
  obtain ⟨e1, e2⟩ := hp
  subst e1; subst e2
  exact ⟨rfl, hI.fix (t2 := t) (is := [0, 31]) hi9 rfl ⟨kd_0.mpr rfl, kd_31.mpr rfl, trivial⟩ (by decide) (by decide) (fun _ _ _ => rfl) (fun h => h) rfl⟩
set_option maxHeartbeats 4000000 in
theorem Qx_Ip_sand100 {g : zG} {ad : Nat → Nat} {t : zTT} {u : zNN} {w : zW} (hI : IV g ad t u w) : zMB g M_Ip_sand [.ref (ad 0), .int 100] w (fun o w1 => o = .inl (some (.int (S_GS_draught (ad 31) ((t.1 31).1 0) ((t.1 31).1 1) ((t.1 31).1 2) ((t.1 31).1 3) ((t.1 31).1 4)))) ∧ IV g ad t u w1) 1 6 := by
  obtain ⟨e_a, w_a, k_a⟩ := hI.1.2 0 (by decide)
  obtain rfl := kd_0.mp k_a
  obtain ⟨e_gs, w_gs, k_gs⟩ := hI.1.2 31 (by decide)
  obtain rfl := kd_31.mp k_gs
  refine ((C_Ip_sand100 g (ad 0) (ad 1) (ad 5) (ad 18) (ad 31) (ad 32) (ad 36) (ad 42) (ad 45) (ad 47) (ad 49) (ad 50) (ad 51) ((t.1 31).1 0) ((t.1 31).1 1) ((t.1 31).1 2) ((t.1 31).1 3) ((t.1 31).1 4)).at (hI.1.I [0, 31] _ rfl (by decide) (by decide) (List.forall_mem_cons.mpr ⟨w_a, (List.forall_mem_cons.mpr ⟨w_gs, (fun _ h => nomatch h)⟩)⟩))).mono (Nat.le_of_ble_eq_true rfl) (Nat.le_of_ble_eq_true rfl) (fun o w1 hp => ?_)
  obtain ⟨cs1, hp, hi9⟩ := hp
  obtain ⟨e1, e2⟩ := hp
  subst e1; subst e2
  exact ⟨rfl, hI.fix (t2 := t) (is := [0, 31]) hi9 rfl ⟨kd_0.mpr rfl, kd_31.mpr rfl, trivial⟩ (by decide) (by decide) (fun _ _ _ => rfl) (fun h => h) rfl⟩
set_option maxHeartbeats 4000000 in
theorem Qx_Ip_sandE {g : zG} {ad : Nat → Nat} {t : zTT} {u : zNN} {w : zW} (hI : IV g ad t u w) (w8 : Int32) (hn : ¬ (w8 = 99 ∨ w8 = 119 ∨ w8 = 107 ∨ w8 = 102 ∨ w8 = 98 ∨ w8 = 115 ∨ w8 = 100)) : zMB g M_Ip_sand [.ref (ad 0), .int w8] w (fun o w1 => o = .inr "java/lang/IllegalArgumentException" ∧ IV g ad t u w1) 1 6 := by
  obtain ⟨e_a, w_a, k_a⟩ := hI.1.2 0 (by decide)
  obtain rfl := kd_0.mp k_a
  obtain ⟨e_gs, w_gs, k_gs⟩ := hI.1.2 31 (by decide)
  obtain rfl := kd_31.mp k_gs
  refine ((C_Ip_sandE g (ad 0) (ad 1) (ad 5) (ad 18) (ad 31) (ad 32) (ad 36) (ad 42) (ad 45) (ad 47) (ad 49) (ad 50) (ad 51) ((t.1 31).1 0) ((t.1 31).1 1) ((t.1 31).1 2) ((t.1 31).1 3) ((t.1 31).1 4) w8 hn).at (hI.1.I [0, 31] _ rfl (by decide) (by decide) (List.forall_mem_cons.mpr ⟨w_a, (List.forall_mem_cons.mpr ⟨w_gs, (fun _ h => nomatch h)⟩)⟩))).mono (Nat.le_of_ble_eq_true rfl) (Nat.le_of_ble_eq_true rfl) (fun o w1 hp => ?_)
  obtain ⟨cs1, hp, hi9⟩ := hp
  obtain ⟨e1, e2⟩ := hp
  subst e1; subst e2
  exact ⟨rfl, hI.fix (t2 := t) (is := [0, 31]) hi9 rfl ⟨kd_0.mpr rfl, kd_31.mpr rfl, trivial⟩ (by decide) (by decide) (fun _ _ _ => rfl) (fun h => h) rfl⟩
theorem K_Ip_sand {g : zG} {ad : Nat → Nat} {t : zTT} {u : zNN} {w : zW} (hI : IVm g ad t u w) (w9 : Int32) : zMB g M_Ip_sand [.ref (ad 0), .int w9] w (CKx g ad t u.1 ["java/lang/IllegalArgumentException"]) 10 300 := by
  obtain ⟨s, hI⟩ := hI
  by_cases hn : (w9 = 99 ∨ w9 = 119 ∨ w9 = 107 ∨ w9 = 102 ∨ w9 = 98 ∨ w9 = 115 ∨ w9 = 100)
  · rcases hn with rfl | rfl | rfl | rfl | rfl | rfl | rfl
    · exact (Qx_Ip_sand99 hI).mono (by decide) (by decide) (fun o w1 h => ⟨zri.vl h.1, u, rfl, ⟨_, h.2⟩⟩)
    · exact (Qx_Ip_sand119 hI).mono (by decide) (by decide) (fun o w1 h => ⟨zri.vl h.1, u, rfl, ⟨_, h.2⟩⟩)
    · exact (Qx_Ip_sand107 hI).mono (by decide) (by decide) (fun o w1 h => ⟨zri.vl h.1, u, rfl, ⟨_, h.2⟩⟩)
    · exact (Qx_Ip_sand102 hI).mono (by decide) (by decide) (fun o w1 h => ⟨zri.vl h.1, u, rfl, ⟨_, h.2⟩⟩)
    · exact (Qx_Ip_sand98 hI).mono (by decide) (by decide) (fun o w1 h => ⟨zri.vl h.1, u, rfl, ⟨_, h.2⟩⟩)
    · exact (Qx_Ip_sand115 hI).mono (by decide) (by decide) (fun o w1 h => ⟨zri.vl h.1, u, rfl, ⟨_, h.2⟩⟩)
    · exact (Qx_Ip_sand100 hI).mono (by decide) (by decide) (fun o w1 h => ⟨zri.vl h.1, u, rfl, ⟨_, h.2⟩⟩)
  · exact (Qx_Ip_sandE hI w9 hn).mono (by decide) (by decide) (fun o w1 h => ⟨zri.th h.1 (by simp), u, rfl, ⟨_, h.2⟩⟩)
set_option maxHeartbeats 4000000 in
theorem Qx_Ip_makeCoresN {g : zG} {ad : Nat → Nat} {t : zTT} {u : zNN} {w : zW} (hI : IV g ad t u w) (c : Int32) (k : Int32) (hw : (1 ≤ c ∧ c ≤ 10) ∧ (1 ≤ k ∧ k ≤ 24)) (hf : ((t.1 32).2.2 0) < 20) : zMB g M_Ip_makeCores [.ref (ad 0), .int c, .int k] w (fun o w1 => o = .inl (some (.int (bx_sum (upd ((t.1 33).1) ((t.1 32).2.2 0) c) (((t.1 32).2.2 0) + 1)))) ∧ IV g ad (zup t.1 [(32, ((t.1 32).1, (t.1 32).2.1, (fun z => ([(((t.1 32).2.2 0) + 1)] : List Nat).getD z 0))), (33, (upd ((t.1 33).1) ((t.1 32).2.2 0) c, (t.1 33).2)), (34, (upd ((t.1 34).1) ((t.1 32).2.2 0) k, (t.1 34).2)), (35, (upd ((t.1 35).1) ((t.1 32).2.2 0) 0, (t.1 35).2))], t.2) u w1) 1 6 := by
  obtain ⟨e_a, w_a, k_a⟩ := hI.1.2 0 (by decide)
  obtain rfl := kd_0.mp k_a
  obtain ⟨e_co, w_co, k_co⟩ := hI.1.2 32 (by decide)
  obtain ⟨c_co_0, rfl⟩ := kd_32.mp k_co
  obtain ⟨e_co1, w_co1, k_co1⟩ := hI.1.2 33 (by decide)
  obtain rfl := kd_33.mp k_co1
  obtain ⟨e_co2, w_co2, k_co2⟩ := hI.1.2 34 (by decide)
  obtain rfl := kd_34.mp k_co2
  obtain ⟨e_co3, w_co3, k_co3⟩ := hI.1.2 35 (by decide)
  obtain rfl := kd_35.mp k_co3
  refine ((C_Ip_makeCoresN g (ad 0) (ad 1) (ad 5) (ad 18) (ad 31) (ad 32) (ad 36) (ad 42) (ad 45) (ad 47) (ad 49) (ad 50) (ad 51) (ad 33) (ad 34) (ad 35) ((t.1 33).1) ((t.1 34).1) ((t.1 35).1) ((t.1 32).2.2 0) c_co_0 c k hw hf).at (hI.1.I [0, 32, 33, 34, 35] _ rfl (by decide) (by decide) (List.forall_mem_cons.mpr ⟨w_a, (List.forall_mem_cons.mpr ⟨w_co, (List.forall_mem_cons.mpr ⟨w_co1, (List.forall_mem_cons.mpr ⟨w_co2, (List.forall_mem_cons.mpr ⟨w_co3, (fun _ h => nomatch h)⟩)⟩)⟩)⟩)⟩))).mono (Nat.le_of_ble_eq_true rfl) (Nat.le_of_ble_eq_true rfl) (fun o w1 hp => ?_)
  obtain ⟨cs1, hp, hi9⟩ := hp
  obtain ⟨e1, e2⟩ := hp
  subst e1; subst e2
  exact ⟨rfl, hI.fix (t2 := (zup t.1 [(32, ((t.1 32).1, (t.1 32).2.1, (fun z => ([(((t.1 32).2.2 0) + 1)] : List Nat).getD z 0))), (33, (upd ((t.1 33).1) ((t.1 32).2.2 0) c, (t.1 33).2)), (34, (upd ((t.1 34).1) ((t.1 32).2.2 0) k, (t.1 34).2)), (35, (upd ((t.1 35).1) ((t.1 32).2.2 0) 0, (t.1 35).2))], t.2)) (is := [0, 32, 33, 34, 35]) hi9 rfl ⟨kd_0.mpr rfl, kd_32.mpr ⟨hf, rfl⟩, kd_33.mpr rfl, kd_34.mpr rfl, kd_35.mpr rfl, trivial⟩ (by decide) (by decide) (fun i hi hn => zup_out (fun q => hn ((by decide : ∀ j ∈ ([32, 33, 34, 35] : List Nat), j ∈ ([0, 32, 33, 34, 35] : List Nat)) i q))) (fun h => h) rfl⟩
set_option maxHeartbeats 4000000 in
theorem Qx_Ip_makeCoresF {g : zG} {ad : Nat → Nat} {t : zTT} {u : zNN} {w : zW} (hI : IV g ad t u w) (c : Int32) (k : Int32) (hw : (1 ≤ c ∧ c ≤ 10) ∧ (1 ≤ k ∧ k ≤ 24)) (hf : ¬ ((t.1 32).2.2 0) < 20) : zMB g M_Ip_makeCores [.ref (ad 0), .int c, .int k] w (fun o w1 => o = .inr "java/lang/IllegalStateException" ∧ IV g ad t u w1) 1 6 := by
  obtain ⟨e_a, w_a, k_a⟩ := hI.1.2 0 (by decide)
  obtain rfl := kd_0.mp k_a
  obtain ⟨e_co, w_co, k_co⟩ := hI.1.2 32 (by decide)
  obtain ⟨c_co_0, rfl⟩ := kd_32.mp k_co
  obtain ⟨e_co1, w_co1, k_co1⟩ := hI.1.2 33 (by decide)
  obtain rfl := kd_33.mp k_co1
  obtain ⟨e_co2, w_co2, k_co2⟩ := hI.1.2 34 (by decide)
  obtain rfl := kd_34.mp k_co2
  obtain ⟨e_co3, w_co3, k_co3⟩ := hI.1.2 35 (by decide)
  obtain rfl := kd_35.mp k_co3
  refine ((C_Ip_makeCoresF g (ad 0) (ad 1) (ad 5) (ad 18) (ad 31) (ad 32) (ad 36) (ad 42) (ad 45) (ad 47) (ad 49) (ad 50) (ad 51) (ad 33) (ad 34) (ad 35) ((t.1 33).1) ((t.1 34).1) ((t.1 35).1) ((t.1 32).2.2 0) c_co_0 c k hw hf).at (hI.1.I [0, 32, 33, 34, 35] _ rfl (by decide) (by decide) (List.forall_mem_cons.mpr ⟨w_a, (List.forall_mem_cons.mpr ⟨w_co, (List.forall_mem_cons.mpr ⟨w_co1, (List.forall_mem_cons.mpr ⟨w_co2, (List.forall_mem_cons.mpr ⟨w_co3, (fun _ h => nomatch h)⟩)⟩)⟩)⟩)⟩))).mono (Nat.le_of_ble_eq_true rfl) (Nat.le_of_ble_eq_true rfl) (fun o w1 hp => ?_)
  obtain ⟨cs1, hp, hi9⟩ := hp
  obtain ⟨e1, e2⟩ := hp
  subst e1; subst e2
  exact ⟨rfl, hI.fix (t2 := t) (is := [0, 32, 33, 34, 35]) hi9 rfl ⟨kd_0.mpr rfl, kd_32.mpr ⟨c_co_0, rfl⟩, kd_33.mpr rfl, kd_34.mpr rfl, kd_35.mpr rfl, trivial⟩ (by decide) (by decide) (fun _ _ _ => rfl) (fun h => h) rfl⟩
set_option maxHeartbeats 4000000 in
theorem Qx_Ip_makeCoresE {g : zG} {ad : Nat → Nat} {t : zTT} {u : zNN} {w : zW} (hI : IV g ad t u w) (c : Int32) (k : Int32) (hw : ¬ ((1 ≤ c ∧ c ≤ 10) ∧ (1 ≤ k ∧ k ≤ 24))) : zMB g M_Ip_makeCores [.ref (ad 0), .int c, .int k] w (fun o w1 => o = .inr "java/lang/IllegalArgumentException" ∧ IV g ad t u w1) 1 6 := by
  obtain ⟨e_a, w_a, k_a⟩ := hI.1.2 0 (by decide)
  obtain rfl := kd_0.mp k_a
  obtain ⟨e_co, w_co, k_co⟩ := hI.1.2 32 (by decide)
  obtain ⟨c_co_0, rfl⟩ := kd_32.mp k_co
  obtain ⟨e_co1, w_co1, k_co1⟩ := hI.1.2 33 (by decide)
  obtain rfl := kd_33.mp k_co1
  obtain ⟨e_co2, w_co2, k_co2⟩ := hI.1.2 34 (by decide)
  obtain rfl := kd_34.mp k_co2
  obtain ⟨e_co3, w_co3, k_co3⟩ := hI.1.2 35 (by decide)
  obtain rfl := kd_35.mp k_co3
  refine ((C_Ip_makeCoresE g (ad 0) (ad 1) (ad 5) (ad 18) (ad 31) (ad 32) (ad 36) (ad 42) (ad 45) (ad 47) (ad 49) (ad 50) (ad 51) (ad 33) (ad 34) (ad 35) ((t.1 33).1) ((t.1 34).1) ((t.1 35).1) ((t.1 32).2.2 0) c_co_0 c k hw).at (hI.1.I [0, 32, 33, 34, 35] _ rfl (by decide) (by decide) (List.forall_mem_cons.mpr ⟨w_a, (List.forall_mem_cons.mpr ⟨w_co, (List.forall_mem_cons.mpr ⟨w_co1, (List.forall_mem_cons.mpr ⟨w_co2, (List.forall_mem_cons.mpr ⟨w_co3, (fun _ h => nomatch h)⟩)⟩)⟩)⟩)⟩))).mono (Nat.le_of_ble_eq_true rfl) (Nat.le_of_ble_eq_true rfl) (fun o w1 hp => ?_)
  obtain ⟨cs1, hp, hi9⟩ := hp
  obtain ⟨e1, e2⟩ := hp
  subst e1; subst e2
  exact ⟨rfl, hI.fix (t2 := t) (is := [0, 32, 33, 34, 35]) hi9 rfl ⟨kd_0.mpr rfl, kd_32.mpr ⟨c_co_0, rfl⟩, kd_33.mpr rfl, kd_34.mpr rfl, kd_35.mpr rfl, trivial⟩ (by decide) (by decide) (fun _ _ _ => rfl) (fun h => h) rfl⟩
noncomputable def tK_Ip_makeCores (c k : Int32) (t : zTT) : zTT := (if (1 ≤ c ∧ c ≤ 10) ∧ (1 ≤ k ∧ k ≤ 24) then (if (t.1 32).2.2 0 < 20 then (zup t.1 [(32, ((t.1 32).1, (t.1 32).2.1, (fun z => ([(((t.1 32).2.2 0) + 1)] : List Nat).getD z 0))), (33, (upd ((t.1 33).1) ((t.1 32).2.2 0) c, (t.1 33).2)), (34, (upd ((t.1 34).1) ((t.1 32).2.2 0) k, (t.1 34).2)), (35, (upd ((t.1 35).1) ((t.1 32).2.2 0) 0, (t.1 35).2))], t.2) else t) else t)
theorem K_Ip_makeCores {g : zG} {ad : Nat → Nat} {t : zTT} {u : zNN} {w : zW} (hI : IVm g ad t u w) (c k : Int32) : zMB g M_Ip_makeCores [.ref (ad 0), .int c, .int k] w (CKx g ad (tK_Ip_makeCores c k t) u.1 ["java/lang/IllegalArgumentException", "java/lang/IllegalStateException"]) 10 300 := by
  obtain ⟨s, hI⟩ := hI
  by_cases hw : (1 ≤ c ∧ c ≤ 10) ∧ (1 ≤ k ∧ k ≤ 24)
  · by_cases hf : (t.1 32).2.2 0 < 20
    · have eT : (tK_Ip_makeCores c k t) = (zup t.1 [(32, ((t.1 32).1, (t.1 32).2.1, (fun z => ([(((t.1 32).2.2 0) + 1)] : List Nat).getD z 0))), (33, (upd ((t.1 33).1) ((t.1 32).2.2 0) c, (t.1 33).2)), (34, (upd ((t.1 34).1) ((t.1 32).2.2 0) k, (t.1 34).2)), (35, (upd ((t.1 35).1) ((t.1 32).2.2 0) 0, (t.1 35).2))], t.2) := by unfold tK_Ip_makeCores; rw [if_pos hw, if_pos hf]
      rw [eT]
      exact (Qx_Ip_makeCoresN hI c k hw hf).mono (by decide) (by decide) (fun o w1 h => ⟨zri.vl h.1, u, rfl, IVm.zu h.2⟩)
    · have eT : (tK_Ip_makeCores c k t) = t := by unfold tK_Ip_makeCores; rw [if_pos hw, if_neg hf]
      rw [eT]
      exact (Qx_Ip_makeCoresF hI c k hw hf).mono (by decide) (by decide) (fun o w1 h => ⟨zri.th h.1 (by simp), u, rfl, ⟨_, h.2⟩⟩)
  · have eT : (tK_Ip_makeCores c k t) = t := by unfold tK_Ip_makeCores; rw [if_neg hw]
    rw [eT]
    exact (Qx_Ip_makeCoresE hI c k hw).mono (by decide) (by decide) (fun o w1 h => ⟨zri.th h.1 (by simp), u, rfl, ⟨_, h.2⟩⟩)
set_option maxHeartbeats 4000000 in
theorem Qx_Ip_hoursN {g : zG} {ad : Nat → Nat} {t : zTT} {u : zNN} {w : zW} (hI : IV g ad t u w) (h : Int32) (hw : (1 ≤ h ∧ h ≤ 48)) : zMB g M_Ip_hours [.ref (ad 0), .int h] w (fun o w1 => o = .inl (some (.int ((gwS ((t.1 33).1) ((t.1 34).1) ((t.1 35).1) h ((t.1 32).2.2 0)).2.2))) ∧ IV g ad (zup t.1 [(32, ((t.1 32).1, (t.1 32).2.1, (fun z => ([(dlS (gwS ((t.1 33).1) ((t.1 34).1) ((t.1 35).1) h ((t.1 32).2.2 0)).1 ((t.1 34).1) (gwS ((t.1 33).1) ((t.1 34).1) ((t.1 35).1) h ((t.1 32).2.2 0)).2.1 ((t.1 32).2.2 0)).1] : List Nat).getD z 0))), (33, ((dlS (gwS ((t.1 33).1) ((t.1 34).1) ((t.1 35).1) h ((t.1 32).2.2 0)).1 ((t.1 34).1) (gwS ((t.1 33).1) ((t.1 34).1) ((t.1 35).1) h ((t.1 32).2.2 0)).2.1 ((t.1 32).2.2 0)).2.1, (t.1 33).2)), (34, ((dlS (gwS ((t.1 33).1) ((t.1 34).1) ((t.1 35).1) h ((t.1 32).2.2 0)).1 ((t.1 34).1) (gwS ((t.1 33).1) ((t.1 34).1) ((t.1 35).1) h ((t.1 32).2.2 0)).2.1 ((t.1 32).2.2 0)).2.2.1, (t.1 34).2)), (35, ((dlS (gwS ((t.1 33).1) ((t.1 34).1) ((t.1 35).1) h ((t.1 32).2.2 0)).1 ((t.1 34).1) (gwS ((t.1 33).1) ((t.1 34).1) ((t.1 35).1) h ((t.1 32).2.2 0)).2.1 ((t.1 32).2.2 0)).2.2.2, (t.1 35).2))], t.2) u w1) 1 6 := by
  obtain ⟨e_a, w_a, k_a⟩ := hI.1.2 0 (by decide)
  obtain rfl := kd_0.mp k_a
  obtain ⟨e_co, w_co, k_co⟩ := hI.1.2 32 (by decide)
  obtain ⟨c_co_0, rfl⟩ := kd_32.mp k_co
  obtain ⟨e_co1, w_co1, k_co1⟩ := hI.1.2 33 (by decide)
  obtain rfl := kd_33.mp k_co1
  obtain ⟨e_co2, w_co2, k_co2⟩ := hI.1.2 34 (by decide)
  obtain rfl := kd_34.mp k_co2
  obtain ⟨e_co3, w_co3, k_co3⟩ := hI.1.2 35 (by decide)
  obtain rfl := kd_35.mp k_co3
  refine ((C_Ip_hoursN g (ad 0) (ad 1) (ad 5) (ad 18) (ad 31) (ad 32) (ad 36) (ad 42) (ad 45) (ad 47) (ad 49) (ad 50) (ad 51) (ad 33) (ad 34) (ad 35) ((t.1 33).1) ((t.1 34).1) ((t.1 35).1) ((t.1 32).2.2 0) c_co_0 h hw).at (hI.1.I [0, 32, 33, 34, 35] _ rfl (by decide) (by decide) (List.forall_mem_cons.mpr ⟨w_a, (List.forall_mem_cons.mpr ⟨w_co, (List.forall_mem_cons.mpr ⟨w_co1, (List.forall_mem_cons.mpr ⟨w_co2, (List.forall_mem_cons.mpr ⟨w_co3, (fun _ h => nomatch h)⟩)⟩)⟩)⟩)⟩))).mono (Nat.le_of_ble_eq_true rfl) (Nat.le_of_ble_eq_true rfl) (fun o w1 hp => ?_)
  obtain ⟨cs1, hp, hi9⟩ := hp
  obtain ⟨e1, e2⟩ := hp
  subst e1; subst e2
  exact ⟨rfl, hI.fix (t2 := (zup t.1 [(32, ((t.1 32).1, (t.1 32).2.1, (fun z => ([(dlS (gwS ((t.1 33).1) ((t.1 34).1) ((t.1 35).1) h ((t.1 32).2.2 0)).1 ((t.1 34).1) (gwS ((t.1 33).1) ((t.1 34).1) ((t.1 35).1) h ((t.1 32).2.2 0)).2.1 ((t.1 32).2.2 0)).1] : List Nat).getD z 0))), (33, ((dlS (gwS ((t.1 33).1) ((t.1 34).1) ((t.1 35).1) h ((t.1 32).2.2 0)).1 ((t.1 34).1) (gwS ((t.1 33).1) ((t.1 34).1) ((t.1 35).1) h ((t.1 32).2.2 0)).2.1 ((t.1 32).2.2 0)).2.1, (t.1 33).2)), (34, ((dlS (gwS ((t.1 33).1) ((t.1 34).1) ((t.1 35).1) h ((t.1 32).2.2 0)).1 ((t.1 34).1) (gwS ((t.1 33).1) ((t.1 34).1) ((t.1 35).1) h ((t.1 32).2.2 0)).2.1 ((t.1 32).2.2 0)).2.2.1, (t.1 34).2)), (35, ((dlS (gwS ((t.1 33).1) ((t.1 34).1) ((t.1 35).1) h ((t.1 32).2.2 0)).1 ((t.1 34).1) (gwS ((t.1 33).1) ((t.1 34).1) ((t.1 35).1) h ((t.1 32).2.2 0)).2.1 ((t.1 32).2.2 0)).2.2.2, (t.1 35).2))], t.2)) (is := [0, 32, 33, 34, 35]) hi9 rfl ⟨kd_0.mpr rfl, kd_32.mpr ⟨(Nat.le_trans (dlS_le _ _ _ _) c_co_0), rfl⟩, kd_33.mpr rfl, kd_34.mpr rfl, kd_35.mpr rfl, trivial⟩ (by decide) (by decide) (fun i hi hn => zup_out (fun q => hn ((by decide : ∀ j ∈ ([32, 33, 34, 35] : List Nat), j ∈ ([0, 32, 33, 34, 35] : List Nat)) i q))) (fun h => h) rfl⟩
