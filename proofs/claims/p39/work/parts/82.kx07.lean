set_option maxHeartbeats 4000000 in
theorem Qx_Ip_heatAtN {g : zG} {ad : Nat → Nat} {t : zTT} {u : zNN} {w : zW} (hI : IV g ad t u w) (x : Int32) (y : Int32) (h : Int32) (ks : Nat) (hks : ks ≤ 400) (c : Nat) (hz : z_cl x y = some c) (hh : 1200 ≤ h ∧ h ≤ 1500) : zMB g M_Ip_heatAt [.ref (ad 0), .int x, .int y, .int h, .int (nI ks)] w (fun o w1 => (∃ v : Int32, o = .inl (some (.int v))) ∧ IV g ad t u w1) 2 12 := by
  obtain ⟨e_a, w_a, k_a⟩ := hI.1.2 0 (by decide)
  obtain rfl := kd_0.mp k_a
  obtain ⟨e_pa, w_pa, k_pa⟩ := hI.1.2 1 (by decide)
  obtain rfl := kd_1.mp k_pa
  obtain ⟨e_pa1, w_pa1, k_pa1⟩ := hI.1.2 2 (by decide)
  obtain rfl := kd_2.mp k_pa1
  obtain ⟨e_pa2, w_pa2, k_pa2⟩ := hI.1.2 3 (by decide)
  obtain ⟨v_pa2_f, rfl⟩ := kd_3.mp k_pa2
  obtain ⟨e_pa3, w_pa3, k_pa3⟩ := hI.1.2 4 (by decide)
  obtain ⟨v_pa3_h, rfl⟩ := kd_4.mp k_pa3
  obtain ⟨e_sa, w_sa, k_sa⟩ := hI.1.2 18 (by decide)
  obtain ⟨v_sa_x, v_sa_y, rfl⟩ := kd_18.mp k_sa
  obtain ⟨e_sa1, w_sa1, k_sa1⟩ := hI.1.2 19 (by decide)
  obtain ⟨v_sa1_f, rfl⟩ := kd_19.mp k_sa1
  obtain ⟨e_sa2, w_sa2, k_sa2⟩ := hI.1.2 20 (by decide)
  obtain ⟨v_sa2_f, rfl⟩ := kd_20.mp k_sa2
  obtain ⟨e_saz, w_saz, k_saz⟩ := hI.1.2 21 (by decide)
  obtain ⟨v_saz_x, rfl⟩ := kd_21.mp k_saz
  obtain ⟨e_saz1, w_saz1, k_saz1⟩ := hI.1.2 22 (by decide)
  obtain ⟨v_saz1_f, rfl⟩ := kd_22.mp k_saz1
  obtain ⟨e_saz2, w_saz2, k_saz2⟩ := hI.1.2 23 (by decide)
  obtain ⟨v_saz2_f, rfl⟩ := kd_23.mp k_saz2
  obtain ⟨e_saz3, w_saz3, k_saz3⟩ := hI.1.2 24 (by decide)
  obtain ⟨v_saz3_f, rfl⟩ := kd_24.mp k_saz3
  obtain ⟨e_saz4, w_saz4, k_saz4⟩ := hI.1.2 25 (by decide)
  obtain ⟨v_saz4_f, rfl⟩ := kd_25.mp k_saz4
  obtain ⟨e_saz5, w_saz5, k_saz5⟩ := hI.1.2 26 (by decide)
  obtain ⟨v_saz5_f, rfl⟩ := kd_26.mp k_saz5
  obtain ⟨e_saz6, w_saz6, k_saz6⟩ := hI.1.2 27 (by decide)
  obtain ⟨v_saz6_f, rfl⟩ := kd_27.mp k_saz6
  obtain ⟨e_sa4, w_sa4, k_sa4⟩ := hI.1.2 28 (by decide)
  obtain ⟨v_sa4_f, rfl⟩ := kd_28.mp k_sa4
  obtain ⟨e_sa5, w_sa5, k_sa5⟩ := hI.1.2 29 (by decide)
  obtain ⟨v_sa5_f, rfl⟩ := kd_29.mp k_sa5
  obtain ⟨e_sa6, w_sa6, k_sa6⟩ := hI.1.2 30 (by decide)
  obtain ⟨v_sa6_h, rfl⟩ := kd_30.mp k_sa6
  refine ((C_Ip_heatAtN g (ad 0) (ad 1) (ad 5) (ad 18) (ad 31) (ad 32) (ad 36) (ad 42) (ad 45) (ad 47) (ad 49) (ad 50) (ad 51) (ad 2) (ad 3) (ad 4) ((t.1 2).1) v_pa2_f v_pa3_h ((t.1 1).2.2 0) (ad 19) (ad 20) (ad 21) (ad 22) (ad 23) (ad 24) (ad 25) (ad 26) (ad 27) (ad 28) (ad 29) (ad 30) ((v_sa1_f, v_sa2_f, v_sa_x, v_sa_y), (((v_saz1_f, v_saz3_f, v_saz4_f, v_saz_x), v_saz2_f), v_saz5_f, v_saz6_f), (v_sa4_f, v_sa5_f, v_sa6_h)) x y h ks hks hI.2.2.1 c hz hh).at (hI.1.I [0, 1, 2, 3, 4, 18, 19, 20, 21, 22, 23, 24, 25, 26, 27, 28, 29, 30] _ rfl (by decide) (by decide) (List.forall_mem_cons.mpr ⟨w_a, (List.forall_mem_cons.mpr ⟨w_pa, (List.forall_mem_cons.mpr ⟨w_pa1, (List.forall_mem_cons.mpr ⟨w_pa2, (List.forall_mem_cons.mpr ⟨w_pa3, (List.forall_mem_cons.mpr ⟨w_sa, (List.forall_mem_cons.mpr ⟨w_sa1, (List.forall_mem_cons.mpr ⟨w_sa2, (List.forall_mem_cons.mpr ⟨w_saz, (List.forall_mem_cons.mpr ⟨w_saz1, (List.forall_mem_cons.mpr ⟨w_saz2, (List.forall_mem_cons.mpr ⟨w_saz3, (List.forall_mem_cons.mpr ⟨w_saz4, (List.forall_mem_cons.mpr ⟨w_saz5, (List.forall_mem_cons.mpr ⟨w_saz6, (List.forall_mem_cons.mpr ⟨w_sa4, (List.forall_mem_cons.mpr ⟨w_sa5, (List.forall_mem_cons.mpr ⟨w_sa6, (fun _ h => nomatch h)⟩)⟩)⟩)⟩)⟩)⟩)⟩)⟩)⟩)⟩)⟩)⟩)⟩)⟩)⟩)⟩)⟩)⟩))).mono (Nat.le_of_ble_eq_true rfl) (Nat.le_of_ble_eq_true rfl) (fun o w1 hp => ?_)
  obtain ⟨cs1, hp, hi9⟩ := hp
  obtain ⟨e1, e2⟩ := hp
  subst e1; subst e2
  exact ⟨⟨_, rfl⟩, hI.fix (t2 := t) (is := [0, 1, 2, 3, 4, 18, 19, 20, 21, 22, 23, 24, 25, 26, 27, 28, 29, 30]) hi9 rfl ⟨kd_0.mpr rfl, kd_1.mpr rfl, kd_2.mpr rfl, kd_3.mpr ⟨_, rfl⟩, kd_4.mpr ⟨_, rfl⟩, kd_18.mpr ⟨_, _, rfl⟩, kd_19.mpr ⟨_, rfl⟩, kd_20.mpr ⟨_, rfl⟩, kd_21.mpr ⟨_, rfl⟩, kd_22.mpr ⟨_, rfl⟩, kd_23.mpr ⟨_, rfl⟩, kd_24.mpr ⟨_, rfl⟩, kd_25.mpr ⟨_, rfl⟩, kd_26.mpr ⟨_, rfl⟩, kd_27.mpr ⟨_, rfl⟩, kd_28.mpr ⟨_, rfl⟩, kd_29.mpr ⟨_, rfl⟩, kd_30.mpr ⟨_, rfl⟩, trivial⟩ (by decide) (by decide) (fun _ _ _ => rfl) (fun h => h) rfl⟩
set_option maxHeartbeats 4000000 in
theorem Qx_Ip_heatAtG {g : zG} {ad : Nat → Nat} {t : zTT} {u : zNN} {w : zW} (hI : IV g ad t u w) (x : Int32) (y : Int32) (h : Int32) (st : Int32) (c : Nat) (hz : z_cl x y = some c) (hh : 1200 ≤ h ∧ h ≤ 1500) (hs : st < 0 ∨ 400 < st) : zMB g M_Ip_heatAt [.ref (ad 0), .int x, .int y, .int h, .int st] w (fun o w1 => o = .inr "java/lang/IllegalArgumentException" ∧ IV g ad t u w1) 3 18 := by
  obtain ⟨e_a, w_a, k_a⟩ := hI.1.2 0 (by decide)
  obtain rfl := kd_0.mp k_a
  obtain ⟨e_pa, w_pa, k_pa⟩ := hI.1.2 1 (by decide)
  obtain rfl := kd_1.mp k_pa
  obtain ⟨e_pa1, w_pa1, k_pa1⟩ := hI.1.2 2 (by decide)
  obtain rfl := kd_2.mp k_pa1
  obtain ⟨e_pa2, w_pa2, k_pa2⟩ := hI.1.2 3 (by decide)
  obtain ⟨v_pa2_f, rfl⟩ := kd_3.mp k_pa2
  obtain ⟨e_pa3, w_pa3, k_pa3⟩ := hI.1.2 4 (by decide)
  obtain ⟨v_pa3_h, rfl⟩ := kd_4.mp k_pa3
  obtain ⟨e_sa, w_sa, k_sa⟩ := hI.1.2 18 (by decide)
  obtain ⟨v_sa_x, v_sa_y, rfl⟩ := kd_18.mp k_sa
  obtain ⟨e_sa1, w_sa1, k_sa1⟩ := hI.1.2 19 (by decide)
  obtain ⟨v_sa1_f, rfl⟩ := kd_19.mp k_sa1
  obtain ⟨e_sa2, w_sa2, k_sa2⟩ := hI.1.2 20 (by decide)
  obtain ⟨v_sa2_f, rfl⟩ := kd_20.mp k_sa2
  obtain ⟨e_saz, w_saz, k_saz⟩ := hI.1.2 21 (by decide)
  obtain ⟨v_saz_x, rfl⟩ := kd_21.mp k_saz
  obtain ⟨e_saz1, w_saz1, k_saz1⟩ := hI.1.2 22 (by decide)
  obtain ⟨v_saz1_f, rfl⟩ := kd_22.mp k_saz1
  obtain ⟨e_saz2, w_saz2, k_saz2⟩ := hI.1.2 23 (by decide)
  obtain ⟨v_saz2_f, rfl⟩ := kd_23.mp k_saz2
  obtain ⟨e_saz3, w_saz3, k_saz3⟩ := hI.1.2 24 (by decide)
  obtain ⟨v_saz3_f, rfl⟩ := kd_24.mp k_saz3
  obtain ⟨e_saz4, w_saz4, k_saz4⟩ := hI.1.2 25 (by decide)
  obtain ⟨v_saz4_f, rfl⟩ := kd_25.mp k_saz4
  obtain ⟨e_saz5, w_saz5, k_saz5⟩ := hI.1.2 26 (by decide)
  obtain ⟨v_saz5_f, rfl⟩ := kd_26.mp k_saz5
  obtain ⟨e_saz6, w_saz6, k_saz6⟩ := hI.1.2 27 (by decide)
  obtain ⟨v_saz6_f, rfl⟩ := kd_27.mp k_saz6
  obtain ⟨e_sa4, w_sa4, k_sa4⟩ := hI.1.2 28 (by decide)
  obtain ⟨v_sa4_f, rfl⟩ := kd_28.mp k_sa4
  obtain ⟨e_sa5, w_sa5, k_sa5⟩ := hI.1.2 29 (by decide)
  obtain ⟨v_sa5_f, rfl⟩ := kd_29.mp k_sa5
  obtain ⟨e_sa6, w_sa6, k_sa6⟩ := hI.1.2 30 (by decide)
  obtain ⟨v_sa6_h, rfl⟩ := kd_30.mp k_sa6
  refine ((C_Ip_heatAtG g (ad 0) (ad 1) (ad 5) (ad 18) (ad 31) (ad 32) (ad 36) (ad 42) (ad 45) (ad 47) (ad 49) (ad 50) (ad 51) (ad 2) (ad 3) (ad 4) ((t.1 2).1) v_pa2_f v_pa3_h ((t.1 1).2.2 0) (ad 19) (ad 20) (ad 21) (ad 22) (ad 23) (ad 24) (ad 25) (ad 26) (ad 27) (ad 28) (ad 29) (ad 30) ((v_sa1_f, v_sa2_f, v_sa_x, v_sa_y), (((v_saz1_f, v_saz3_f, v_saz4_f, v_saz_x), v_saz2_f), v_saz5_f, v_saz6_f), (v_sa4_f, v_sa5_f, v_sa6_h)) x y h st c hz hh hs).at (hI.1.I [0, 1, 2, 3, 4, 18, 19, 20, 21, 22, 23, 24, 25, 26, 27, 28, 29, 30] _ rfl (by decide) (by decide) (List.forall_mem_cons.mpr ⟨w_a, (List.forall_mem_cons.mpr ⟨w_pa, (List.forall_mem_cons.mpr ⟨w_pa1, (List.forall_mem_cons.mpr ⟨w_pa2, (List.forall_mem_cons.mpr ⟨w_pa3, (List.forall_mem_cons.mpr ⟨w_sa, (List.forall_mem_cons.mpr ⟨w_sa1, (List.forall_mem_cons.mpr ⟨w_sa2, (List.forall_mem_cons.mpr ⟨w_saz, (List.forall_mem_cons.mpr ⟨w_saz1, (List.forall_mem_cons.mpr ⟨w_saz2, (List.forall_mem_cons.mpr ⟨w_saz3, (List.forall_mem_cons.mpr ⟨w_saz4, (List.forall_mem_cons.mpr ⟨w_saz5, (List.forall_mem_cons.mpr ⟨w_saz6, (List.forall_mem_cons.mpr ⟨w_sa4, (List.forall_mem_cons.mpr ⟨w_sa5, (List.forall_mem_cons.mpr ⟨w_sa6, (fun _ h => nomatch h)⟩)⟩)⟩)⟩)⟩)⟩)⟩)⟩)⟩)⟩)⟩)⟩)⟩)⟩)⟩)⟩)⟩)⟩))).mono (Nat.le_of_ble_eq_true rfl) (Nat.le_of_ble_eq_true rfl) (fun o w1 hp => ?_)
  obtain ⟨cs1, hp, hi9⟩ := hp
  obtain ⟨e1, e2⟩ := hp
  subst e1; subst e2
  exact ⟨rfl, hI.fix (t2 := t) (is := [0, 1, 2, 3, 4, 18, 19, 20, 21, 22, 23, 24, 25, 26, 27, 28, 29, 30]) hi9 rfl ⟨kd_0.mpr rfl, kd_1.mpr rfl, kd_2.mpr rfl, kd_3.mpr ⟨_, rfl⟩, kd_4.mpr ⟨_, rfl⟩, kd_18.mpr ⟨_, _, rfl⟩, kd_19.mpr ⟨_, rfl⟩, kd_20.mpr ⟨_, rfl⟩, kd_21.mpr ⟨_, rfl⟩, kd_22.mpr ⟨_, rfl⟩, kd_23.mpr ⟨_, rfl⟩, kd_24.mpr ⟨_, rfl⟩, kd_25.mpr ⟨_, rfl⟩, kd_26.mpr ⟨_, rfl⟩, kd_27.mpr ⟨_, rfl⟩, kd_28.mpr ⟨_, rfl⟩, kd_29.mpr ⟨_, rfl⟩, kd_30.mpr ⟨_, rfl⟩, trivial⟩ (by decide) (by decide) (fun _ _ _ => rfl) (fun h => h) rfl⟩
set_option maxHeartbeats 4000000 in
theorem Qx_Ip_heatAtF {g : zG} {ad : Nat → Nat} {t : zTT} {u : zNN} {w : zW} (hI : IV g ad t u w) (x : Int32) (y : Int32) (h : Int32) (st : Int32) (c : Nat) (hz : z_cl x y = some c) (hh : ¬ (1200 ≤ h ∧ h ≤ 1500)) : zMB g M_Ip_heatAt [.ref (ad 0), .int x, .int y, .int h, .int st] w (fun o w1 => o = .inr "java/lang/IllegalArgumentException" ∧ IV g ad t u w1) 2 12 := by
  obtain ⟨e_a, w_a, k_a⟩ := hI.1.2 0 (by decide)
  obtain rfl := kd_0.mp k_a
  obtain ⟨e_pa, w_pa, k_pa⟩ := hI.1.2 1 (by decide)
  obtain rfl := kd_1.mp k_pa
  obtain ⟨e_pa1, w_pa1, k_pa1⟩ := hI.1.2 2 (by decide)
  obtain rfl := kd_2.mp k_pa1
  obtain ⟨e_pa2, w_pa2, k_pa2⟩ := hI.1.2 3 (by decide)
  obtain ⟨v_pa2_f, rfl⟩ := kd_3.mp k_pa2
  obtain ⟨e_pa3, w_pa3, k_pa3⟩ := hI.1.2 4 (by decide)
  obtain ⟨v_pa3_h, rfl⟩ := kd_4.mp k_pa3
  obtain ⟨e_sa, w_sa, k_sa⟩ := hI.1.2 18 (by decide)
  obtain ⟨v_sa_x, v_sa_y, rfl⟩ := kd_18.mp k_sa
  obtain ⟨e_sa1, w_sa1, k_sa1⟩ := hI.1.2 19 (by decide)
  obtain ⟨v_sa1_f, rfl⟩ := kd_19.mp k_sa1
  obtain ⟨e_sa2, w_sa2, k_sa2⟩ := hI.1.2 20 (by decide)
  obtain ⟨v_sa2_f, rfl⟩ := kd_20.mp k_sa2
  obtain ⟨e_saz, w_saz, k_saz⟩ := hI.1.2 21 (by decide)
  obtain ⟨v_saz_x, rfl⟩ := kd_21.mp k_saz
  obtain ⟨e_saz1, w_saz1, k_saz1⟩ := hI.1.2 22 (by decide)
  obtain ⟨v_saz1_f, rfl⟩ := kd_22.mp k_saz1
  obtain ⟨e_saz2, w_saz2, k_saz2⟩ := hI.1.2 23 (by decide)
  obtain ⟨v_saz2_f, rfl⟩ := kd_23.mp k_saz2
  obtain ⟨e_saz3, w_saz3, k_saz3⟩ := hI.1.2 24 (by decide)
  obtain ⟨v_saz3_f, rfl⟩ := kd_24.mp k_saz3
  obtain ⟨e_saz4, w_saz4, k_saz4⟩ := hI.1.2 25 (by decide)
  obtain ⟨v_saz4_f, rfl⟩ := kd_25.mp k_saz4
  obtain ⟨e_saz5, w_saz5, k_saz5⟩ := hI.1.2 26 (by decide)
  obtain ⟨v_saz5_f, rfl⟩ := kd_26.mp k_saz5
  obtain ⟨e_saz6, w_saz6, k_saz6⟩ := hI.1.2 27 (by decide)
  obtain ⟨v_saz6_f, rfl⟩ := kd_27.mp k_saz6
  obtain ⟨e_sa4, w_sa4, k_sa4⟩ := hI.1.2 28 (by decide)
  obtain ⟨v_sa4_f, rfl⟩ := kd_28.mp k_sa4
  obtain ⟨e_sa5, w_sa5, k_sa5⟩ := hI.1.2 29 (by decide)
  obtain ⟨v_sa5_f, rfl⟩ := kd_29.mp k_sa5
  obtain ⟨e_sa6, w_sa6, k_sa6⟩ := hI.1.2 30 (by decide)
  obtain ⟨v_sa6_h, rfl⟩ := kd_30.mp k_sa6
  refine ((C_Ip_heatAtF g (ad 0) (ad 1) (ad 5) (ad 18) (ad 31) (ad 32) (ad 36) (ad 42) (ad 45) (ad 47) (ad 49) (ad 50) (ad 51) (ad 2) (ad 3) (ad 4) ((t.1 2).1) v_pa2_f v_pa3_h ((t.1 1).2.2 0) (ad 19) (ad 20) (ad 21) (ad 22) (ad 23) (ad 24) (ad 25) (ad 26) (ad 27) (ad 28) (ad 29) (ad 30) ((v_sa1_f, v_sa2_f, v_sa_x, v_sa_y), (((v_saz1_f, v_saz3_f, v_saz4_f, v_saz_x), v_saz2_f), v_saz5_f, v_saz6_f), (v_sa4_f, v_sa5_f, v_sa6_h)) x y h st c hz hh).at (hI.1.I [0, 1, 2, 3, 4, 18, 19, 20, 21, 22, 23, 24, 25, 26, 27, 28, 29, 30] _ rfl (by decide) (by decide) (List.forall_mem_cons.mpr ⟨w_a, (List.forall_mem_cons.mpr ⟨w_pa, (List.forall_mem_cons.mpr ⟨w_pa1, (List.forall_mem_cons.mpr ⟨w_pa2, (List.forall_mem_cons.mpr ⟨w_pa3, (List.forall_mem_cons.mpr ⟨w_sa, (List.forall_mem_cons.mpr ⟨w_sa1, (List.forall_mem_cons.mpr ⟨w_sa2, (List.forall_mem_cons.mpr ⟨w_saz, (List.forall_mem_cons.mpr ⟨w_saz1, (List.forall_mem_cons.mpr ⟨w_saz2, (List.forall_mem_cons.mpr ⟨w_saz3, (List.forall_mem_cons.mpr ⟨w_saz4, (List.forall_mem_cons.mpr ⟨w_saz5, (List.forall_mem_cons.mpr ⟨w_saz6, (List.forall_mem_cons.mpr ⟨w_sa4, (List.forall_mem_cons.mpr ⟨w_sa5, (List.forall_mem_cons.mpr ⟨w_sa6, (fun _ h => nomatch h)⟩)⟩)⟩)⟩)⟩)⟩)⟩)⟩)⟩)⟩)⟩)⟩)⟩)⟩)⟩)⟩)⟩)⟩))).mono (Nat.le_of_ble_eq_true rfl) (Nat.le_of_ble_eq_true rfl) (fun o w1 hp => ?_)
  obtain ⟨cs1, hp, hi9⟩ := hp
  obtain ⟨e1, e2⟩ := hp
  subst e1; subst e2
  exact ⟨rfl, hI.fix (t2 := t) (is := [0, 1, 2, 3, 4, 18, 19, 20, 21, 22, 23, 24, 25, 26, 27, 28, 29, 30]) hi9 rfl ⟨kd_0.mpr rfl, kd_1.mpr rfl, kd_2.mpr rfl, kd_3.mpr ⟨_, rfl⟩, kd_4.mpr ⟨_, rfl⟩, kd_18.mpr ⟨_, _, rfl⟩, kd_19.mpr ⟨_, rfl⟩, kd_20.mpr ⟨_, rfl⟩, kd_21.mpr ⟨_, rfl⟩, kd_22.mpr ⟨_, rfl⟩, kd_23.mpr ⟨_, rfl⟩, kd_24.mpr ⟨_, rfl⟩, kd_25.mpr ⟨_, rfl⟩, kd_26.mpr ⟨_, rfl⟩, kd_27.mpr ⟨_, rfl⟩, kd_28.mpr ⟨_, rfl⟩, kd_29.mpr ⟨_, rfl⟩, kd_30.mpr ⟨_, rfl⟩, trivial⟩ (by decide) (by decide) (fun _ _ _ => rfl) (fun h => h) rfl⟩
set_option maxHeartbeats 4000000 in
theorem Qx_Ip_heatAtE {g : zG} {ad : Nat → Nat} {t : zTT} {u : zNN} {w : zW} (hI : IV g ad t u w) (x : Int32) (y : Int32) (h : Int32) (st : Int32) (hz : z_cl x y = none) : zMB g M_Ip_heatAt [.ref (ad 0), .int x, .int y, .int h, .int st] w (fun o w1 => o = .inr "java/lang/IndexOutOfBoundsException" ∧ IV g ad t u w1) 1 6 := by
  obtain ⟨e_a, w_a, k_a⟩ := hI.1.2 0 (by decide)
  obtain rfl := kd_0.mp k_a
  obtain ⟨e_pa, w_pa, k_pa⟩ := hI.1.2 1 (by decide)
  obtain rfl := kd_1.mp k_pa
  obtain ⟨e_pa1, w_pa1, k_pa1⟩ := hI.1.2 2 (by decide)
  obtain rfl := kd_2.mp k_pa1
  obtain ⟨e_pa2, w_pa2, k_pa2⟩ := hI.1.2 3 (by decide)
  obtain ⟨v_pa2_f, rfl⟩ := kd_3.mp k_pa2
  obtain ⟨e_pa3, w_pa3, k_pa3⟩ := hI.1.2 4 (by decide)
  obtain ⟨v_pa3_h, rfl⟩ := kd_4.mp k_pa3
  obtain ⟨e_sa, w_sa, k_sa⟩ := hI.1.2 18 (by decide)
  obtain ⟨v_sa_x, v_sa_y, rfl⟩ := kd_18.mp k_sa
  obtain ⟨e_sa1, w_sa1, k_sa1⟩ := hI.1.2 19 (by decide)
  obtain ⟨v_sa1_f, rfl⟩ := kd_19.mp k_sa1
  obtain ⟨e_sa2, w_sa2, k_sa2⟩ := hI.1.2 20 (by decide)
  obtain ⟨v_sa2_f, rfl⟩ := kd_20.mp k_sa2
  obtain ⟨e_saz, w_saz, k_saz⟩ := hI.1.2 21 (by decide)
  obtain ⟨v_saz_x, rfl⟩ := kd_21.mp k_saz
  obtain ⟨e_saz1, w_saz1, k_saz1⟩ := hI.1.2 22 (by decide)
  obtain ⟨v_saz1_f, rfl⟩ := kd_22.mp k_saz1
  obtain ⟨e_saz2, w_saz2, k_saz2⟩ := hI.1.2 23 (by decide)
  obtain ⟨v_saz2_f, rfl⟩ := kd_23.mp k_saz2
  obtain ⟨e_saz3, w_saz3, k_saz3⟩ := hI.1.2 24 (by decide)
  obtain ⟨v_saz3_f, rfl⟩ := kd_24.mp k_saz3
  obtain ⟨e_saz4, w_saz4, k_saz4⟩ := hI.1.2 25 (by decide)
  obtain ⟨v_saz4_f, rfl⟩ := kd_25.mp k_saz4
  obtain ⟨e_saz5, w_saz5, k_saz5⟩ := hI.1.2 26 (by decide)
  obtain ⟨v_saz5_f, rfl⟩ := kd_26.mp k_saz5
  obtain ⟨e_saz6, w_saz6, k_saz6⟩ := hI.1.2 27 (by decide)
  obtain ⟨v_saz6_f, rfl⟩ := kd_27.mp k_saz6
  obtain ⟨e_sa4, w_sa4, k_sa4⟩ := hI.1.2 28 (by decide)
  obtain ⟨v_sa4_f, rfl⟩ := kd_28.mp k_sa4
  obtain ⟨e_sa5, w_sa5, k_sa5⟩ := hI.1.2 29 (by decide)
  obtain ⟨v_sa5_f, rfl⟩ := kd_29.mp k_sa5
  obtain ⟨e_sa6, w_sa6, k_sa6⟩ := hI.1.2 30 (by decide)
  obtain ⟨v_sa6_h, rfl⟩ := kd_30.mp k_sa6
  refine ((C_Ip_heatAtE g (ad 0) (ad 1) (ad 5) (ad 18) (ad 31) (ad 32) (ad 36) (ad 42) (ad 45) (ad 47) (ad 49) (ad 50) (ad 51) (ad 2) (ad 3) (ad 4) ((t.1 2).1) v_pa2_f v_pa3_h ((t.1 1).2.2 0) (ad 19) (ad 20) (ad 21) (ad 22) (ad 23) (ad 24) (ad 25) (ad 26) (ad 27) (ad 28) (ad 29) (ad 30) ((v_sa1_f, v_sa2_f, v_sa_x, v_sa_y), (((v_saz1_f, v_saz3_f, v_saz4_f, v_saz_x), v_saz2_f), v_saz5_f, v_saz6_f), (v_sa4_f, v_sa5_f, v_sa6_h)) x y h st hz).at (hI.1.I [0, 1, 2, 3, 4, 18, 19, 20, 21, 22, 23, 24, 25, 26, 27, 28, 29, 30] _ rfl (by decide) (by decide) (List.forall_mem_cons.mpr ⟨w_a, (List.forall_mem_cons.mpr ⟨w_pa, (List.forall_mem_cons.mpr ⟨w_pa1, (List.forall_mem_cons.mpr ⟨w_pa2, (List.forall_mem_cons.mpr ⟨w_pa3, (List.forall_mem_cons.mpr ⟨w_sa, (List.forall_mem_cons.mpr ⟨w_sa1, (List.forall_mem_cons.mpr ⟨w_sa2, (List.forall_mem_cons.mpr ⟨w_saz, (List.forall_mem_cons.mpr ⟨w_saz1, (List.forall_mem_cons.mpr ⟨w_saz2, (List.forall_mem_cons.mpr ⟨w_saz3, (List.forall_mem_cons.mpr ⟨w_saz4, (List.forall_mem_cons.mpr ⟨w_saz5, (List.forall_mem_cons.mpr ⟨w_saz6, (List.forall_mem_cons.mpr ⟨w_sa4, (List.forall_mem_cons.mpr ⟨w_sa5, (List.forall_mem_cons.mpr ⟨w_sa6, (fun _ h => nomatch h)⟩)⟩)⟩)⟩)⟩)⟩)⟩)⟩)⟩)⟩)⟩)⟩)⟩)⟩)⟩)⟩)⟩)⟩))).mono (Nat.le_of_ble_eq_true rfl) (Nat.le_of_ble_eq_true rfl) (fun o w1 hp => ?_)
  obtain ⟨cs1, hp, hi9⟩ := hp
  obtain ⟨e1, e2⟩ := hp
  subst e1; subst e2
  exact ⟨rfl, hI.fix (t2 := t) (is := [0, 1, 2, 3, 4, 18, 19, 20, 21, 22, 23, 24, 25, 26, 27, 28, 29, 30]) hi9 rfl ⟨kd_0.mpr rfl, kd_1.mpr rfl, kd_2.mpr rfl, kd_3.mpr ⟨_, rfl⟩, kd_4.mpr ⟨_, rfl⟩, kd_18.mpr ⟨_, _, rfl⟩, kd_19.mpr ⟨_, rfl⟩, kd_20.mpr ⟨_, rfl⟩, kd_21.mpr ⟨_, rfl⟩, kd_22.mpr ⟨_, rfl⟩, kd_23.mpr ⟨_, rfl⟩, kd_24.mpr ⟨_, rfl⟩, kd_25.mpr ⟨_, rfl⟩, kd_26.mpr ⟨_, rfl⟩, kd_27.mpr ⟨_, rfl⟩, kd_28.mpr ⟨_, rfl⟩, kd_29.mpr ⟨_, rfl⟩, kd_30.mpr ⟨_, rfl⟩, trivial⟩ (by decide) (by decide) (fun _ _ _ => rfl) (fun h => h) rfl⟩
theorem K_Ip_heatAt {g : zG} {ad : Nat → Nat} {t : zTT} {u : zNN} {w : zW} (hI : IVm g ad t u w) (x y h st : Int32) : zMB g M_Ip_heatAt [.ref (ad 0), .int x, .int y, .int h, .int st] w (CKx g ad t u.1 ["java/lang/IndexOutOfBoundsException", "java/lang/IllegalArgumentException"]) 10 300 := by
  obtain ⟨s, hI⟩ := hI
  by_cases hq : 0 ≤ x ∧ x < 12 ∧ 0 ≤ y ∧ y < 9
  · obtain ⟨x0, y0, hx0, hy0, rfl, rfl, hz⟩ := z_cl_in hq
    by_cases hh : 1200 ≤ h ∧ h ≤ 1500
    · by_cases hs : 0 ≤ st ∧ st ≤ 400
      · obtain ⟨kd, hkd, es⟩ := z_in20 (b := 400) (by decide) hs
        subst es
        exact (Qx_Ip_heatAtN hI (nI x0) (nI y0) h kd hkd _ hz hh).mono (by decide) (by decide) (fun o w1 h => ⟨(Or.inl h.1 : zri _ _), u, rfl, ⟨_, h.2⟩⟩)
      · exact (Qx_Ip_heatAtG hI (nI x0) (nI y0) h st _ hz hh (z_stp hs)).mono (by decide) (by decide) (fun o w1 h => ⟨zri.th h.1 (by simp), u, rfl, ⟨_, h.2⟩⟩)
    · exact (Qx_Ip_heatAtF hI (nI x0) (nI y0) h st _ hz hh).mono (by decide) (by decide) (fun o w1 h => ⟨zri.th h.1 (by simp), u, rfl, ⟨_, h.2⟩⟩)
  · exact (Qx_Ip_heatAtE hI x y h st (if_neg hq)).mono (by decide) (by decide) (fun o w1 h => ⟨zri.th h.1 (by simp), u, rfl, ⟨_, h.2⟩⟩)
