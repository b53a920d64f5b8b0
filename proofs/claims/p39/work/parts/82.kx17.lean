set_option maxHeartbeats 4000000 in
theorem Qx_Ip_ladle119 {g : zG} {ad : Nat → Nat} {t : zTT} {u : zNN} {w : zW} (hI : IV g ad t u w) (he0 : ¬ ((t.1 43).1 0) = 0) : zMB g M_Ip_ladle [.ref (ad 0), .int 119] w (fun o w1 => o = .inl (some (.int ((t.1 43).1 0))) ∧ IV g ad t u w1) 1 6 := by
  obtain ⟨e_a, w_a, k_a⟩ := hI.1.2 0 (by decide)
  obtain rfl := kd_0.mp k_a
  obtain ⟨e_la, w_la, k_la⟩ := hI.1.2 42 (by decide)
  obtain ⟨c_la_0, rfl⟩ := kd_42.mp k_la
  obtain ⟨e_lab, w_lab, k_lab⟩ := hI.1.2 43 (by decide)
  obtain ⟨c_lab_0, rfl⟩ := kd_43.mp k_lab
  obtain ⟨e_labg, w_labg, k_labg⟩ := hI.1.2 44 (by decide)
  obtain rfl := kd_44.mp k_labg
  refine ((C_Ip_ladle119 g (ad 0) (ad 1) (ad 5) (ad 18) (ad 31) (ad 32) (ad 36) (ad 42) (ad 45) (ad 47) (ad 49) (ad 50) (ad 51) (ad 43) (ad 44) ((t.1 44).2.1) ((t.1 42).1 0) ((t.1 42).1 1) ((t.1 42).1 2) ((t.1 43).1 0) he0).at (hI.1.I [0, 42, 43, 44] _ rfl (by decide) (by decide) (List.forall_mem_cons.mpr ⟨w_a, (List.forall_mem_cons.mpr ⟨w_la, (List.forall_mem_cons.mpr ⟨w_lab, (List.forall_mem_cons.mpr ⟨w_labg, (fun _ h => nomatch h)⟩)⟩)⟩)⟩))).mono (Nat.le_of_ble_eq_true rfl) (Nat.le_of_ble_eq_true rfl) (fun o w1 hp => ?_)
  obtain ⟨cs1, hp, hi9⟩ := hp
  obtain ⟨e1, e2⟩ := hp
  subst e1; subst e2
  exact ⟨rfl, hI.fix (t2 := t) (is := [0, 42, 43, 44]) hi9 rfl ⟨kd_0.mpr rfl, kd_42.mpr ⟨c_la_0, rfl⟩, kd_43.mpr ⟨c_lab_0, rfl⟩, kd_44.mpr rfl, trivial⟩ (by decide) (by decide) (fun _ _ _ => rfl) (fun h => h) rfl⟩
set_option maxHeartbeats 4000000 in
theorem Qx_Ip_ladle104 {g : zG} {ad : Nat → Nat} {t : zTT} {u : zNN} {w : zW} (hI : IV g ad t u w) (he0 : ¬ ((t.1 43).1 0) = 0) : zMB g M_Ip_ladle [.ref (ad 0), .int 104] w (fun o w1 => o = .inl (some (.int ((t.1 42).1 0))) ∧ IV g ad t u w1) 1 6 := by
  obtain ⟨e_a, w_a, k_a⟩ := hI.1.2 0 (by decide)
  obtain rfl := kd_0.mp k_a
  obtain ⟨e_la, w_la, k_la⟩ := hI.1.2 42 (by decide)
  obtain ⟨c_la_0, rfl⟩ := kd_42.mp k_la
  obtain ⟨e_lab, w_lab, k_lab⟩ := hI.1.2 43 (by decide)
  obtain ⟨c_lab_0, rfl⟩ := kd_43.mp k_lab
  obtain ⟨e_labg, w_labg, k_labg⟩ := hI.1.2 44 (by decide)
  obtain rfl := kd_44.mp k_labg
  refine ((C_Ip_ladle104 g (ad 0) (ad 1) (ad 5) (ad 18) (ad 31) (ad 32) (ad 36) (ad 42) (ad 45) (ad 47) (ad 49) (ad 50) (ad 51) (ad 43) (ad 44) ((t.1 44).2.1) ((t.1 42).1 0) ((t.1 42).1 1) ((t.1 42).1 2) ((t.1 43).1 0) he0).at (hI.1.I [0, 42, 43, 44] _ rfl (by decide) (by decide) (List.forall_mem_cons.mpr ⟨w_a, (List.forall_mem_cons.mpr ⟨w_la, (List.forall_mem_cons.mpr ⟨w_lab, (List.forall_mem_cons.mpr ⟨w_labg, (fun _ h => nomatch h)⟩)⟩)⟩)⟩))).mono (Nat.le_of_ble_eq_true rfl) (Nat.le_of_ble_eq_true rfl) (fun o w1 hp => ?_)
  obtain ⟨cs1, hp, hi9⟩ := hp
  obtain ⟨e1, e2⟩ := hp
  subst e1; subst e2
  exact ⟨rfl, hI.fix (t2 := t) (is := [0, 42, 43, 44]) hi9 rfl ⟨kd_0.mpr rfl, kd_42.mpr ⟨c_la_0, rfl⟩, kd_43.mpr ⟨c_lab_0, rfl⟩, kd_44.mpr rfl, trivial⟩ (by decide) (by decide) (fun _ _ _ => rfl) (fun h => h) rfl⟩
set_option maxHeartbeats 4000000 in
theorem Qx_Ip_ladle109 {g : zG} {ad : Nat → Nat} {t : zTT} {u : zNN} {w : zW} (hI : IV g ad t u w) (he0 : ¬ ((t.1 43).1 0) = 0) : zMB g M_Ip_ladle [.ref (ad 0), .int 109] w (fun o w1 => o = .inl (some (.int ((t.1 42).1 1))) ∧ IV g ad t u w1) 1 6 := by
  obtain ⟨e_a, w_a, k_a⟩ := hI.1.2 0 (by decide)
  obtain rfl := kd_0.mp k_a
  obtain ⟨e_la, w_la, k_la⟩ := hI.1.2 42 (by decide)
  obtain ⟨c_la_0, rfl⟩ := kd_42.mp k_la
  obtain ⟨e_lab, w_lab, k_lab⟩ := hI.1.2 43 (by decide)
  obtain ⟨c_lab_0, rfl⟩ := kd_43.mp k_lab
  obtain ⟨e_labg, w_labg, k_labg⟩ := hI.1.2 44 (by decide)
  obtain rfl := kd_44.mp k_labg
  refine ((C_Ip_ladle109 g (ad 0) (ad 1) (ad 5) (ad 18) (ad 31) (ad 32) (ad 36) (ad 42) (ad 45) (ad 47) (ad 49) (ad 50) (ad 51) (ad 43) (ad 44) ((t.1 44).2.1) ((t.1 42).1 0) ((t.1 42).1 1) ((t.1 42).1 2) ((t.1 43).1 0) he0).at (hI.1.I [0, 42, 43, 44] _ rfl (by decide) (by decide) (List.forall_mem_cons.mpr ⟨w_a, (List.forall_mem_cons.mpr ⟨w_la, (List.forall_mem_cons.mpr ⟨w_lab, (List.forall_mem_cons.mpr ⟨w_labg, (fun _ h => nomatch h)⟩)⟩)⟩)⟩))).mono (Nat.le_of_ble_eq_true rfl) (Nat.le_of_ble_eq_true rfl) (fun o w1 hp => ?_)
  obtain ⟨cs1, hp, hi9⟩ := hp
  obtain ⟨e1, e2⟩ := hp
  subst e1; subst e2
  exact ⟨rfl, hI.fix (t2 := t) (is := [0, 42, 43, 44]) hi9 rfl ⟨kd_0.mpr rfl, kd_42.mpr ⟨c_la_0, rfl⟩, kd_43.mpr ⟨c_lab_0, rfl⟩, kd_44.mpr rfl, trivial⟩ (by decide) (by decide) (fun _ _ _ => rfl) (fun h => h) rfl⟩
theorem K_Ip_ladle {g : zG} {ad : Nat → Nat} {t : zTT} {u : zNN} {w : zW} (hI : IVm g ad t u w) (c : Int32) : zMB g M_Ip_ladle [.ref (ad 0), .int c] w (CKx g ad t u.1 ["java/lang/IllegalArgumentException"]) 10 300 := by
  obtain ⟨s, hI⟩ := hI
  by_cases hw : z_ix 3 c < 0
  · exact (Qx_Ip_ladleE hI c hw).mono (by decide) (by decide) (fun o w1 h => ⟨zri.th h.1 (by simp), u, rfl, ⟨_, h.2⟩⟩)
  · by_cases he0 : (t.1 43).1 0 = 0
    · exact (Qx_Ip_ladle0 hI c hw he0).mono (by decide) (by decide) (fun o w1 h => ⟨zri.vl h.1, u, rfl, ⟨_, h.2⟩⟩)
    · rcases z_ix3 (Int32.not_lt.mp hw) with rfl | rfl | rfl
      · exact (Qx_Ip_ladle119 hI he0).mono (by decide) (by decide) (fun o w1 h => ⟨zri.vl h.1, u, rfl, ⟨_, h.2⟩⟩)
      · exact (Qx_Ip_ladle104 hI he0).mono (by decide) (by decide) (fun o w1 h => ⟨zri.vl h.1, u, rfl, ⟨_, h.2⟩⟩)
      · exact (Qx_Ip_ladle109 hI he0).mono (by decide) (by decide) (fun o w1 h => ⟨zri.vl h.1, u, rfl, ⟨_, h.2⟩⟩)
set_option maxHeartbeats 4000000 in
theorem Qx_Ip_pigE {g : zG} {ad : Nat → Nat} {t : zTT} {u : zNN} {w : zW} (hI : IV g ad t u w) (he0 : ((t.1 43).1 0) = 0) : zMB g M_Ip_pig [.ref (ad 0)] w (fun o w1 => o = .inr "java/lang/IllegalStateException" ∧ IV g ad t u w1) 1 6 := by
  obtain ⟨e_a, w_a, k_a⟩ := hI.1.2 0 (by decide)
  obtain rfl := kd_0.mp k_a
  obtain ⟨e_la, w_la, k_la⟩ := hI.1.2 42 (by decide)
  obtain ⟨c_la_0, rfl⟩ := kd_42.mp k_la
  obtain ⟨e_lab, w_lab, k_lab⟩ := hI.1.2 43 (by decide)
  obtain ⟨c_lab_0, rfl⟩ := kd_43.mp k_lab
  obtain ⟨e_labg, w_labg, k_labg⟩ := hI.1.2 44 (by decide)
  obtain rfl := kd_44.mp k_labg
  obtain ⟨e_gy, w_gy, k_gy⟩ := hI.1.2 45 (by decide)
  obtain rfl := kd_45.mp k_gy
  obtain ⟨e_gyg, w_gyg, k_gyg⟩ := hI.1.2 46 (by decide)
  obtain rfl := kd_46.mp k_gyg
  obtain ⟨e_du, w_du, k_du⟩ := hI.1.2 47 (by decide)
  obtain rfl := kd_47.mp k_du
  obtain ⟨e_dug, w_dug, k_dug⟩ := hI.1.2 48 (by decide)
  obtain rfl := kd_48.mp k_dug
  refine ((C_Ip_pigE g (ad 0) (ad 1) (ad 5) (ad 18) (ad 31) (ad 32) (ad 36) (ad 42) (ad 45) (ad 47) (ad 49) (ad 50) (ad 51) (ad 43) (ad 44) (ad 46) (ad 48) ((t.1 44).2.1) ((t.1 46).2.1) ((t.1 48).2.1) ((t.1 42).1 0) ((t.1 42).1 1) ((t.1 42).1 2) ((t.1 43).1 0) ((t.1 45).1 0) ((t.1 47).1 0) he0).at (hI.1.I [0, 42, 43, 44, 45, 46, 47, 48] _ rfl (by decide) (by decide) (List.forall_mem_cons.mpr ⟨w_a, (List.forall_mem_cons.mpr ⟨w_la, (List.forall_mem_cons.mpr ⟨w_lab, (List.forall_mem_cons.mpr ⟨w_labg, (List.forall_mem_cons.mpr ⟨w_gy, (List.forall_mem_cons.mpr ⟨w_gyg, (List.forall_mem_cons.mpr ⟨w_du, (List.forall_mem_cons.mpr ⟨w_dug, (fun _ h => nomatch h)⟩)⟩)⟩)⟩)⟩)⟩)⟩)⟩))).mono (Nat.le_of_ble_eq_true rfl) (Nat.le_of_ble_eq_true rfl) (fun o w1 hp => ?_)
  obtain ⟨cs1, hp, hi9⟩ := hp
  obtain ⟨e1, e2⟩ := hp
  subst e1; subst e2
  exact ⟨rfl, hI.fix (t2 := t) (is := [0, 42, 43, 44, 45, 46, 47, 48]) hi9 rfl ⟨kd_0.mpr rfl, kd_42.mpr ⟨c_la_0, rfl⟩, kd_43.mpr ⟨c_lab_0, rfl⟩, kd_44.mpr rfl, kd_45.mpr rfl, kd_46.mpr rfl, kd_47.mpr rfl, kd_48.mpr rfl, trivial⟩ (by decide) (by decide) (fun _ _ _ => rfl) (fun h => h) rfl⟩
set_option maxHeartbeats 4000000 in
theorem Qx_Ip_pigN {g : zG} {ad : Nat → Nat} {t : zTT} {u : zNN} {w : zW} (hI : IV g ad t u w) (he0 : ¬ ((t.1 43).1 0) = 0) (hw : ((t.1 42).1 2) = 0) : zMB g M_Ip_pig [.ref (ad 0)] w (fun o w1 => o = .inl (some (.int ((t.1 43).1 0))) ∧ IV g ad (zup t.1 [(43, ((upd ((t.1 43).1) 0 (((t.1 43).1 0) - ((t.1 43).1 0))), (t.1 43).2.1, (t.1 43).2.2)), (44, ((t.1 44).1, mvS ((t.1 44).2.1) ((t.1 43).1 0) ((t.1 43).1 0) 4, (t.1 44).2.2)), (45, ((upd ((t.1 45).1) 0 (((t.1 45).1 0) + ((t.1 43).1 0))), (t.1 45).2.1, (t.1 45).2.2)), (46, ((t.1 46).1, mvT ((t.1 44).2.1) ((t.1 43).1 0) ((t.1 43).1 0) ((t.1 46).2.1) 4, (t.1 46).2.2))], t.2) u w1) 1 6 := by
  obtain ⟨e_a, w_a, k_a⟩ := hI.1.2 0 (by decide)
  obtain rfl := kd_0.mp k_a
  obtain ⟨e_la, w_la, k_la⟩ := hI.1.2 42 (by decide)
  obtain ⟨c_la_0, rfl⟩ := kd_42.mp k_la
  obtain ⟨e_lab, w_lab, k_lab⟩ := hI.1.2 43 (by decide)
  obtain ⟨c_lab_0, rfl⟩ := kd_43.mp k_lab
  obtain ⟨e_labg, w_labg, k_labg⟩ := hI.1.2 44 (by decide)
  obtain rfl := kd_44.mp k_labg
  obtain ⟨e_gy, w_gy, k_gy⟩ := hI.1.2 45 (by decide)
  obtain rfl := kd_45.mp k_gy
  obtain ⟨e_gyg, w_gyg, k_gyg⟩ := hI.1.2 46 (by decide)
  obtain rfl := kd_46.mp k_gyg
  obtain ⟨e_du, w_du, k_du⟩ := hI.1.2 47 (by decide)
  obtain rfl := kd_47.mp k_du
  obtain ⟨e_dug, w_dug, k_dug⟩ := hI.1.2 48 (by decide)
  obtain rfl := kd_48.mp k_dug
  refine ((C_Ip_pigN g (ad 0) (ad 1) (ad 5) (ad 18) (ad 31) (ad 32) (ad 36) (ad 42) (ad 45) (ad 47) (ad 49) (ad 50) (ad 51) (ad 43) (ad 44) (ad 46) (ad 48) ((t.1 44).2.1) ((t.1 46).2.1) ((t.1 48).2.1) ((t.1 42).1 0) ((t.1 42).1 1) ((t.1 42).1 2) ((t.1 43).1 0) ((t.1 45).1 0) ((t.1 47).1 0) he0 (z_nnz c_lab_0 he0) hw).at (hI.1.I [0, 42, 43, 44, 45, 46, 47, 48] _ rfl (by decide) (by decide) (List.forall_mem_cons.mpr ⟨w_a, (List.forall_mem_cons.mpr ⟨w_la, (List.forall_mem_cons.mpr ⟨w_lab, (List.forall_mem_cons.mpr ⟨w_labg, (List.forall_mem_cons.mpr ⟨w_gy, (List.forall_mem_cons.mpr ⟨w_gyg, (List.forall_mem_cons.mpr ⟨w_du, (List.forall_mem_cons.mpr ⟨w_dug, (fun _ h => nomatch h)⟩)⟩)⟩)⟩)⟩)⟩)⟩)⟩))).mono (Nat.le_of_ble_eq_true rfl) (Nat.le_of_ble_eq_true rfl) (fun o w1 hp => ?_)
  obtain ⟨cs1, hp, hi9⟩ := hp
  obtain ⟨e1, e2⟩ := hp
  subst e1; subst e2
  exact ⟨rfl, hI.fix (t2 := (zup t.1 [(43, ((upd ((t.1 43).1) 0 (((t.1 43).1 0) - ((t.1 43).1 0))), (t.1 43).2.1, (t.1 43).2.2)), (44, ((t.1 44).1, mvS ((t.1 44).2.1) ((t.1 43).1 0) ((t.1 43).1 0) 4, (t.1 44).2.2)), (45, ((upd ((t.1 45).1) 0 (((t.1 45).1 0) + ((t.1 43).1 0))), (t.1 45).2.1, (t.1 45).2.2)), (46, ((t.1 46).1, mvT ((t.1 44).2.1) ((t.1 43).1 0) ((t.1 43).1 0) ((t.1 46).2.1) 4, (t.1 46).2.2))], t.2)) (is := [0, 42, 43, 44, 45, 46, 47, 48]) hi9 rfl ⟨kd_0.mpr rfl, kd_42.mpr ⟨c_la_0, rfl⟩, kd_43.mpr ⟨(show 0 ≤ (t.1 43).1 0 - (t.1 43).1 0 from by rw [Int32.sub_self]; decide), rfl⟩, kd_44.mpr rfl, kd_45.mpr rfl, kd_46.mpr rfl, kd_47.mpr rfl, kd_48.mpr rfl, trivial⟩ (by decide) (by decide) (fun i hi hn => zup_out (fun q => hn ((by decide : ∀ j ∈ ([43, 44, 45, 46] : List Nat), j ∈ ([0, 42, 43, 44, 45, 46, 47, 48] : List Nat)) i q))) (fun h => h) rfl⟩
set_option maxHeartbeats 4000000 in
theorem Qx_Ip_pigD {g : zG} {ad : Nat → Nat} {t : zTT} {u : zNN} {w : zW} (hI : IV g ad t u w) (he0 : ¬ ((t.1 43).1 0) = 0) (hw : ¬ ((t.1 42).1 2) = 0) : zMB g M_Ip_pig [.ref (ad 0)] w (fun o w1 => o = .inl (some (.int ((t.1 43).1 0))) ∧ IV g ad (zup t.1 [(43, ((upd ((t.1 43).1) 0 (((t.1 43).1 0) - ((t.1 43).1 0))), (t.1 43).2.1, (t.1 43).2.2)), (44, ((t.1 44).1, mvS ((t.1 44).2.1) ((t.1 43).1 0) ((t.1 43).1 0) 4, (t.1 44).2.2)), (47, ((upd ((t.1 47).1) 0 (((t.1 47).1 0) + ((t.1 43).1 0))), (t.1 47).2.1, (t.1 47).2.2)), (48, ((t.1 48).1, mvT ((t.1 44).2.1) ((t.1 43).1 0) ((t.1 43).1 0) ((t.1 48).2.1) 4, (t.1 48).2.2))], t.2) u w1) 1 6 := by
  obtain ⟨e_a, w_a, k_a⟩ := hI.1.2 0 (by decide)
  obtain rfl := kd_0.mp k_a
  obtain ⟨e_la, w_la, k_la⟩ := hI.1.2 42 (by decide)
  obtain ⟨c_la_0, rfl⟩ := kd_42.mp k_la
  obtain ⟨e_lab, w_lab, k_lab⟩ := hI.1.2 43 (by decide)
  obtain ⟨c_lab_0, rfl⟩ := kd_43.mp k_lab
  obtain ⟨e_labg, w_labg, k_labg⟩ := hI.1.2 44 (by decide)
  obtain rfl := kd_44.mp k_labg
  obtain ⟨e_gy, w_gy, k_gy⟩ := hI.1.2 45 (by decide)
  obtain rfl := kd_45.mp k_gy
  obtain ⟨e_gyg, w_gyg, k_gyg⟩ := hI.1.2 46 (by decide)
  obtain rfl := kd_46.mp k_gyg
  obtain ⟨e_du, w_du, k_du⟩ := hI.1.2 47 (by decide)
  obtain rfl := kd_47.mp k_du
  obtain ⟨e_dug, w_dug, k_dug⟩ := hI.1.2 48 (by decide)
  obtain rfl := kd_48.mp k_dug
  refine ((C_Ip_pigD g (ad 0) (ad 1) (ad 5) (ad 18) (ad 31) (ad 32) (ad 36) (ad 42) (ad 45) (ad 47) (ad 49) (ad 50) (ad 51) (ad 43) (ad 44) (ad 46) (ad 48) ((t.1 44).2.1) ((t.1 46).2.1) ((t.1 48).2.1) ((t.1 42).1 0) ((t.1 42).1 1) ((t.1 42).1 2) ((t.1 43).1 0) ((t.1 45).1 0) ((t.1 47).1 0) he0 (z_nnz c_lab_0 he0) hw).at (hI.1.I [0, 42, 43, 44, 45, 46, 47, 48] _ rfl (by decide) (by decide) (List.forall_mem_cons.mpr ⟨w_a, (List.forall_mem_cons.mpr ⟨w_la, (List.forall_mem_cons.mpr ⟨w_lab, (List.forall_mem_cons.mpr ⟨w_labg, (List.forall_mem_cons.mpr ⟨w_gy, (List.forall_mem_cons.mpr ⟨w_gyg, (List.forall_mem_cons.mpr ⟨w_du, (List.forall_mem_cons.mpr ⟨w_dug, (fun _ h => nomatch h)⟩)⟩)⟩)⟩)⟩)⟩)⟩)⟩))).mono (Nat.le_of_ble_eq_true rfl) (Nat.le_of_ble_eq_true rfl) (fun o w1 hp => ?_)
  obtain ⟨cs1, hp, hi9⟩ := hp
  obtain ⟨e1, e2⟩ := hp
  subst e1; subst e2
  exact ⟨rfl, hI.fix (t2 := (zup t.1 [(43, ((upd ((t.1 43).1) 0 (((t.1 43).1 0) - ((t.1 43).1 0))), (t.1 43).2.1, (t.1 43).2.2)), (44, ((t.1 44).1, mvS ((t.1 44).2.1) ((t.1 43).1 0) ((t.1 43).1 0) 4, (t.1 44).2.2)), (47, ((upd ((t.1 47).1) 0 (((t.1 47).1 0) + ((t.1 43).1 0))), (t.1 47).2.1, (t.1 47).2.2)), (48, ((t.1 48).1, mvT ((t.1 44).2.1) ((t.1 43).1 0) ((t.1 43).1 0) ((t.1 48).2.1) 4, (t.1 48).2.2))], t.2)) (is := [0, 42, 43, 44, 45, 46, 47, 48]) hi9 rfl ⟨kd_0.mpr rfl, kd_42.mpr ⟨c_la_0, rfl⟩, kd_43.mpr ⟨(show 0 ≤ (t.1 43).1 0 - (t.1 43).1 0 from by rw [Int32.sub_self]; decide), rfl⟩, kd_44.mpr rfl, kd_45.mpr rfl, kd_46.mpr rfl, kd_47.mpr rfl, kd_48.mpr rfl, trivial⟩ (by decide) (by decide) (fun i hi hn => zup_out (fun q => hn ((by decide : ∀ j ∈ ([43, 44, 47, 48] : List Nat), j ∈ ([0, 42, 43, 44, 45, 46, 47, 48] : List Nat)) i q))) (fun h => h) rfl⟩
noncomputable def tK_Ip_pig (t : zTT) : zTT := (if (t.1 43).1 0 = 0 then t else (if (t.1 42).1 2 = 0 then (zup t.1 [(43, ((upd ((t.1 43).1) 0 (((t.1 43).1 0) - ((t.1 43).1 0))), (t.1 43).2.1, (t.1 43).2.2)), (44, ((t.1 44).1, mvS ((t.1 44).2.1) ((t.1 43).1 0) ((t.1 43).1 0) 4, (t.1 44).2.2)), (45, ((upd ((t.1 45).1) 0 (((t.1 45).1 0) + ((t.1 43).1 0))), (t.1 45).2.1, (t.1 45).2.2)), (46, ((t.1 46).1, mvT ((t.1 44).2.1) ((t.1 43).1 0) ((t.1 43).1 0) ((t.1 46).2.1) 4, (t.1 46).2.2))], t.2) else (zup t.1 [(43, ((upd ((t.1 43).1) 0 (((t.1 43).1 0) - ((t.1 43).1 0))), (t.1 43).2.1, (t.1 43).2.2)), (44, ((t.1 44).1, mvS ((t.1 44).2.1) ((t.1 43).1 0) ((t.1 43).1 0) 4, (t.1 44).2.2)), (47, ((upd ((t.1 47).1) 0 (((t.1 47).1 0) + ((t.1 43).1 0))), (t.1 47).2.1, (t.1 47).2.2)), (48, ((t.1 48).1, mvT ((t.1 44).2.1) ((t.1 43).1 0) ((t.1 43).1 0) ((t.1 48).2.1) 4, (t.1 48).2.2))], t.2)))
theorem K_Ip_pig {g : zG} {ad : Nat → Nat} {t : zTT} {u : zNN} {w : zW} (hI : IVm g ad t u w) : zMB g M_Ip_pig [.ref (ad 0)] w (CKx g ad (tK_Ip_pig t) u.1 ["java/lang/IllegalStateException"]) 10 300 := by
  obtain ⟨s, hI⟩ := hI
  by_cases he0 : (t.1 43).1 0 = 0
  · have eT : (tK_Ip_pig t) = t := by unfold tK_Ip_pig; rw [if_pos he0]
    rw [eT]
    exact (Qx_Ip_pigE hI he0).mono (by decide) (by decide) (fun o w1 h => ⟨zri.th h.1 (by simp), u, rfl, ⟨_, h.2⟩⟩)
  · by_cases hw : (t.1 42).1 2 = 0
    · have eT : (tK_Ip_pig t) = (zup t.1 [(43, ((upd ((t.1 43).1) 0 (((t.1 43).1 0) - ((t.1 43).1 0))), (t.1 43).2.1, (t.1 43).2.2)), (44, ((t.1 44).1, mvS ((t.1 44).2.1) ((t.1 43).1 0) ((t.1 43).1 0) 4, (t.1 44).2.2)), (45, ((upd ((t.1 45).1) 0 (((t.1 45).1 0) + ((t.1 43).1 0))), (t.1 45).2.1, (t.1 45).2.2)), (46, ((t.1 46).1, mvT ((t.1 44).2.1) ((t.1 43).1 0) ((t.1 43).1 0) ((t.1 46).2.1) 4, (t.1 46).2.2))], t.2) := by unfold tK_Ip_pig; rw [if_neg he0, if_pos hw]
      rw [eT]
      exact (Qx_Ip_pigN hI he0 hw).mono (by decide) (by decide) (fun o w1 h => ⟨zri.vl h.1, u, rfl, IVm.zu h.2⟩)
    · have eT : (tK_Ip_pig t) = (zup t.1 [(43, ((upd ((t.1 43).1) 0 (((t.1 43).1 0) - ((t.1 43).1 0))), (t.1 43).2.1, (t.1 43).2.2)), (44, ((t.1 44).1, mvS ((t.1 44).2.1) ((t.1 43).1 0) ((t.1 43).1 0) 4, (t.1 44).2.2)), (47, ((upd ((t.1 47).1) 0 (((t.1 47).1 0) + ((t.1 43).1 0))), (t.1 47).2.1, (t.1 47).2.2)), (48, ((t.1 48).1, mvT ((t.1 44).2.1) ((t.1 43).1 0) ((t.1 43).1 0) ((t.1 48).2.1) 4, (t.1 48).2.2))], t.2) := by unfold tK_Ip_pig; rw [if_neg he0, if_neg hw]
      rw [eT]
      exact (Qx_Ip_pigD hI he0 hw).mono (by decide) (by decide) (fun o w1 h => ⟨zri.vl h.1, u, rfl, IVm.zu h.2⟩)
set_option maxHeartbeats 4000000 in
theorem Qx_Ip_pool103 {g : zG} {ad : Nat → Nat} {t : zTT} {u : zNN} {w : zW} (hI : IV g ad t u w) : zMB g M_Ip_pool [.ref (ad 0), .int 103] w (fun o w1 => o = .inl (some (.int ((t.1 45).1 0))) ∧ IV g ad t u w1) 1 6 := by
  obtain ⟨e_a, w_a, k_a⟩ := hI.1.2 0 (by decide)
  obtain rfl := kd_0.mp k_a
  obtain ⟨e_gy, w_gy, k_gy⟩ := hI.1.2 45 (by decide)
  obtain rfl := kd_45.mp k_gy
  obtain ⟨e_gyg, w_gyg, k_gyg⟩ := hI.1.2 46 (by decide)
  obtain rfl := kd_46.mp k_gyg
  refine ((C_Ip_pool103 g (ad 0) (ad 1) (ad 5) (ad 18) (ad 31) (ad 32) (ad 36) (ad 42) (ad 45) (ad 47) (ad 49) (ad 50) (ad 51) (ad 46) ((t.1 46).2.1) ((t.1 45).1 0)).at (hI.1.I [0, 45, 46] _ rfl (by decide) (by decide) (List.forall_mem_cons.mpr ⟨w_a, (List.forall_mem_cons.mpr ⟨w_gy, (List.forall_mem_cons.mpr ⟨w_gyg, (fun _ h => nomatch h)⟩)⟩)⟩))).mono (Nat.le_of_ble_eq_true rfl) (Nat.le_of_ble_eq_true rfl) (fun o w1 hp => ?_)
  obtain ⟨cs1, hp, hi9⟩ := hp
  obtain ⟨e1, e2⟩ := hp
  subst e1; subst e2
  exact ⟨rfl, hI.fix (t2 := t) (is := [0, 45, 46]) hi9 rfl ⟨kd_0.mpr rfl, kd_45.mpr rfl, kd_46.mpr rfl, trivial⟩ (by decide) (by decide) (fun _ _ _ => rfl) (fun h => h) rfl⟩
set_option maxHeartbeats 4000000 in
theorem Qx_Ip_pool100 {g : zG} {ad : Nat → Nat} {t : zTT} {u : zNN} {w : zW} (hI : IV g ad t u w) : zMB g M_Ip_pool [.ref (ad 0), .int 100] w (fun o w1 => o = .inl (some (.int ((t.1 47).1 0))) ∧ IV g ad t u w1) 1 6 := by
  obtain ⟨e_a, w_a, k_a⟩ := hI.1.2 0 (by decide)
  obtain rfl := kd_0.mp k_a
  obtain ⟨e_du, w_du, k_du⟩ := hI.1.2 47 (by decide)
  obtain rfl := kd_47.mp k_du
  obtain ⟨e_dug, w_dug, k_dug⟩ := hI.1.2 48 (by decide)
  obtain rfl := kd_48.mp k_dug
  refine ((C_Ip_pool100 g (ad 0) (ad 1) (ad 5) (ad 18) (ad 31) (ad 32) (ad 36) (ad 42) (ad 45) (ad 47) (ad 49) (ad 50) (ad 51) (ad 48) ((t.1 48).2.1) ((t.1 47).1 0)).at (hI.1.I [0, 47, 48] _ rfl (by decide) (by decide) (List.forall_mem_cons.mpr ⟨w_a, (List.forall_mem_cons.mpr ⟨w_du, (List.forall_mem_cons.mpr ⟨w_dug, (fun _ h => nomatch h)⟩)⟩)⟩))).mono (Nat.le_of_ble_eq_true rfl) (Nat.le_of_ble_eq_true rfl) (fun o w1 hp => ?_)
  obtain ⟨cs1, hp, hi9⟩ := hp
  obtain ⟨e1, e2⟩ := hp
  subst e1; subst e2
  exact ⟨rfl, hI.fix (t2 := t) (is := [0, 47, 48]) hi9 rfl ⟨kd_0.mpr rfl, kd_47.mpr rfl, kd_48.mpr rfl, trivial⟩ (by decide) (by decide) (fun _ _ _ => rfl) (fun h => h) rfl⟩
set_option maxHeartbeats 4000000 in
theorem Qx_Ip_poolE {g : zG} {ad : Nat → Nat} {t : zTT} {u : zNN} {w : zW} (hI : IV g ad t u w) (k : Int32) (h1 : ¬ k = 103) (h2 : ¬ k = 100) : zMB g M_Ip_pool [.ref (ad 0), .int k] w (fun o w1 => o = .inr "java/lang/IllegalArgumentException" ∧ IV g ad t u w1) 1 6 := by
  obtain ⟨e_a, w_a, k_a⟩ := hI.1.2 0 (by decide)
  obtain rfl := kd_0.mp k_a
  refine ((C_Ip_poolE g (ad 0) (ad 1) (ad 5) (ad 18) (ad 31) (ad 32) (ad 36) (ad 42) (ad 45) (ad 47) (ad 49) (ad 50) (ad 51) k h1 h2).at (hI.1.I [0] _ rfl (by decide) (by decide) (List.forall_mem_cons.mpr ⟨w_a, (fun _ h => nomatch h)⟩))).mono (Nat.le_of_ble_eq_true rfl) (Nat.le_of_ble_eq_true rfl) (fun o w1 hp => ?_)
  obtain ⟨cs1, hp, hi9⟩ := hp
  obtain ⟨e1, e2⟩ := hp
  subst e1; subst e2
  exact ⟨rfl, hI.fix (t2 := t) (is := [0]) hi9 rfl ⟨kd_0.mpr rfl, trivial⟩ (by decide) (by decide) (fun _ _ _ => rfl) (fun h => h) rfl⟩
theorem K_Ip_pool {g : zG} {ad : Nat → Nat} {t : zTT} {u : zNN} {w : zW} (hI : IVm g ad t u w) (k : Int32) : zMB g M_Ip_pool [.ref (ad 0), .int k] w (CKx g ad t u.1 ["java/lang/IllegalArgumentException"]) 10 300 := by
  obtain ⟨s, hI⟩ := hI
  by_cases h1 : k = 103
  · subst h1
    exact (Qx_Ip_pool103 hI).mono (by decide) (by decide) (fun o w1 h => ⟨zri.vl h.1, u, rfl, ⟨_, h.2⟩⟩)
  · by_cases h2 : k = 100
    · subst h2
      exact (Qx_Ip_pool100 hI).mono (by decide) (by decide) (fun o w1 h => ⟨zri.vl h.1, u, rfl, ⟨_, h.2⟩⟩)
    · exact (Qx_Ip_poolE hI k h1 h2).mono (by decide) (by decide) (fun o w1 h => ⟨zri.th h.1 (by simp), u, rfl, ⟨_, h.2⟩⟩)
set_option maxHeartbeats 4000000 in
theorem Qx_Ip_poolHas103E {g : zG} {ad : Nat → Nat} {t : zTT} {u : zNN} {w : zW} (hI : IV g ad t u w) (k : Int32) (hk : z_ix 2 k < 0) : zMB g M_Ip_poolHas [.ref (ad 0), .int 103, .int k] w (fun o w1 => o = .inr "java/lang/IllegalArgumentException" ∧ IV g ad t u w1) 1 6 := by
  obtain ⟨e_a, w_a, k_a⟩ := hI.1.2 0 (by decide)
  obtain rfl := kd_0.mp k_a
  obtain ⟨e_gy, w_gy, k_gy⟩ := hI.1.2 45 (by decide)
  obtain rfl := kd_45.mp k_gy
  obtain ⟨e_gyg, w_gyg, k_gyg⟩ := hI.1.2 46 (by decide)
  obtain rfl := kd_46.mp k_gyg
  refine ((C_Ip_poolHas103E g (ad 0) (ad 1) (ad 5) (ad 18) (ad 31) (ad 32) (ad 36) (ad 42) (ad 45) (ad 47) (ad 49) (ad 50) (ad 51) (ad 46) ((t.1 46).2.1) ((t.1 45).1 0) k hk).at (hI.1.I [0, 45, 46] _ rfl (by decide) (by decide) (List.forall_mem_cons.mpr ⟨w_a, (List.forall_mem_cons.mpr ⟨w_gy, (List.forall_mem_cons.mpr ⟨w_gyg, (fun _ h => nomatch h)⟩)⟩)⟩))).mono (Nat.le_of_ble_eq_true rfl) (Nat.le_of_ble_eq_true rfl) (fun o w1 hp => ?_)
  obtain ⟨cs1, hp, hi9⟩ := hp
  obtain ⟨e1, e2⟩ := hp
  subst e1; subst e2
  exact ⟨rfl, hI.fix (t2 := t) (is := [0, 45, 46]) hi9 rfl ⟨kd_0.mpr rfl, kd_45.mpr rfl, kd_46.mpr rfl, trivial⟩ (by decide) (by decide) (fun _ _ _ => rfl) (fun h => h) rfl⟩
set_option maxHeartbeats 4000000 in
theorem Qx_Ip_poolHas103F {g : zG} {ad : Nat → Nat} {t : zTT} {u : zNN} {w : zW} (hI : IV g ad t u w) (k : Int32) (e : Nat) (he : e < 4) (hk : z_ix 2 k = nI e) (hi : ((t.1 45).1 0) ≤ 0) : zMB g M_Ip_poolHas [.ref (ad 0), .int 103, .int k] w (fun o w1 => o = .inr "java/util/NoSuchElementException" ∧ IV g ad t u w1) 2 12 := by
  obtain ⟨e_a, w_a, k_a⟩ := hI.1.2 0 (by decide)
  obtain rfl := kd_0.mp k_a
  obtain ⟨e_gy, w_gy, k_gy⟩ := hI.1.2 45 (by decide)
  obtain rfl := kd_45.mp k_gy
  obtain ⟨e_gyg, w_gyg, k_gyg⟩ := hI.1.2 46 (by decide)
  obtain rfl := kd_46.mp k_gyg
  refine ((C_Ip_poolHas103F g (ad 0) (ad 1) (ad 5) (ad 18) (ad 31) (ad 32) (ad 36) (ad 42) (ad 45) (ad 47) (ad 49) (ad 50) (ad 51) (ad 46) ((t.1 46).2.1) ((t.1 45).1 0) k e he hk hi).at (hI.1.I [0, 45, 46] _ rfl (by decide) (by decide) (List.forall_mem_cons.mpr ⟨w_a, (List.forall_mem_cons.mpr ⟨w_gy, (List.forall_mem_cons.mpr ⟨w_gyg, (fun _ h => nomatch h)⟩)⟩)⟩))).mono (Nat.le_of_ble_eq_true rfl) (Nat.le_of_ble_eq_true rfl) (fun o w1 hp => ?_)
  obtain ⟨cs1, hp, hi9⟩ := hp
  obtain ⟨e1, e2⟩ := hp
  subst e1; subst e2
  exact ⟨rfl, hI.fix (t2 := t) (is := [0, 45, 46]) hi9 rfl ⟨kd_0.mpr rfl, kd_45.mpr rfl, kd_46.mpr rfl, trivial⟩ (by decide) (by decide) (fun _ _ _ => rfl) (fun h => h) rfl⟩
set_option maxHeartbeats 4000000 in
theorem Qx_Ip_poolHas103N {g : zG} {ad : Nat → Nat} {t : zTT} {u : zNN} {w : zW} (hI : IV g ad t u w) (k : Int32) (e : Nat) (he : e < 4) (hk : z_ix 2 k = nI e) (hi : ¬ ((t.1 45).1 0) ≤ 0) : zMB g M_Ip_poolHas [.ref (ad 0), .int 103, .int k] w (fun o w1 => o = .inl (some (.int (poI ((t.1 46).2.1) ((t.1 45).1 0) e))) ∧ IV g ad t u w1) 2 12 := by
  obtain ⟨e_a, w_a, k_a⟩ := hI.1.2 0 (by decide)
  obtain rfl := kd_0.mp k_a
  obtain ⟨e_gy, w_gy, k_gy⟩ := hI.1.2 45 (by decide)
  obtain rfl := kd_45.mp k_gy
  obtain ⟨e_gyg, w_gyg, k_gyg⟩ := hI.1.2 46 (by decide)
  obtain rfl := kd_46.mp k_gyg
  refine ((C_Ip_poolHas103N g (ad 0) (ad 1) (ad 5) (ad 18) (ad 31) (ad 32) (ad 36) (ad 42) (ad 45) (ad 47) (ad 49) (ad 50) (ad 51) (ad 46) ((t.1 46).2.1) ((t.1 45).1 0) k e he hk hi).at (hI.1.I [0, 45, 46] _ rfl (by decide) (by decide) (List.forall_mem_cons.mpr ⟨w_a, (List.forall_mem_cons.mpr ⟨w_gy, (List.forall_mem_cons.mpr ⟨w_gyg, (fun _ h => nomatch h)⟩)⟩)⟩))).mono (Nat.le_of_ble_eq_true rfl) (Nat.le_of_ble_eq_true rfl) (fun o w1 hp => ?_)
  obtain ⟨cs1, hp, hi9⟩ := hp
  obtain ⟨e1, e2⟩ := hp
  subst e1; subst e2
  exact ⟨rfl, hI.fix (t2 := t) (is := [0, 45, 46]) hi9 rfl ⟨kd_0.mpr rfl, kd_45.mpr rfl, kd_46.mpr rfl, trivial⟩ (by decide) (by decide) (fun _ _ _ => rfl) (fun h => h) rfl⟩
