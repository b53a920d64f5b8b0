set_option maxHeartbeats 4000000 in
theorem Qx_Ip_poolHas100E {g : zG} {ad : Nat → Nat} {t : zTT} {u : zNN} {w : zW} (hI : IV g ad t u w) (k : Int32) (hk : z_ix 2 k < 0) : zMB g M_Ip_poolHas [.ref (ad 0), .int 100, .int k] w (fun o w1 => o = .inr "java/lang/IllegalArgumentException" ∧ IV g ad t u w1) 1 6 := by
  obtain ⟨e_a, w_a, k_a⟩ := hI.1.2 0 (by decide)
  obtain rfl := kd_0.mp k_a
  obtain ⟨e_du, w_du, k_du⟩ := hI.1.2 47 (by decide)
  obtain rfl := kd_47.mp k_du
  obtain ⟨e_dug, w_dug, k_dug⟩ := hI.1.2 48 (by decide)
  obtain rfl := kd_48.mp k_dug
  refine ((C_Ip_poolHas100E g (ad 0) (ad 1) (ad 5) (ad 18) (ad 31) (ad 32) (ad 36) (ad 42) (ad 45) (ad 47) (ad 49) (ad 50) (ad 51) (ad 48) ((t.1 48).2.1) ((t.1 47).1 0) k hk).at (hI.1.I [0, 47, 48] _ rfl (by decide) (by decide) (List.forall_mem_cons.mpr ⟨w_a, (List.forall_mem_cons.mpr ⟨w_du, (List.forall_mem_cons.mpr ⟨w_dug, (fun _ h => nomatch h)⟩)⟩)⟩))).mono (Nat.le_of_ble_eq_true rfl) (Nat.le_of_ble_eq_true rfl) (fun o w1 hp => ?_)
  obtain ⟨cs1, hp, hi9⟩ := hp
  obtain ⟨e1, e2⟩ := hp
  subst e1; subst e2
  exact ⟨rfl, hI.fix (t2 := t) (is := [0, 47, 48]) hi9 rfl ⟨kd_0.mpr rfl, kd_47.mpr rfl, kd_48.mpr rfl, trivial⟩ (by decide) (by decide) (fun _ _ _ => rfl) (fun h => h) rfl⟩
set_option maxHeartbeats 4000000 in
theorem Qx_Ip_poolHas100F {g : zG} {ad : Nat → Nat} {t : zTT} {u : zNN} {w : zW} (hI : IV g ad t u w) (k : Int32) (e : Nat) (he : e < 4) (hk : z_ix 2 k = nI e) (hi : ((t.1 47).1 0) ≤ 0) : zMB g M_Ip_poolHas [.ref (ad 0), .int 100, .int k] w (fun o w1 => o = .inr "java/util/NoSuchElementException" ∧ IV g ad t u w1) 2 12 := by
  obtain ⟨e_a, w_a, k_a⟩ := hI.1.2 0 (by decide)
  obtain rfl := kd_0.mp k_a
  obtain ⟨e_du, w_du, k_du⟩ := hI.1.2 47 (by decide)
  obtain rfl := kd_47.mp k_du
  obtain ⟨e_dug, w_dug, k_dug⟩ := hI.1.2 48 (by decide)
  obtain rfl := kd_48.mp k_dug
  refine ((C_Ip_poolHas100F g (ad 0) (ad 1) (ad 5) (ad 18) (ad 31) (ad 32) (ad 36) (ad 42) (ad 45) (ad 47) (ad 49) (ad 50) (ad 51) (ad 48) ((t.1 48).2.1) ((t.1 47).1 0) k e he hk hi).at (hI.1.I [0, 47, 48] _ rfl (by decide) (by decide) (List.forall_mem_cons.mpr ⟨w_a, (List.forall_mem_cons.mpr ⟨w_du, (List.forall_mem_cons.mpr ⟨w_dug, (fun _ h => nomatch h)⟩)⟩)⟩))).mono (Nat.le_of_ble_eq_true rfl) (Nat.le_of_ble_eq_true rfl) (fun o w1 hp => ?_)
  obtain ⟨cs1, hp, hi9⟩ := hp
  obtain ⟨e1, e2⟩ := hp
  subst e1; subst e2
  exact ⟨rfl, hI.fix (t2 := t) (is := [0, 47, 48]) hi9 rfl ⟨kd_0.mpr rfl, kd_47.mpr rfl, kd_48.mpr rfl, trivial⟩ (by decide) (by decide) (fun _ _ _ => rfl) (fun h => h) rfl⟩
set_option maxHeartbeats 4000000 in
theorem Qx_Ip_poolHas100N {g : zG} {ad : Nat → Nat} {t : zTT} {u : zNN} {w : zW} (hI : IV g ad t u w) (k : Int32) (e : Nat) (he : e < 4) (hk : z_ix 2 k = nI e) (hi : ¬ ((t.1 47).1 0) ≤ 0) : zMB g M_Ip_poolHas [.ref (ad 0), .int 100, .int k] w (fun o w1 => o = .inl (some (.int (poI ((t.1 48).2.1) ((t.1 47).1 0) e))) ∧ IV g ad t u w1) 2 12 := by
  obtain ⟨e_a, w_a, k_a⟩ := hI.1.2 0 (by decide)
  obtain rfl := kd_0.mp k_a
  obtain ⟨e_du, w_du, k_du⟩ := hI.1.2 47 (by decide)
  obtain rfl := kd_47.mp k_du
  obtain ⟨e_dug, w_dug, k_dug⟩ := hI.1.2 48 (by decide)
  obtain rfl := kd_48.mp k_dug
  refine ((C_Ip_poolHas100N g (ad 0) (ad 1) (ad 5) (ad 18) (ad 31) (ad 32) (ad 36) (ad 42) (ad 45) (ad 47) (ad 49) (ad 50) (ad 51) (ad 48) ((t.1 48).2.1) ((t.1 47).1 0) k e he hk hi).at (hI.1.I [0, 47, 48] _ rfl (by decide) (by decide) (List.forall_mem_cons.mpr ⟨w_a, (List.forall_mem_cons.mpr ⟨w_du, (List.forall_mem_cons.mpr ⟨w_dug, (fun _ h => nomatch h)⟩)⟩)⟩))).mono (Nat.le_of_ble_eq_true rfl) (Nat.le_of_ble_eq_true rfl) (fun o w1 hp => ?_)
  obtain ⟨cs1, hp, hi9⟩ := hp
  obtain ⟨e1, e2⟩ := hp
  subst e1; subst e2
  exact ⟨rfl, hI.fix (t2 := t) (is := [0, 47, 48]) hi9 rfl ⟨kd_0.mpr rfl, kd_47.mpr rfl, kd_48.mpr rfl, trivial⟩ (by decide) (by decide) (fun _ _ _ => rfl) (fun h => h) rfl⟩
set_option maxHeartbeats 4000000 in
theorem Qx_Ip_poolHasE {g : zG} {ad : Nat → Nat} {t : zTT} {u : zNN} {w : zW} (hI : IV g ad t u w) (k : Int32) (k2 : Int32) (h1 : ¬ k = 103) (h2 : ¬ k = 100) : zMB g M_Ip_poolHas [.ref (ad 0), .int k, .int k2] w (fun o w1 => o = .inr "java/lang/IllegalArgumentException" ∧ IV g ad t u w1) 1 6 := by
  obtain ⟨e_a, w_a, k_a⟩ := hI.1.2 0 (by decide)
  obtain rfl := kd_0.mp k_a
  refine ((C_Ip_poolHasE g (ad 0) (ad 1) (ad 5) (ad 18) (ad 31) (ad 32) (ad 36) (ad 42) (ad 45) (ad 47) (ad 49) (ad 50) (ad 51) k k2 h1 h2).at (hI.1.I [0] _ rfl (by decide) (by decide) (List.forall_mem_cons.mpr ⟨w_a, (fun _ h => nomatch h)⟩))).mono (Nat.le_of_ble_eq_true rfl) (Nat.le_of_ble_eq_true rfl) (fun o w1 hp => ?_)
  obtain ⟨cs1, hp, hi9⟩ := hp
  obtain ⟨e1, e2⟩ := hp
  subst e1; subst e2
  exact ⟨rfl, hI.fix (t2 := t) (is := [0]) hi9 rfl ⟨kd_0.mpr rfl, trivial⟩ (by decide) (by decide) (fun _ _ _ => rfl) (fun h => h) rfl⟩
theorem K_Ip_poolHas {g : zG} {ad : Nat → Nat} {t : zTT} {u : zNN} {w : zW} (hI : IVm g ad t u w) (k0 k : Int32) : zMB g M_Ip_poolHas [.ref (ad 0), .int k0, .int k] w (CKx g ad t u.1 ["java/lang/IllegalArgumentException", "java/util/NoSuchElementException"]) 10 300 := by
  obtain ⟨s, hI⟩ := hI
  by_cases h1 : k0 = 103
  · subst h1
    by_cases hk : z_ix 2 k < 0
    · exact (Qx_Ip_poolHas103E hI k hk).mono (by decide) (by decide) (fun o w1 h => ⟨zri.th h.1 (by simp), u, rfl, ⟨_, h.2⟩⟩)
    · obtain ⟨e9, he9, h2⟩ := z_ix2 hk
      by_cases hi : (t.1 45).1 0 ≤ 0
      · exact (Qx_Ip_poolHas103F hI k e9 he9 h2 hi).mono (by decide) (by decide) (fun o w1 h => ⟨zri.th h.1 (by simp), u, rfl, ⟨_, h.2⟩⟩)
      · exact (Qx_Ip_poolHas103N hI k e9 he9 h2 hi).mono (by decide) (by decide) (fun o w1 h => ⟨zri.vl h.1, u, rfl, ⟨_, h.2⟩⟩)
  · by_cases h2 : k0 = 100
    · subst h2
      by_cases hk : z_ix 2 k < 0
      · exact (Qx_Ip_poolHas100E hI k hk).mono (by decide) (by decide) (fun o w1 h => ⟨zri.th h.1 (by simp), u, rfl, ⟨_, h.2⟩⟩)
      · obtain ⟨e9, he9, h2⟩ := z_ix2 hk
        by_cases hi : (t.1 47).1 0 ≤ 0
        · exact (Qx_Ip_poolHas100F hI k e9 he9 h2 hi).mono (by decide) (by decide) (fun o w1 h => ⟨zri.th h.1 (by simp), u, rfl, ⟨_, h.2⟩⟩)
        · exact (Qx_Ip_poolHas100N hI k e9 he9 h2 hi).mono (by decide) (by decide) (fun o w1 h => ⟨zri.vl h.1, u, rfl, ⟨_, h.2⟩⟩)
    · exact (Qx_Ip_poolHasE hI k0 k h1 h2).mono (by decide) (by decide) (fun o w1 h => ⟨zri.th h.1 (by simp), u, rfl, ⟨_, h.2⟩⟩)
set_option maxHeartbeats 4000000 in
theorem Qx_Ip_leastCostF {g : zG} {ad : Nat → Nat} {t : zTT} {u : zNN} {w : zW} (hI : IV g ad t u w) (le : Int32) (mo : Int32) (si : Int32) (pp : Int32) (ps : Int32) (pa_ : Int32) (hw : ((0 ≤ le ∧ le ≤ 450) ∧ (le ≤ mo ∧ mo ≤ 450) ∧ (0 ≤ si ∧ si ≤ 450) ∧ (1 ≤ pp ∧ pp ≤ 1000) ∧ (1 ≤ ps ∧ ps ≤ 1000) ∧ (1 ≤ pa_ ∧ pa_ ≤ 1000))) (hs : (rcO le mo si pp ps pa_ (-1, ((t.1 49).1 0), ((t.1 49).1 1), ((t.1 49).1 2)) 11).1 < 0) : zMB g M_Ip_leastCost [.ref (ad 0), .int le, .int mo, .int si, .int pp, .int ps, .int pa_] w (fun o w1 => o = .inr "java/util/NoSuchElementException" ∧ IV g ad (zup t.1 [(49, ((upd (upd (upd ((t.1 49).1) 0 ((rcO le mo si pp ps pa_ (-1, ((t.1 49).1 0), ((t.1 49).1 1), ((t.1 49).1 2)) 11).2.1)) 1 ((rcO le mo si pp ps pa_ (-1, ((t.1 49).1 0), ((t.1 49).1 1), ((t.1 49).1 2)) 11).2.2.1)) 2 ((rcO le mo si pp ps pa_ (-1, ((t.1 49).1 0), ((t.1 49).1 1), ((t.1 49).1 2)) 11).2.2.2)), (t.1 49).2.1, (t.1 49).2.2))], t.2) u w1) 2 12 := by
  obtain ⟨e_a, w_a, k_a⟩ := hI.1.2 0 (by decide)
  obtain rfl := kd_0.mp k_a
  obtain ⟨e_re, w_re, k_re⟩ := hI.1.2 49 (by decide)
  obtain rfl := kd_49.mp k_re
  refine ((C_Ip_leastCostF g (ad 0) (ad 1) (ad 5) (ad 18) (ad 31) (ad 32) (ad 36) (ad 42) (ad 45) (ad 47) (ad 49) (ad 50) (ad 51) ((t.1 49).1 0) ((t.1 49).1 1) ((t.1 49).1 2) le mo si pp ps pa_ hw hs).at (hI.1.I [0, 49] _ rfl (by decide) (by decide) (List.forall_mem_cons.mpr ⟨w_a, (List.forall_mem_cons.mpr ⟨w_re, (fun _ h => nomatch h)⟩)⟩))).mono (Nat.le_of_ble_eq_true rfl) (Nat.le_of_ble_eq_true rfl) (fun o w1 hp => ?_)
  obtain ⟨cs1, hp, hi9⟩ := hp
  obtain ⟨e1, e2⟩ := hp
  subst e1; subst e2
  exact ⟨rfl, hI.fix (t2 := (zup t.1 [(49, ((upd (upd (upd ((t.1 49).1) 0 ((rcO le mo si pp ps pa_ (-1, ((t.1 49).1 0), ((t.1 49).1 1), ((t.1 49).1 2)) 11).2.1)) 1 ((rcO le mo si pp ps pa_ (-1, ((t.1 49).1 0), ((t.1 49).1 1), ((t.1 49).1 2)) 11).2.2.1)) 2 ((rcO le mo si pp ps pa_ (-1, ((t.1 49).1 0), ((t.1 49).1 1), ((t.1 49).1 2)) 11).2.2.2)), (t.1 49).2.1, (t.1 49).2.2))], t.2)) (is := [0, 49]) hi9 rfl ⟨kd_0.mpr rfl, kd_49.mpr rfl, trivial⟩ (by decide) (by decide) (fun i hi hn => zup_out (fun q => hn ((by decide : ∀ j ∈ ([49] : List Nat), j ∈ ([0, 49] : List Nat)) i q))) (fun h => h) rfl⟩
set_option maxHeartbeats 4000000 in
theorem Qx_Ip_leastCostN {g : zG} {ad : Nat → Nat} {t : zTT} {u : zNN} {w : zW} (hI : IV g ad t u w) (le : Int32) (mo : Int32) (si : Int32) (pp : Int32) (ps : Int32) (pa_ : Int32) (hw : ((0 ≤ le ∧ le ≤ 450) ∧ (le ≤ mo ∧ mo ≤ 450) ∧ (0 ≤ si ∧ si ≤ 450) ∧ (1 ≤ pp ∧ pp ≤ 1000) ∧ (1 ≤ ps ∧ ps ≤ 1000) ∧ (1 ≤ pa_ ∧ pa_ ≤ 1000))) (hs : ¬ (rcO le mo si pp ps pa_ (-1, ((t.1 49).1 0), ((t.1 49).1 1), ((t.1 49).1 2)) 11).1 < 0) : zMB g M_Ip_leastCost [.ref (ad 0), .int le, .int mo, .int si, .int pp, .int ps, .int pa_] w (fun o w1 => o = .inl (some (.int ((rcO le mo si pp ps pa_ (-1, ((t.1 49).1 0), ((t.1 49).1 1), ((t.1 49).1 2)) 11).1))) ∧ IV g ad (zup t.1 [(49, ((upd (upd (upd ((t.1 49).1) 0 ((rcO le mo si pp ps pa_ (-1, ((t.1 49).1 0), ((t.1 49).1 1), ((t.1 49).1 2)) 11).2.1)) 1 ((rcO le mo si pp ps pa_ (-1, ((t.1 49).1 0), ((t.1 49).1 1), ((t.1 49).1 2)) 11).2.2.1)) 2 ((rcO le mo si pp ps pa_ (-1, ((t.1 49).1 0), ((t.1 49).1 1), ((t.1 49).1 2)) 11).2.2.2)), (t.1 49).2.1, (t.1 49).2.2))], t.2) u w1) 2 12 := by
  obtain ⟨e_a, w_a, k_a⟩ := hI.1.2 0 (by decide)
  obtain rfl := kd_0.mp k_a
  obtain ⟨e_re, w_re, k_re⟩ := hI.1.2 49 (by decide)
  obtain rfl := kd_49.mp k_re
  refine ((C_Ip_leastCostN g (ad 0) (ad 1) (ad 5) (ad 18) (ad 31) (ad 32) (ad 36) (ad 42) (ad 45) (ad 47) (ad 49) (ad 50) (ad 51) ((t.1 49).1 0) ((t.1 49).1 1) ((t.1 49).1 2) le mo si pp ps pa_ hw hs).at (hI.1.I [0, 49] _ rfl (by decide) (by decide) (List.forall_mem_cons.mpr ⟨w_a, (List.forall_mem_cons.mpr ⟨w_re, (fun _ h => nomatch h)⟩)⟩))).mono (Nat.le_of_ble_eq_true rfl) (Nat.le_of_ble_eq_true rfl) (fun o w1 hp => ?_)
  obtain ⟨cs1, hp, hi9⟩ := hp
  obtain ⟨e1, e2⟩ := hp
  subst e1; subst e2
  exact ⟨rfl, hI.fix (t2 := (zup t.1 [(49, ((upd (upd (upd ((t.1 49).1) 0 ((rcO le mo si pp ps pa_ (-1, ((t.1 49).1 0), ((t.1 49).1 1), ((t.1 49).1 2)) 11).2.1)) 1 ((rcO le mo si pp ps pa_ (-1, ((t.1 49).1 0), ((t.1 49).1 1), ((t.1 49).1 2)) 11).2.2.1)) 2 ((rcO le mo si pp ps pa_ (-1, ((t.1 49).1 0), ((t.1 49).1 1), ((t.1 49).1 2)) 11).2.2.2)), (t.1 49).2.1, (t.1 49).2.2))], t.2)) (is := [0, 49]) hi9 rfl ⟨kd_0.mpr rfl, kd_49.mpr rfl, trivial⟩ (by decide) (by decide) (fun i hi hn => zup_out (fun q => hn ((by decide : ∀ j ∈ ([49] : List Nat), j ∈ ([0, 49] : List Nat)) i q))) (fun h => h) rfl⟩
set_option maxHeartbeats 4000000 in
theorem Qx_Ip_leastCostE {g : zG} {ad : Nat → Nat} {t : zTT} {u : zNN} {w : zW} (hI : IV g ad t u w) (le : Int32) (mo : Int32) (si : Int32) (pp : Int32) (ps : Int32) (pa_ : Int32) (hw : ¬ ((0 ≤ le ∧ le ≤ 450) ∧ (le ≤ mo ∧ mo ≤ 450) ∧ (0 ≤ si ∧ si ≤ 450) ∧ (1 ≤ pp ∧ pp ≤ 1000) ∧ (1 ≤ ps ∧ ps ≤ 1000) ∧ (1 ≤ pa_ ∧ pa_ ≤ 1000))) : zMB g M_Ip_leastCost [.ref (ad 0), .int le, .int mo, .int si, .int pp, .int ps, .int pa_] w (fun o w1 => o = .inr "java/lang/IllegalArgumentException" ∧ IV g ad t u w1) 1 6 := by
  obtain ⟨e_a, w_a, k_a⟩ := hI.1.2 0 (by decide)
  obtain rfl := kd_0.mp k_a
  obtain ⟨e_re, w_re, k_re⟩ := hI.1.2 49 (by decide)
  obtain rfl := kd_49.mp k_re
  refine ((C_Ip_leastCostE g (ad 0) (ad 1) (ad 5) (ad 18) (ad 31) (ad 32) (ad 36) (ad 42) (ad 45) (ad 47) (ad 49) (ad 50) (ad 51) ((t.1 49).1 0) ((t.1 49).1 1) ((t.1 49).1 2) le mo si pp ps pa_ hw).at (hI.1.I [0, 49] _ rfl (by decide) (by decide) (List.forall_mem_cons.mpr ⟨w_a, (List.forall_mem_cons.mpr ⟨w_re, (fun _ h => nomatch h)⟩)⟩))).mono (Nat.le_of_ble_eq_true rfl) (Nat.le_of_ble_eq_true rfl) (fun o w1 hp => ?_)
  obtain ⟨cs1, hp, hi9⟩ := hp
  obtain ⟨e1, e2⟩ := hp
  subst e1; subst e2
  exact ⟨rfl, hI.fix (t2 := t) (is := [0, 49]) hi9 rfl ⟨kd_0.mpr rfl, kd_49.mpr rfl, trivial⟩ (by decide) (by decide) (fun _ _ _ => rfl) (fun h => h) rfl⟩
noncomputable def tK_Ip_leastCost (x1 x2 x3 x4 x5 x6 : Int32) (t : zTT) : zTT := (if (0 ≤ x1 ∧ x1 ≤ 450) ∧ (x1 ≤ x2 ∧ x2 ≤ 450) ∧ (0 ≤ x3 ∧ x3 ≤ 450) ∧ (1 ≤ x4 ∧ x4 ≤ 1000) ∧ (1 ≤ x5 ∧ x5 ≤ 1000) ∧ (1 ≤ x6 ∧ x6 ≤ 1000) then (zup t.1 [(49, ((upd (upd (upd ((t.1 49).1) 0 ((rcO x1 x2 x3 x4 x5 x6 (-1, ((t.1 49).1 0), ((t.1 49).1 1), ((t.1 49).1 2)) 11).2.1)) 1 ((rcO x1 x2 x3 x4 x5 x6 (-1, ((t.1 49).1 0), ((t.1 49).1 1), ((t.1 49).1 2)) 11).2.2.1)) 2 ((rcO x1 x2 x3 x4 x5 x6 (-1, ((t.1 49).1 0), ((t.1 49).1 1), ((t.1 49).1 2)) 11).2.2.2)), (t.1 49).2.1, (t.1 49).2.2))], t.2) else t)
theorem K_Ip_leastCost {g : zG} {ad : Nat → Nat} {t : zTT} {u : zNN} {w : zW} (hI : IVm g ad t u w) (x1 x2 x3 x4 x5 x6 : Int32) : zMB g M_Ip_leastCost [.ref (ad 0), .int x1, .int x2, .int x3, .int x4, .int x5, .int x6] w (CKx g ad (tK_Ip_leastCost x1 x2 x3 x4 x5 x6 t) u.1 ["java/lang/IllegalArgumentException", "java/util/NoSuchElementException"]) 10 300 := by
  obtain ⟨s, hI⟩ := hI
  by_cases hw : (0 ≤ x1 ∧ x1 ≤ 450) ∧ (x1 ≤ x2 ∧ x2 ≤ 450) ∧ (0 ≤ x3 ∧ x3 ≤ 450) ∧ (1 ≤ x4 ∧ x4 ≤ 1000) ∧ (1 ≤ x5 ∧ x5 ≤ 1000) ∧ (1 ≤ x6 ∧ x6 ≤ 1000)
  · by_cases hs : (rcO x1 x2 x3 x4 x5 x6 (-1, (t.1 49).1 0, (t.1 49).1 1, (t.1 49).1 2) 11).1 < 0
    · have eT : (tK_Ip_leastCost x1 x2 x3 x4 x5 x6 t) = (zup t.1 [(49, ((upd (upd (upd ((t.1 49).1) 0 ((rcO x1 x2 x3 x4 x5 x6 (-1, ((t.1 49).1 0), ((t.1 49).1 1), ((t.1 49).1 2)) 11).2.1)) 1 ((rcO x1 x2 x3 x4 x5 x6 (-1, ((t.1 49).1 0), ((t.1 49).1 1), ((t.1 49).1 2)) 11).2.2.1)) 2 ((rcO x1 x2 x3 x4 x5 x6 (-1, ((t.1 49).1 0), ((t.1 49).1 1), ((t.1 49).1 2)) 11).2.2.2)), (t.1 49).2.1, (t.1 49).2.2))], t.2) := by unfold tK_Ip_leastCost; rw [if_pos hw]
      rw [eT]
      exact (Qx_Ip_leastCostF hI x1 x2 x3 x4 x5 x6 hw hs).mono (by decide) (by decide) (fun o w1 h => ⟨zri.th h.1 (by simp), u, rfl, IVm.zu h.2⟩)
    · have eT : (tK_Ip_leastCost x1 x2 x3 x4 x5 x6 t) = (zup t.1 [(49, ((upd (upd (upd ((t.1 49).1) 0 ((rcO x1 x2 x3 x4 x5 x6 (-1, ((t.1 49).1 0), ((t.1 49).1 1), ((t.1 49).1 2)) 11).2.1)) 1 ((rcO x1 x2 x3 x4 x5 x6 (-1, ((t.1 49).1 0), ((t.1 49).1 1), ((t.1 49).1 2)) 11).2.2.1)) 2 ((rcO x1 x2 x3 x4 x5 x6 (-1, ((t.1 49).1 0), ((t.1 49).1 1), ((t.1 49).1 2)) 11).2.2.2)), (t.1 49).2.1, (t.1 49).2.2))], t.2) := by unfold tK_Ip_leastCost; rw [if_pos hw]
      rw [eT]
      exact (Qx_Ip_leastCostN hI x1 x2 x3 x4 x5 x6 hw hs).mono (by decide) (by decide) (fun o w1 h => ⟨zri.vl h.1, u, rfl, IVm.zu h.2⟩)
  · have eT : (tK_Ip_leastCost x1 x2 x3 x4 x5 x6 t) = t := by unfold tK_Ip_leastCost; rw [if_neg hw]
    rw [eT]
    exact (Qx_Ip_leastCostE hI x1 x2 x3 x4 x5 x6 hw).mono (by decide) (by decide) (fun o w1 h => ⟨zri.th h.1 (by simp), u, rfl, ⟨_, h.2⟩⟩)
set_option maxHeartbeats 4000000 in
theorem Qx_Mm_leastCostF {g : zG} {ad : Nat → Nat} {t : zTT} {u : zNN} {w : zW} (hI : IV g ad t u w) (le : Int32) (mo : Int32) (si : Int32) (pp : Int32) (ps : Int32) (pa : Int32) (hw : ((0 ≤ le ∧ le ≤ 450) ∧ (le ≤ mo ∧ mo ≤ 450) ∧ (0 ≤ si ∧ si ≤ 450) ∧ (1 ≤ pp ∧ pp ≤ 1000) ∧ (1 ≤ ps ∧ ps ≤ 1000) ∧ (1 ≤ pa ∧ pa ≤ 1000))) (hpr : ∀ P A, P + A ≤ 100 → 0 ≤ prS pp ps pa P A) (hs9 : (rcO le mo si pp ps pa (-1, -1, 0, 0) 11).1 < 0) : zMB g M_Mm_leastCost [.ref (ad 52), .int le, .int mo, .int si, .int pp, .int ps, .int pa] w (fun o w1 => o = .inl (some (.int 0)) ∧ IV g ad t u w1) 0 0 := by
  obtain ⟨e_m, w_m, k_m⟩ := hI.1.2 52 (by decide)
  obtain ⟨v_m_th, rfl⟩ := kd_52.mp k_m
  refine ((C_Mm_leastCostF g (ad 52) (ad 53) (ad 54) (ad 55) (ad 56) (ad 57) (ad 58) (ad 59) (ad 60) (ad 61) (ad 62) (ad 63) (ad 64) (ad 65) (ad 66) (ad 67) (ad 68) v_m_th (nI ((t.1 52).2.2 0)) ((t.1 52).1 0) ((t.1 52).1 1) ((t.1 52).1 2) ((t.1 52).1 3) ((t.1 52).1 4) ((t.1 52).1 5) ((t.1 52).1 6) ((t.1 52).1 7) ((t.1 52).1 8) ((t.1 52).1 9) ((t.1 52).1 10) ((t.1 52).2.1 0) ((t.1 52).2.1 1) le mo si pp ps pa hw hpr hs9).at (hI.1.I [52] _ rfl (by decide) (by decide) (List.forall_mem_cons.mpr ⟨w_m, (fun _ h => nomatch h)⟩))).mono (Nat.le_of_ble_eq_true rfl) (Nat.le_of_ble_eq_true rfl) (fun o w1 hp => ?_)
  obtain ⟨cs1, hp, hi9⟩ := hp
  obtain ⟨e1, e2⟩ := hp
  subst e1; subst e2
  exact ⟨rfl, hI.fix (t2 := t) (is := [52]) hi9 rfl ⟨kd_52.mpr ⟨_, rfl⟩, trivial⟩ (by decide) (by decide) (fun _ _ _ => rfl) (fun h => h) rfl⟩
set_option maxHeartbeats 4000000 in
theorem Qx_Mm_leastCostN {g : zG} {ad : Nat → Nat} {t : zTT} {u : zNN} {w : zW} (hI : IV g ad t u w) (le : Int32) (mo : Int32) (si : Int32) (pp : Int32) (ps : Int32) (pa : Int32) (hw : ((0 ≤ le ∧ le ≤ 450) ∧ (le ≤ mo ∧ mo ≤ 450) ∧ (0 ≤ si ∧ si ≤ 450) ∧ (1 ≤ pp ∧ pp ≤ 1000) ∧ (1 ≤ ps ∧ ps ≤ 1000) ∧ (1 ≤ pa ∧ pa ≤ 1000))) (hpr : ∀ P A, P + A ≤ 100 → 0 ≤ prS pp ps pa P A) (hs9 : ¬ (rcO le mo si pp ps pa (-1, -1, 0, 0) 11).1 < 0) : zMB g M_Mm_leastCost [.ref (ad 52), .int le, .int mo, .int si, .int pp, .int ps, .int pa] w (fun o w1 => o = .inl (some (.int ((rcO le mo si pp ps pa (-1, -1, 0, 0) 11).1))) ∧ IV g ad (zup t.1 [(52, ((upd (upd ((t.1 52).1) 9 ((rcO le mo si pp ps pa (-1, -1, 0, 0) 11).2.1)) 10 ((rcO le mo si pp ps pa (-1, -1, 0, 0) 11).2.2.1)), (t.1 52).2.1, (t.1 52).2.2))], t.2) u w1) 0 0 := by
  obtain ⟨e_m, w_m, k_m⟩ := hI.1.2 52 (by decide)
  obtain ⟨v_m_th, rfl⟩ := kd_52.mp k_m
  refine ((C_Mm_leastCostN g (ad 52) (ad 53) (ad 54) (ad 55) (ad 56) (ad 57) (ad 58) (ad 59) (ad 60) (ad 61) (ad 62) (ad 63) (ad 64) (ad 65) (ad 66) (ad 67) (ad 68) v_m_th (nI ((t.1 52).2.2 0)) ((t.1 52).1 0) ((t.1 52).1 1) ((t.1 52).1 2) ((t.1 52).1 3) ((t.1 52).1 4) ((t.1 52).1 5) ((t.1 52).1 6) ((t.1 52).1 7) ((t.1 52).1 8) ((t.1 52).1 9) ((t.1 52).1 10) ((t.1 52).2.1 0) ((t.1 52).2.1 1) le mo si pp ps pa hw hpr hs9).at (hI.1.I [52] _ rfl (by decide) (by decide) (List.forall_mem_cons.mpr ⟨w_m, (fun _ h => nomatch h)⟩))).mono (Nat.le_of_ble_eq_true rfl) (Nat.le_of_ble_eq_true rfl) (fun o w1 hp => ?_)
  obtain ⟨cs1, hp, hi9⟩ := hp
  obtain ⟨e1, e2⟩ := hp
  subst e1; subst e2
  exact ⟨rfl, hI.fix (t2 := (zup t.1 [(52, ((upd (upd ((t.1 52).1) 9 ((rcO le mo si pp ps pa (-1, -1, 0, 0) 11).2.1)) 10 ((rcO le mo si pp ps pa (-1, -1, 0, 0) 11).2.2.1)), (t.1 52).2.1, (t.1 52).2.2))], t.2)) (is := [52]) hi9 rfl ⟨kd_52.mpr ⟨_, rfl⟩, trivial⟩ (by decide) (by decide) (fun i hi hn => zup_out (fun q => hn ((by decide : ∀ j ∈ ([52] : List Nat), j ∈ ([52] : List Nat)) i q))) (fun h => h) rfl⟩
set_option maxHeartbeats 4000000 in
theorem Qx_Mm_leastCostE {g : zG} {ad : Nat → Nat} {t : zTT} {u : zNN} {w : zW} (hI : IV g ad t u w) (le : Int32) (mo : Int32) (si : Int32) (pp : Int32) (ps : Int32) (pa : Int32) (hw : ¬ ((0 ≤ le ∧ le ≤ 450) ∧ (le ≤ mo ∧ mo ≤ 450) ∧ (0 ≤ si ∧ si ≤ 450) ∧ (1 ≤ pp ∧ pp ≤ 1000) ∧ (1 ≤ ps ∧ ps ≤ 1000) ∧ (1 ≤ pa ∧ pa ≤ 1000))) : zMB g M_Mm_leastCost [.ref (ad 52), .int le, .int mo, .int si, .int pp, .int ps, .int pa] w (fun o w1 => o = .inl (some (.int 0)) ∧ IV g ad t u w1) 0 0 := by
  obtain ⟨e_m, w_m, k_m⟩ := hI.1.2 52 (by decide)
  obtain ⟨v_m_th, rfl⟩ := kd_52.mp k_m
  refine ((C_Mm_leastCostE g (ad 52) (ad 53) (ad 54) (ad 55) (ad 56) (ad 57) (ad 58) (ad 59) (ad 60) (ad 61) (ad 62) (ad 63) (ad 64) (ad 65) (ad 66) (ad 67) (ad 68) v_m_th (nI ((t.1 52).2.2 0)) ((t.1 52).1 0) ((t.1 52).1 1) ((t.1 52).1 2) ((t.1 52).1 3) ((t.1 52).1 4) ((t.1 52).1 5) ((t.1 52).1 6) ((t.1 52).1 7) ((t.1 52).1 8) ((t.1 52).1 9) ((t.1 52).1 10) ((t.1 52).2.1 0) ((t.1 52).2.1 1) le mo si pp ps pa hw).at (hI.1.I [52] _ rfl (by decide) (by decide) (List.forall_mem_cons.mpr ⟨w_m, (fun _ h => nomatch h)⟩))).mono (Nat.le_of_ble_eq_true rfl) (Nat.le_of_ble_eq_true rfl) (fun o w1 hp => ?_)
  obtain ⟨cs1, hp, hi9⟩ := hp
  obtain ⟨e1, e2⟩ := hp
  subst e1; subst e2
  exact ⟨rfl, hI.fix (t2 := t) (is := [52]) hi9 rfl ⟨kd_52.mpr ⟨_, rfl⟩, trivial⟩ (by decide) (by decide) (fun _ _ _ => rfl) (fun h => h) rfl⟩
noncomputable def tK_Mm_leastCost (x1 x2 x3 x4 x5 x6 : Int32) (t : zTT) : zTT := (if (0 ≤ x1 ∧ x1 ≤ 450) ∧ (x1 ≤ x2 ∧ x2 ≤ 450) ∧ (0 ≤ x3 ∧ x3 ≤ 450) ∧ (1 ≤ x4 ∧ x4 ≤ 1000) ∧ (1 ≤ x5 ∧ x5 ≤ 1000) ∧ (1 ≤ x6 ∧ x6 ≤ 1000) then (if (rcO x1 x2 x3 x4 x5 x6 (-1, -1, 0, 0) 11).1 < 0 then t else (zup t.1 [(52, ((upd (upd ((t.1 52).1) 9 ((rcO x1 x2 x3 x4 x5 x6 (-1, -1, 0, 0) 11).2.1)) 10 ((rcO x1 x2 x3 x4 x5 x6 (-1, -1, 0, 0) 11).2.2.1)), (t.1 52).2.1, (t.1 52).2.2))], t.2)) else t)
theorem K_Mm_leastCost {g : zG} {ad : Nat → Nat} {t : zTT} {u : zNN} {w : zW} (hI : IVm g ad t u w) (x1 x2 x3 x4 x5 x6 : Int32) : zMB g M_Mm_leastCost [.ref (ad 52), .int x1, .int x2, .int x3, .int x4, .int x5, .int x6] w (MKx g ad (tK_Mm_leastCost x1 x2 x3 x4 x5 x6 t) u.1) 10 300 := by
  obtain ⟨s, hI⟩ := hI
  by_cases hw : (0 ≤ x1 ∧ x1 ≤ 450) ∧ (x1 ≤ x2 ∧ x2 ≤ 450) ∧ (0 ≤ x3 ∧ x3 ≤ 450) ∧ (1 ≤ x4 ∧ x4 ≤ 1000) ∧ (1 ≤ x5 ∧ x5 ≤ 1000) ∧ (1 ≤ x6 ∧ x6 ≤ 1000)
  · by_cases hs : (rcO x1 x2 x3 x4 x5 x6 (-1, -1, 0, 0) 11).1 < 0
    · have eT : (tK_Mm_leastCost x1 x2 x3 x4 x5 x6 t) = t := by unfold tK_Mm_leastCost; rw [if_pos hw, if_pos hs]
      rw [eT]
      exact (Qx_Mm_leastCostF hI x1 x2 x3 x4 x5 x6 hw (fun P A h => prS_nn hw.2.2.2.1 hw.2.2.2.2.1 hw.2.2.2.2.2 h) hs).mono (by decide) (by decide) (fun o w1 h => ⟨⟨_, h.1⟩, u, rfl, ⟨_, h.2⟩⟩)
    · have eT : (tK_Mm_leastCost x1 x2 x3 x4 x5 x6 t) = (zup t.1 [(52, ((upd (upd ((t.1 52).1) 9 ((rcO x1 x2 x3 x4 x5 x6 (-1, -1, 0, 0) 11).2.1)) 10 ((rcO x1 x2 x3 x4 x5 x6 (-1, -1, 0, 0) 11).2.2.1)), (t.1 52).2.1, (t.1 52).2.2))], t.2) := by unfold tK_Mm_leastCost; rw [if_pos hw, if_neg hs]
      rw [eT]
      exact (Qx_Mm_leastCostN hI x1 x2 x3 x4 x5 x6 hw (fun P A h => prS_nn hw.2.2.2.1 hw.2.2.2.2.1 hw.2.2.2.2.2 h) hs).mono (by decide) (by decide) (fun o w1 h => ⟨⟨_, h.1⟩, u, rfl, IVm.zu h.2⟩)
  · have eT : (tK_Mm_leastCost x1 x2 x3 x4 x5 x6 t) = t := by unfold tK_Mm_leastCost; rw [if_neg hw]
    rw [eT]
    exact (Qx_Mm_leastCostE hI x1 x2 x3 x4 x5 x6 hw).mono (by decide) (by decide) (fun o w1 h => ⟨⟨_, h.1⟩, u, rfl, ⟨_, h.2⟩⟩)
set_option maxHeartbeats 4000000 in
theorem Qx_Ip_cheapestE {g : zG} {ad : Nat → Nat} {t : zTT} {u : zNN} {w : zW} (hI : IV g ad t u w) (w8 : Int32) (hw : z_ix 4 w8 < 0) : zMB g M_Ip_cheapest [.ref (ad 0), .int w8] w (fun o w1 => o = .inr "java/lang/IllegalArgumentException" ∧ IV g ad t u w1) 1 6 := by
  obtain ⟨e_a, w_a, k_a⟩ := hI.1.2 0 (by decide)
  obtain rfl := kd_0.mp k_a
  obtain ⟨e_re, w_re, k_re⟩ := hI.1.2 49 (by decide)
  obtain rfl := kd_49.mp k_re
  refine ((C_Ip_cheapestE g (ad 0) (ad 1) (ad 5) (ad 18) (ad 31) (ad 32) (ad 36) (ad 42) (ad 45) (ad 47) (ad 49) (ad 50) (ad 51) ((t.1 49).1 0) ((t.1 49).1 1) ((t.1 49).1 2) w8 hw).at (hI.1.I [0, 49] _ rfl (by decide) (by decide) (List.forall_mem_cons.mpr ⟨w_a, (List.forall_mem_cons.mpr ⟨w_re, (fun _ h => nomatch h)⟩)⟩))).mono (Nat.le_of_ble_eq_true rfl) (Nat.le_of_ble_eq_true rfl) (fun o w1 hp => ?_)
  obtain ⟨cs1, hp, hi9⟩ := hp
  obtain ⟨e1, e2⟩ := hp
  subst e1; subst e2
  exact ⟨rfl, hI.fix (t2 := t) (is := [0, 49]) hi9 rfl ⟨kd_0.mpr rfl, kd_49.mpr rfl, trivial⟩ (by decide) (by decide) (fun _ _ _ => rfl) (fun h => h) rfl⟩
set_option maxHeartbeats 4000000 in
theorem Qx_Ip_cheapestF {g : zG} {ad : Nat → Nat} {t : zTT} {u : zNN} {w : zW} (hI : IV g ad t u w) (w8 : Int32) (hw : ¬ z_ix 4 w8 < 0) (hf : ((t.1 49).1 2) = 0) : zMB g M_Ip_cheapest [.ref (ad 0), .int w8] w (fun o w1 => o = .inr "java/lang/IllegalStateException" ∧ IV g ad t u w1) 1 6 := by
  obtain ⟨e_a, w_a, k_a⟩ := hI.1.2 0 (by decide)
  obtain rfl := kd_0.mp k_a
  obtain ⟨e_re, w_re, k_re⟩ := hI.1.2 49 (by decide)
  obtain rfl := kd_49.mp k_re
  refine ((C_Ip_cheapestF g (ad 0) (ad 1) (ad 5) (ad 18) (ad 31) (ad 32) (ad 36) (ad 42) (ad 45) (ad 47) (ad 49) (ad 50) (ad 51) ((t.1 49).1 0) ((t.1 49).1 1) ((t.1 49).1 2) w8 hw hf).at (hI.1.I [0, 49] _ rfl (by decide) (by decide) (List.forall_mem_cons.mpr ⟨w_a, (List.forall_mem_cons.mpr ⟨w_re, (fun _ h => nomatch h)⟩)⟩))).mono (Nat.le_of_ble_eq_true rfl) (Nat.le_of_ble_eq_true rfl) (fun o w1 hp => ?_)
  obtain ⟨cs1, hp, hi9⟩ := hp
  obtain ⟨e1, e2⟩ := hp
  subst e1; subst e2
  exact ⟨rfl, hI.fix (t2 := t) (is := [0, 49]) hi9 rfl ⟨kd_0.mpr rfl, kd_49.mpr rfl, trivial⟩ (by decide) (by decide) (fun _ _ _ => rfl) (fun h => h) rfl⟩
