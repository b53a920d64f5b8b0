theorem z_idx2 {x : Int32} {n : Nat} (hn : n ≤ 33) (h0 : ¬ x < 0) (h1 : x < nI n) : ∃ k, k < n ∧ x = nI k := by
  cases n with
  | zero => exact absurd h1 h0
  | succ m =>
    refine (z_idx hn).mp ⟨Int32.not_lt.mp h0, ?_⟩
    rw [nI_prd]
    obtain ⟨a, ha, e⟩ := z_in20 (x := x) (b := m + 1) (by omega) ⟨Int32.not_lt.mp h0, Int32.le_of_lt h1⟩
    subst e
    have := z_lt (by omega) (by omega) h1
    exact (nI_leI (by omega) (by omega)).mpr (by omega)
set_option maxHeartbeats 4000000 in
set_option maxRecDepth 100000 in
theorem Q_castingAtE {g : zG} {ad : Nat → Nat} {t : zTT} {u : zNN} {w : zW} (hI : IV g ad t u w) (x : Int32) (hx : ¬ ∃ k, k < u.1 1 ∧ x = nI k) : zMB g M_Ip_castingAt [.ref (ad 0), .int x] w (fun o w1 => o = .inr "java/lang/IndexOutOfBoundsException" ∧ w1 = w) 1 6 := by
  obtain ⟨e_a, wf_a, k_a⟩ := hI.1.2 0 (by decide)
  obtain rfl := kd_0.mp k_a
  have hJ := hI.1.I [0] [((ad 0), .inr (11, [.ref (ad 1), .ref (ad 5), .ref (ad 18), .ref (ad 31), .ref (ad 32), .ref (ad 36), .ref (ad 42), .ref (ad 45), .ref (ad 47), .ref (ad 49), .ref (ad 50), .ref (ad 51)]))] rfl (by decide) (by decide) (List.forall_mem_cons.mpr ⟨wf_a, (fun _ h => nomatch h)⟩)
  refine y_of (by decide) rfl (Nat.le_of_ble_eq_true rfl) (y_base (cs := [((ad 0), .inr (11, [.ref (ad 1), .ref (ad 5), .ref (ad 18), .ref (ad 31), .ref (ad 32), .ref (ad 36), .ref (ad 42), .ref (ad 45), .ref (ad 47), .ref (ad 49), .ref (ad 50), .ref (ad 51)]))]) hJ ?_)
  refine y_lvE (lv2 := [(0, .ref (ad 0)), (1, .int x)]) rfl ?_
  refine y_iload_n d_Ip_castingAt_0 rfl 1 rfl ?_
  refine y_if_lt (tgt := 15) d_Ip_castingAt_1 (by decide) (fun c_1 => ?_) (fun c_1 => ?_)
  · refine y_throwW tb_Ip_509_513 sr_Ip_540 d_Ip_castingAt_15 d_Ip_castingAt_18 d_Ip_castingAt_19 d_Ip_castingAt_22 d_Ip_castingAt_25 rfl (by decide) (by decide) (Nat.le_of_ble_eq_true rfl) (by omega) (by omega) ?_
    exact fun w1 h1 => ⟨rfl, z_I.same hJ h1⟩
  · refine y_iload_n d_Ip_castingAt_4 rfl 1 rfl ?_
    refine y_aload_n d_Ip_castingAt_5 rfl 0 rfl ?_
    refine y_get fs_Ip_78 d_Ip_castingAt_6 (q0 := 0) rfl rfl ?_
    refine yw_callVL (As := []) (rest := [.int x]) (ci := 13) rfl (fun wA hA => ((hI.gen (t2 := t) (is := [0]) (L2 := []) hA rfl ⟨kd_0.mpr rfl, trivial⟩ (by decide) (by decide) (fun _ h => nomatch h) (fun _ h => nomatch h) (fun _ _ _ => rfl) (fun h => h) rfl).2.1.1 1 (by decide)).ob) ln_Ip_341 w_im_AL_size w_se_AL_size ok_Ip_castingAt_AL_size d_Ip_castingAt_9 (fun wA hA => Q_size ((hI.gen (t2 := t) (is := [0]) (L2 := []) hA rfl ⟨kd_0.mpr rfl, trivial⟩ (by decide) (by decide) (fun _ h => nomatch h) (fun _ h => nomatch h) (fun _ _ _ => rfl) (fun h => h) rfl).2.1.1 1 (by decide))) rfl rfl (Nat.le_of_ble_eq_true rfl) (by omega) (by omega) (fun wA9 hA9 E wB9 hx => ?_) (fun wA9 hA9 v wB9 hx => ?_)
    · exact absurd hx.1 (by simp)
    · obtain ⟨e1, e2⟩ := hx
      cases e1
      refine yw_st (st2 := [.int (nI (u.1 1)), .int x]) rfl ?_
      subst e2
      refine y_go hA9 ?_
      refine y_icmp_lt (tgt := 26) d_Ip_castingAt_12 (by decide) (fun c_12 => ?_) (fun c_12 => ?_)
      · exact absurd (z_idx2 (hI.n5 1 (by decide)) c_1 c_12) hx
      · refine y_throwW tb_Ip_509_513 sr_Ip_540 d_Ip_castingAt_15 d_Ip_castingAt_18 d_Ip_castingAt_19 d_Ip_castingAt_22 d_Ip_castingAt_25 rfl (by decide) (by decide) (Nat.le_of_ble_eq_true rfl) (by omega) (by omega) ?_
        exact fun w1 h1 => ⟨rfl, z_I.same hJ h1⟩
theorem d_Ip_castingAt_26 : decode prog_1_method_64_code 26 = .ok (.aload_n 0, 1) := zo_42 (zd_b zq_prog_1_method_64_code_0 26 rfl rfl rfl)
theorem d_Ip_castingAt_27 : decode prog_1_method_64_code 27 = .ok (.getfield 78, 3) := zo_180 (d := 0) (e := 78) (zd_b zq_prog_1_method_64_code_0 27 rfl rfl rfl) (zd_b zq_prog_1_method_64_code_0 28 rfl rfl rfl) (zd_b zq_prog_1_method_64_code_0 29 rfl rfl rfl)
theorem d_Ip_castingAt_30 : decode prog_1_method_64_code 30 = .ok (.iload_n 1, 1) := zo_27 (zd_b zq_prog_1_method_64_code_0 30 rfl rfl rfl)
theorem d_Ip_castingAt_31 : decode prog_1_method_64_code 31 = .ok (.invokevirtual 344, 3) := zo_182 (d := 1) (e := 88) (zd_b zq_prog_1_method_64_code_0 31 rfl rfl rfl) (zd_b zq_prog_1_method_64_code_1 0 rfl rfl rfl) (zd_b zq_prog_1_method_64_code_1 1 rfl rfl rfl)
theorem ok_Ip_castingAt_AL_get : z_ok M_Ip_castingAt M_AL_get 1 := ⟨z_mj2 (i := 180) rfl (by decide +kernel), rfl, ⟨by decide +kernel, by decide +kernel, by decide +kernel⟩, ⟨by decide, by decide⟩, z_mj1 (i := 13) rfl (by decide +kernel), rfl⟩
theorem ln_Ip_344 : Cond.methodLink "Ironpour" 344 M_AL_get.1 ∈ z_gw := z_mj2 (i := 177) rfl (by decide +kernel)
theorem d_Ip_castingAt_34 : decode prog_1_method_64_code 34 = .ok (.checkcast 441, 3) := zo_192 (d := 1) (e := 185) (zd_b zq_prog_1_method_64_code_1 2 rfl rfl rfl) (zd_b zq_prog_1_method_64_code_1 3 rfl rfl rfl) (zd_b zq_prog_1_method_64_code_1 4 rfl rfl rfl)
theorem lk_Ip_441 : Cond.classLink "Ironpour" 441 R_Ca ∈ z_gw := z_mj2 (i := 191) rfl (by decide +kernel)
theorem d_Ip_castingAt_37 : decode prog_1_method_64_code 37 = .ok (.areturn, 1) := zo_176 (zd_b zq_prog_1_method_64_code_1 5 rfl rfl rfl)
set_option maxHeartbeats 4000000 in
set_option maxRecDepth 100000 in
theorem Q_castingAtN {g : zG} {ad : Nat → Nat} {t : zTT} {u : zNN} {w : zW} (hI : IV g ad t u w) (k : Nat) (hk : k < u.1 1) : zMB g M_Ip_castingAt [.ref (ad 0), .int (nI k)] w (fun o w1 => o = .inl (some (.ref (u.2.2 1 k))) ∧ w1 = w) 1 6 := by
  obtain ⟨e_a, wf_a, k_a⟩ := hI.1.2 0 (by decide)
  obtain rfl := kd_0.mp k_a
  have hJ := hI.1.I [0] [((ad 0), .inr (11, [.ref (ad 1), .ref (ad 5), .ref (ad 18), .ref (ad 31), .ref (ad 32), .ref (ad 36), .ref (ad 42), .ref (ad 45), .ref (ad 47), .ref (ad 49), .ref (ad 50), .ref (ad 51)]))] rfl (by decide) (by decide) (List.forall_mem_cons.mpr ⟨wf_a, (fun _ h => nomatch h)⟩)
  have h33 := hI.n5 1 (by decide)
  refine y_of (by decide) rfl (Nat.le_of_ble_eq_true rfl) (y_base (cs := [((ad 0), .inr (11, [.ref (ad 1), .ref (ad 5), .ref (ad 18), .ref (ad 31), .ref (ad 32), .ref (ad 36), .ref (ad 42), .ref (ad 45), .ref (ad 47), .ref (ad 49), .ref (ad 50), .ref (ad 51)]))]) hJ ?_)
  refine y_lvE (lv2 := [(0, .ref (ad 0)), (1, .int (nI k))]) rfl ?_
  refine y_iload_n d_Ip_castingAt_0 rfl 1 rfl ?_
  refine y_if_lt (tgt := 15) d_Ip_castingAt_1 (by decide) (fun c_1 => ?_) (fun c_1 => ?_)
  · exact absurd c_1 (nI_nneg (by omega))
  · refine y_iload_n d_Ip_castingAt_4 rfl 1 rfl ?_
    refine y_aload_n d_Ip_castingAt_5 rfl 0 rfl ?_
    refine y_get fs_Ip_78 d_Ip_castingAt_6 (q0 := 0) rfl rfl ?_
    refine yw_callVL (As := []) (rest := [.int (nI k)]) (ci := 13) rfl (fun wA hA => ((hI.gen (t2 := t) (is := [0]) (L2 := []) hA rfl ⟨kd_0.mpr rfl, trivial⟩ (by decide) (by decide) (fun _ h => nomatch h) (fun _ h => nomatch h) (fun _ _ _ => rfl) (fun h => h) rfl).2.1.1 1 (by decide)).ob) ln_Ip_341 w_im_AL_size w_se_AL_size ok_Ip_castingAt_AL_size d_Ip_castingAt_9 (fun wA hA => Q_size ((hI.gen (t2 := t) (is := [0]) (L2 := []) hA rfl ⟨kd_0.mpr rfl, trivial⟩ (by decide) (by decide) (fun _ h => nomatch h) (fun _ h => nomatch h) (fun _ _ _ => rfl) (fun h => h) rfl).2.1.1 1 (by decide))) rfl rfl (Nat.le_of_ble_eq_true rfl) (by omega) (by omega) (fun wA9 hA9 E wB9 hx => ?_) (fun wA9 hA9 v wB9 hx => ?_)
    · exact absurd hx.1 (by simp)
    · obtain ⟨e1, e2⟩ := hx
      cases e1
      refine yw_st (st2 := [.int (nI (u.1 1)), .int (nI k)]) rfl ?_
      subst e2
      refine y_go hA9 ?_
      refine y_icmp_lt (tgt := 26) d_Ip_castingAt_12 (by decide) (fun c_12 => ?_) (fun c_12 => ?_)
      · refine y_aload_n d_Ip_castingAt_26 rfl 0 rfl ?_
        refine y_get fs_Ip_78 d_Ip_castingAt_27 (q0 := 0) rfl rfl ?_
        refine y_iload_n d_Ip_castingAt_30 rfl 1 rfl ?_
        refine yw_callVL (As := [.int (nI k)]) (rest := []) (ci := 13) rfl (fun wA hA => ((hI.gen (t2 := t) (is := [0]) (L2 := []) hA rfl ⟨kd_0.mpr rfl, trivial⟩ (by decide) (by decide) (fun _ h => nomatch h) (fun _ h => nomatch h) (fun _ _ _ => rfl) (fun h => h) rfl).2.1.1 1 (by decide)).ob) ln_Ip_344 w_im_AL_get w_se_AL_get ok_Ip_castingAt_AL_get d_Ip_castingAt_31 (fun wA hA => Q_get ((hI.gen (t2 := t) (is := [0]) (L2 := []) hA rfl ⟨kd_0.mpr rfl, trivial⟩ (by decide) (by decide) (fun _ h => nomatch h) (fun _ h => nomatch h) (fun _ _ _ => rfl) (fun h => h) rfl).2.1.1 1 (by decide)) hk) rfl rfl (Nat.le_of_ble_eq_true rfl) (by omega) (by omega) (fun wA31 hA31 E wB31 hx => ?_) (fun wA31 hA31 v wB31 hx => ?_)
        · exact absurd hx.1 (by simp)
        · obtain ⟨e1, e2⟩ := hx
          cases e1
          refine yw_st (st2 := [.ref (u.2.2 1 k)]) rfl ?_
          subst e2
          refine y_go hA31 ?_
          refine y_end (fun wC1 hC1 => ?_)
          obtain rfl := z_I.same hJ hC1
          obtain ⟨nf_c, me_c, gr_c, hw_c, nfm_c, hwm_c, nfg_c, hwg_c⟩ := hI.2.1.2.1 1 (by decide) k hk
          have hJ := z_I.kd (cs := [((ad 0), .inr (11, [.ref (ad 1), .ref (ad 5), .ref (ad 18), .ref (ad 31), .ref (ad 32), .ref (ad 36), .ref (ad 42), .ref (ad 45), .ref (ad 47), .ref (ad 49), .ref (ad 50), .ref (ad 51)])), ((u.2.2 1 k), .inr (0, [.ref me_c, .int ((t.2 1 k).1 0), .int ((t.2 1 k).1 1), .int ((t.2 1 k).1 2), .int ((t.2 1 k).1 3), .int ((t.2 1 k).1 4)])), (me_c, .inr (6, [.ref gr_c, .int ((t.2 1 k).1 5)])), (gr_c, .inl (3, 4, .inr (.inl ((t.2 1 k).2.2.1))))]) (List.forall_mem_cons.mpr ⟨wf_a, (List.forall_mem_cons.mpr ⟨hw_c, (List.forall_mem_cons.mpr ⟨hwm_c, (List.forall_mem_cons.mpr ⟨hwg_c, (fun _ h => nomatch h)⟩)⟩)⟩)⟩) (by simp [z_kd])
          refine y_base hJ ?_
          refine y_castO lk_Ip_441 d_Ip_castingAt_34 (q0 := 1) rfl rfl ?_
          refine y_aret d_Ip_castingAt_37 rfl (Or.inl ⟨_, rfl⟩) (Or.inr ⟨_, rfl⟩) ?_
          exact fun w1 h1 => ⟨rfl, z_I.same hJ h1⟩
      · exact absurd ((nI_ltI (by omega) (by omega)).mpr hk) c_12
set_option maxHeartbeats 4000000 in
set_option maxRecDepth 100000 in
theorem Q_Ip_alloyE {g : zG} {ad : Nat → Nat} {t : zTT} {u : zNN} {w : zW} (hI : IV g ad t u w) (x : Int32) (hx : ¬ ∃ k, k < u.1 1 ∧ x = nI k) : zMB g M_Ip_alloy [.ref (ad 0), .int x] w (fun o w1 => zri ["java/lang/IndexOutOfBoundsException"] o ∧ IV g ad t u w1) 1 6 := by
  obtain ⟨e_a, wf_a, k_a⟩ := hI.1.2 0 (by decide)
  obtain rfl := kd_0.mp k_a
  refine y_of (by decide) rfl (Nat.le_of_ble_eq_true rfl) (y_base (cs := [((ad 0), .inr (11, [.ref (ad 1), .ref (ad 5), .ref (ad 18), .ref (ad 31), .ref (ad 32), .ref (ad 36), .ref (ad 42), .ref (ad 45), .ref (ad 47), .ref (ad 49), .ref (ad 50), .ref (ad 51)]))]) (hI.1.I [0] _ rfl (by decide) (by decide) (List.forall_mem_cons.mpr ⟨wf_a, (fun _ h => nomatch h)⟩)) ?_)
  refine y_lvE (lv2 := [(0, .ref (ad 0)), (1, .int x)]) rfl ?_
  refine y_aload_n d_Ip_alloy_0 rfl 0 rfl ?_
  refine y_iload_n d_Ip_alloy_1 rfl 1 rfl ?_
  refine yw_callV (As := [.int x]) (rest := []) (q0 := 0) rfl rfl ln_Ip_436 w_im_Ip_castingAt w_se_Ip_castingAt ok_Ip_alloy_Ip_castingAt d_Ip_alloy_2 (fun wA hA => Q_castingAtE (hI.gen (t2 := t) (is := [0]) (L2 := []) hA rfl ⟨kd_0.mpr rfl, trivial⟩ (by decide) (by decide) (fun _ h => nomatch h) (fun _ h => nomatch h) (fun _ _ _ => rfl) (fun h => h) rfl) x hx) rfl rfl (Nat.le_of_ble_eq_true rfl) (by omega) (by omega) (fun wA2 hA2 E wB2 hx => ?_) (fun wA2 hA2 v wB2 hx => ?_)
  · obtain ⟨e1, e2⟩ := hx
    cases e1
    subst e2
    exact ⟨Or.inr ⟨_, List.Mem.head _, rfl⟩, (hI.gen (t2 := t) (is := [0]) (L2 := []) hA2 rfl ⟨kd_0.mpr rfl, trivial⟩ (by decide) (by decide) (fun _ h => nomatch h) (fun _ h => nomatch h) (fun _ _ _ => rfl) (fun h => h) rfl)⟩
  · exact absurd hx.1 (by simp)
set_option maxHeartbeats 4000000 in
set_option maxRecDepth 100000 in
theorem Q_Ip_faultsE {g : zG} {ad : Nat → Nat} {t : zTT} {u : zNN} {w : zW} (hI : IV g ad t u w) (x : Int32) (hx : ¬ ∃ k, k < u.1 1 ∧ x = nI k) : zMB g M_Ip_faults [.ref (ad 0), .int x] w (fun o w1 => zri ["java/lang/IndexOutOfBoundsException"] o ∧ IV g ad t u w1) 1 6 := by
  obtain ⟨e_a, wf_a, k_a⟩ := hI.1.2 0 (by decide)
  obtain rfl := kd_0.mp k_a
  refine y_of (by decide) rfl (Nat.le_of_ble_eq_true rfl) (y_base (cs := [((ad 0), .inr (11, [.ref (ad 1), .ref (ad 5), .ref (ad 18), .ref (ad 31), .ref (ad 32), .ref (ad 36), .ref (ad 42), .ref (ad 45), .ref (ad 47), .ref (ad 49), .ref (ad 50), .ref (ad 51)]))]) (hI.1.I [0] _ rfl (by decide) (by decide) (List.forall_mem_cons.mpr ⟨wf_a, (fun _ h => nomatch h)⟩)) ?_)
  refine y_lvE (lv2 := [(0, .ref (ad 0)), (1, .int x)]) rfl ?_
  refine y_aload_n d_Ip_faults_0 rfl 0 rfl ?_
  refine y_iload_n d_Ip_faults_1 rfl 1 rfl ?_
  refine yw_callV (As := [.int x]) (rest := []) (q0 := 0) rfl rfl ln_Ip_436 w_im_Ip_castingAt w_se_Ip_castingAt ok_Ip_faults_Ip_castingAt d_Ip_faults_2 (fun wA hA => Q_castingAtE (hI.gen (t2 := t) (is := [0]) (L2 := []) hA rfl ⟨kd_0.mpr rfl, trivial⟩ (by decide) (by decide) (fun _ h => nomatch h) (fun _ h => nomatch h) (fun _ _ _ => rfl) (fun h => h) rfl) x hx) rfl rfl (Nat.le_of_ble_eq_true rfl) (by omega) (by omega) (fun wA2 hA2 E wB2 hx => ?_) (fun wA2 hA2 v wB2 hx => ?_)
  · obtain ⟨e1, e2⟩ := hx
    cases e1
    subst e2
    exact ⟨Or.inr ⟨_, List.Mem.head _, rfl⟩, (hI.gen (t2 := t) (is := [0]) (L2 := []) hA2 rfl ⟨kd_0.mpr rfl, trivial⟩ (by decide) (by decide) (fun _ h => nomatch h) (fun _ h => nomatch h) (fun _ _ _ => rfl) (fun h => h) rfl)⟩
  · exact absurd hx.1 (by simp)
set_option maxHeartbeats 4000000 in
set_option maxRecDepth 100000 in
theorem Q_Ip_shrunkInE {g : zG} {ad : Nat → Nat} {t : zTT} {u : zNN} {w : zW} (hI : IV g ad t u w) (x : Int32) (hx : ¬ ∃ k, k < u.1 1 ∧ x = nI k) : zMB g M_Ip_shrunkIn [.ref (ad 0), .int x] w (fun o w1 => zri ["java/lang/IndexOutOfBoundsException"] o ∧ IV g ad t u w1) 1 6 := by
  obtain ⟨e_a, wf_a, k_a⟩ := hI.1.2 0 (by decide)
  obtain rfl := kd_0.mp k_a
  refine y_of (by decide) rfl (Nat.le_of_ble_eq_true rfl) (y_base (cs := [((ad 0), .inr (11, [.ref (ad 1), .ref (ad 5), .ref (ad 18), .ref (ad 31), .ref (ad 32), .ref (ad 36), .ref (ad 42), .ref (ad 45), .ref (ad 47), .ref (ad 49), .ref (ad 50), .ref (ad 51)]))]) (hI.1.I [0] _ rfl (by decide) (by decide) (List.forall_mem_cons.mpr ⟨wf_a, (fun _ h => nomatch h)⟩)) ?_)
  refine y_lvE (lv2 := [(0, .ref (ad 0)), (1, .int x)]) rfl ?_
  refine y_aload_n d_Ip_shrunkIn_0 rfl 0 rfl ?_
  refine y_iload_n d_Ip_shrunkIn_1 rfl 1 rfl ?_
  refine yw_callV (As := [.int x]) (rest := []) (q0 := 0) rfl rfl ln_Ip_436 w_im_Ip_castingAt w_se_Ip_castingAt ok_Ip_shrunkIn_Ip_castingAt d_Ip_shrunkIn_2 (fun wA hA => Q_castingAtE (hI.gen (t2 := t) (is := [0]) (L2 := []) hA rfl ⟨kd_0.mpr rfl, trivial⟩ (by decide) (by decide) (fun _ h => nomatch h) (fun _ h => nomatch h) (fun _ _ _ => rfl) (fun h => h) rfl) x hx) rfl rfl (Nat.le_of_ble_eq_true rfl) (by omega) (by omega) (fun wA2 hA2 E wB2 hx => ?_) (fun wA2 hA2 v wB2 hx => ?_)
  · obtain ⟨e1, e2⟩ := hx
    cases e1
    subst e2
    exact ⟨Or.inr ⟨_, List.Mem.head _, rfl⟩, (hI.gen (t2 := t) (is := [0]) (L2 := []) hA2 rfl ⟨kd_0.mpr rfl, trivial⟩ (by decide) (by decide) (fun _ h => nomatch h) (fun _ h => nomatch h) (fun _ _ _ => rfl) (fun h => h) rfl)⟩
  · exact absurd hx.1 (by simp)
set_option maxHeartbeats 4000000 in
set_option maxRecDepth 100000 in
theorem Q_Ip_hasE {g : zG} {ad : Nat → Nat} {t : zTT} {u : zNN} {w : zW} (hI : IV g ad t u w) (x : Int32) (hx : ¬ ∃ k, k < u.1 1 ∧ x = nI k) (c9 : Int32) : zMB g M_Ip_has [.ref (ad 0), .int x, .int c9] w (fun o w1 => zri ["java/lang/IndexOutOfBoundsException", "java/lang/IllegalArgumentException"] o ∧ IV g ad t u w1) 1 6 := by
  obtain ⟨e_a, wf_a, k_a⟩ := hI.1.2 0 (by decide)
  obtain rfl := kd_0.mp k_a
  refine y_of (by decide) rfl (Nat.le_of_ble_eq_true rfl) (y_base (cs := [((ad 0), .inr (11, [.ref (ad 1), .ref (ad 5), .ref (ad 18), .ref (ad 31), .ref (ad 32), .ref (ad 36), .ref (ad 42), .ref (ad 45), .ref (ad 47), .ref (ad 49), .ref (ad 50), .ref (ad 51)]))]) (hI.1.I [0] _ rfl (by decide) (by decide) (List.forall_mem_cons.mpr ⟨wf_a, (fun _ h => nomatch h)⟩)) ?_)
  refine y_lvE (lv2 := [(0, .ref (ad 0)), (1, .int x), (2, .int c9)]) rfl ?_
  refine y_aload_n d_Ip_has_0 rfl 0 rfl ?_
  refine y_iload_n d_Ip_has_1 rfl 1 rfl ?_
  refine yw_callV (As := [.int x]) (rest := []) (q0 := 0) rfl rfl ln_Ip_436 w_im_Ip_castingAt w_se_Ip_castingAt ok_Ip_has_Ip_castingAt d_Ip_has_2 (fun wA hA => Q_castingAtE (hI.gen (t2 := t) (is := [0]) (L2 := []) hA rfl ⟨kd_0.mpr rfl, trivial⟩ (by decide) (by decide) (fun _ h => nomatch h) (fun _ h => nomatch h) (fun _ _ _ => rfl) (fun h => h) rfl) x hx) rfl rfl (Nat.le_of_ble_eq_true rfl) (by omega) (by omega) (fun wA2 hA2 E wB2 hx => ?_) (fun wA2 hA2 v wB2 hx => ?_)
  · obtain ⟨e1, e2⟩ := hx
    cases e1
    subst e2
    exact ⟨Or.inr ⟨_, List.Mem.head _, rfl⟩, (hI.gen (t2 := t) (is := [0]) (L2 := []) hA2 rfl ⟨kd_0.mpr rfl, trivial⟩ (by decide) (by decide) (fun _ h => nomatch h) (fun _ h => nomatch h) (fun _ _ _ => rfl) (fun h => h) rfl)⟩
  · exact absurd hx.1 (by simp)
set_option maxHeartbeats 4000000 in
set_option maxRecDepth 100000 in
theorem Q_Ip_barE {g : zG} {ad : Nat → Nat} {t : zTT} {u : zNN} {w : zW} (hI : IV g ad t u w) (x : Int32) (hx : ¬ ∃ k, k < u.1 1 ∧ x = nI k) : zMB g M_Ip_bar [.ref (ad 0), .int x] w (fun o w1 => zri ["java/lang/IndexOutOfBoundsException"] o ∧ IV g ad t u w1) 1 6 := by
  obtain ⟨e_a, wf_a, k_a⟩ := hI.1.2 0 (by decide)
  obtain rfl := kd_0.mp k_a
  refine y_of (by decide) rfl (Nat.le_of_ble_eq_true rfl) (y_base (cs := [((ad 0), .inr (11, [.ref (ad 1), .ref (ad 5), .ref (ad 18), .ref (ad 31), .ref (ad 32), .ref (ad 36), .ref (ad 42), .ref (ad 45), .ref (ad 47), .ref (ad 49), .ref (ad 50), .ref (ad 51)]))]) (hI.1.I [0] _ rfl (by decide) (by decide) (List.forall_mem_cons.mpr ⟨wf_a, (fun _ h => nomatch h)⟩)) ?_)
  refine y_lvE (lv2 := [(0, .ref (ad 0)), (1, .int x)]) rfl ?_
  refine y_aload_n d_Ip_bar_0 rfl 0 rfl ?_
  refine y_iload_n d_Ip_bar_1 rfl 1 rfl ?_
  refine yw_callV (As := [.int x]) (rest := []) (q0 := 0) rfl rfl ln_Ip_436 w_im_Ip_castingAt w_se_Ip_castingAt ok_Ip_bar_Ip_castingAt d_Ip_bar_2 (fun wA hA => Q_castingAtE (hI.gen (t2 := t) (is := [0]) (L2 := []) hA rfl ⟨kd_0.mpr rfl, trivial⟩ (by decide) (by decide) (fun _ h => nomatch h) (fun _ h => nomatch h) (fun _ _ _ => rfl) (fun h => h) rfl) x hx) rfl rfl (Nat.le_of_ble_eq_true rfl) (by omega) (by omega) (fun wA2 hA2 E wB2 hx => ?_) (fun wA2 hA2 v wB2 hx => ?_)
  · obtain ⟨e1, e2⟩ := hx
    cases e1
    subst e2
    exact ⟨Or.inr ⟨_, List.Mem.head _, rfl⟩, (hI.gen (t2 := t) (is := [0]) (L2 := []) hA2 rfl ⟨kd_0.mpr rfl, trivial⟩ (by decide) (by decide) (fun _ h => nomatch h) (fun _ h => nomatch h) (fun _ _ _ => rfl) (fun h => h) rfl)⟩
  · exact absurd hx.1 (by simp)
set_option maxHeartbeats 4000000 in
set_option maxRecDepth 100000 in
theorem Q_Ip_weldE {g : zG} {ad : Nat → Nat} {t : zTT} {u : zNN} {w : zW} (hI : IV g ad t u w) (x : Int32) (hx : ¬ ∃ k, k < u.1 1 ∧ x = nI k) : zMB g M_Ip_weld [.ref (ad 0), .int x] w (fun o w1 => zri ["java/lang/IndexOutOfBoundsException", "java/lang/UnsupportedOperationException", "java/lang/IllegalStateException"] o ∧ IV g ad t u w1) 1 6 := by
  obtain ⟨e_a, wf_a, k_a⟩ := hI.1.2 0 (by decide)
  obtain rfl := kd_0.mp k_a
  refine y_of (by decide) rfl (Nat.le_of_ble_eq_true rfl) (y_base (cs := [((ad 0), .inr (11, [.ref (ad 1), .ref (ad 5), .ref (ad 18), .ref (ad 31), .ref (ad 32), .ref (ad 36), .ref (ad 42), .ref (ad 45), .ref (ad 47), .ref (ad 49), .ref (ad 50), .ref (ad 51)]))]) (hI.1.I [0] _ rfl (by decide) (by decide) (List.forall_mem_cons.mpr ⟨wf_a, (fun _ h => nomatch h)⟩)) ?_)
  refine y_lvE (lv2 := [(0, .ref (ad 0)), (1, .int x)]) rfl ?_
  refine y_aload_n d_Ip_weld_0 rfl 0 rfl ?_
  refine y_iload_n d_Ip_weld_1 rfl 1 rfl ?_
  refine yw_callV (As := [.int x]) (rest := []) (q0 := 0) rfl rfl ln_Ip_436 w_im_Ip_castingAt w_se_Ip_castingAt ok_Ip_weld_Ip_castingAt d_Ip_weld_2 (fun wA hA => Q_castingAtE (hI.gen (t2 := t) (is := [0]) (L2 := []) hA rfl ⟨kd_0.mpr rfl, trivial⟩ (by decide) (by decide) (fun _ h => nomatch h) (fun _ h => nomatch h) (fun _ _ _ => rfl) (fun h => h) rfl) x hx) rfl rfl (Nat.le_of_ble_eq_true rfl) (by omega) (by omega) (fun wA2 hA2 E wB2 hx => ?_) (fun wA2 hA2 v wB2 hx => ?_)
  · obtain ⟨e1, e2⟩ := hx
    cases e1
    subst e2
    exact ⟨Or.inr ⟨_, List.Mem.head _, rfl⟩, (hI.gen (t2 := t) (is := [0]) (L2 := []) hA2 rfl ⟨kd_0.mpr rfl, trivial⟩ (by decide) (by decide) (fun _ h => nomatch h) (fun _ h => nomatch h) (fun _ _ _ => rfl) (fun h => h) rfl)⟩
  · exact absurd hx.1 (by simp)
set_option maxHeartbeats 4000000 in
set_option maxRecDepth 100000 in
theorem Q_Ip_deliverE {g : zG} {ad : Nat → Nat} {t : zTT} {u : zNN} {w : zW} (hI : IV g ad t u w) (x : Int32) (hx : ¬ ∃ k, k < u.1 1 ∧ x = nI k) : zMB g M_Ip_deliver [.ref (ad 0), .int x] w (fun o w1 => zri ["java/lang/IndexOutOfBoundsException", "java/lang/IllegalStateException"] o ∧ IV g ad t u w1) 1 6 := by
  obtain ⟨e_a, wf_a, k_a⟩ := hI.1.2 0 (by decide)
  obtain rfl := kd_0.mp k_a
  refine y_of (by decide) rfl (Nat.le_of_ble_eq_true rfl) (y_base (cs := [((ad 0), .inr (11, [.ref (ad 1), .ref (ad 5), .ref (ad 18), .ref (ad 31), .ref (ad 32), .ref (ad 36), .ref (ad 42), .ref (ad 45), .ref (ad 47), .ref (ad 49), .ref (ad 50), .ref (ad 51)]))]) (hI.1.I [0] _ rfl (by decide) (by decide) (List.forall_mem_cons.mpr ⟨wf_a, (fun _ h => nomatch h)⟩)) ?_)
  refine y_lvE (lv2 := [(0, .ref (ad 0)), (1, .int x)]) rfl ?_
  refine y_aload_n d_Ip_deliver_0 rfl 0 rfl ?_
  refine y_iload_n d_Ip_deliver_1 rfl 1 rfl ?_
  refine yw_callV (As := [.int x]) (rest := []) (q0 := 0) rfl rfl ln_Ip_436 w_im_Ip_castingAt w_se_Ip_castingAt ok_Ip_deliver_Ip_castingAt d_Ip_deliver_2 (fun wA hA => Q_castingAtE (hI.gen (t2 := t) (is := [0]) (L2 := []) hA rfl ⟨kd_0.mpr rfl, trivial⟩ (by decide) (by decide) (fun _ h => nomatch h) (fun _ h => nomatch h) (fun _ _ _ => rfl) (fun h => h) rfl) x hx) rfl rfl (Nat.le_of_ble_eq_true rfl) (by omega) (by omega) (fun wA2 hA2 E wB2 hx => ?_) (fun wA2 hA2 v wB2 hx => ?_)
  · obtain ⟨e1, e2⟩ := hx
    cases e1
    subst e2
    exact ⟨Or.inr ⟨_, List.Mem.head _, rfl⟩, (hI.gen (t2 := t) (is := [0]) (L2 := []) hA2 rfl ⟨kd_0.mpr rfl, trivial⟩ (by decide) (by decide) (fun _ h => nomatch h) (fun _ h => nomatch h) (fun _ _ _ => rfl) (fun h => h) rfl)⟩
  · exact absurd hx.1 (by simp)
set_option maxHeartbeats 4000000 in
set_option maxRecDepth 100000 in
theorem Q_Ip_breakUpE {g : zG} {ad : Nat → Nat} {t : zTT} {u : zNN} {w : zW} (hI : IV g ad t u w) (x : Int32) (hx : ¬ ∃ k, k < u.1 1 ∧ x = nI k) : zMB g M_Ip_breakUp [.ref (ad 0), .int x] w (fun o w1 => zri ["java/lang/IndexOutOfBoundsException", "java/lang/IllegalStateException"] o ∧ IV g ad t u w1) 1 6 := by
  obtain ⟨e_a, wf_a, k_a⟩ := hI.1.2 0 (by decide)
  obtain rfl := kd_0.mp k_a
  refine y_of (by decide) rfl (Nat.le_of_ble_eq_true rfl) (y_base (cs := [((ad 0), .inr (11, [.ref (ad 1), .ref (ad 5), .ref (ad 18), .ref (ad 31), .ref (ad 32), .ref (ad 36), .ref (ad 42), .ref (ad 45), .ref (ad 47), .ref (ad 49), .ref (ad 50), .ref (ad 51)]))]) (hI.1.I [0] _ rfl (by decide) (by decide) (List.forall_mem_cons.mpr ⟨wf_a, (fun _ h => nomatch h)⟩)) ?_)
  refine y_lvE (lv2 := [(0, .ref (ad 0)), (1, .int x)]) rfl ?_
  refine y_aload_n d_Ip_breakUp_0 rfl 0 rfl ?_
  refine y_iload_n d_Ip_breakUp_1 rfl 1 rfl ?_
  refine yw_callV (As := [.int x]) (rest := []) (q0 := 0) rfl rfl ln_Ip_436 w_im_Ip_castingAt w_se_Ip_castingAt ok_Ip_breakUp_Ip_castingAt d_Ip_breakUp_2 (fun wA hA => Q_castingAtE (hI.gen (t2 := t) (is := [0]) (L2 := []) hA rfl ⟨kd_0.mpr rfl, trivial⟩ (by decide) (by decide) (fun _ h => nomatch h) (fun _ h => nomatch h) (fun _ _ _ => rfl) (fun h => h) rfl) x hx) rfl rfl (Nat.le_of_ble_eq_true rfl) (by omega) (by omega) (fun wA2 hA2 E wB2 hx => ?_) (fun wA2 hA2 v wB2 hx => ?_)
  · obtain ⟨e1, e2⟩ := hx
    cases e1
    subst e2
    exact ⟨Or.inr ⟨_, List.Mem.head _, rfl⟩, (hI.gen (t2 := t) (is := [0]) (L2 := []) hA2 rfl ⟨kd_0.mpr rfl, trivial⟩ (by decide) (by decide) (fun _ h => nomatch h) (fun _ h => nomatch h) (fun _ _ _ => rfl) (fun h => h) rfl)⟩
  · exact absurd hx.1 (by simp)
theorem d_Ip_alloy_5 : decode prog_1_method_39_code 5 = .ok (.invokevirtual 440, 3) := zo_182 (d := 1) (e := 184) (zd_b zq_prog_1_method_39_code_0 5 rfl rfl rfl) (zd_b zq_prog_1_method_39_code_0 6 rfl rfl rfl) (zd_b zq_prog_1_method_39_code_0 7 rfl rfl rfl)
theorem ok_Ip_alloy_Ca_isDuctile : z_ok M_Ip_alloy M_Ca_isDuctile 0 := ⟨z_mj6 (i := 182) rfl (by decide +kernel), rfl, ⟨by decide +kernel, by decide +kernel, by decide +kernel⟩, ⟨by decide, by decide⟩, z_mj1 (i := 35) rfl (by decide +kernel), rfl⟩
theorem ln_Ip_440 : Cond.methodLink "Ironpour" 440 M_Ca_isDuctile.1 ∈ z_gw := z_mj6 (i := 195) rfl (by decide +kernel)
theorem d_Ip_alloy_8 : decode prog_1_method_39_code 8 = .ok (.ifCond .eq 8, 3) := zo_153 (d := 0) (e := 8) (zd_b zq_prog_1_method_39_code_0 8 rfl rfl rfl) (zd_b zq_prog_1_method_39_code_0 9 rfl rfl rfl) (zd_b zq_prog_1_method_39_code_0 10 rfl rfl rfl) (by decide +kernel)
theorem d_Ip_alloy_16 : decode prog_1_method_39_code 16 = .ok (.bipush 103, 2) := zo_16 (d := 103) (zd_b zq_prog_1_method_39_code_0 16 rfl rfl rfl) (zd_b zq_prog_1_method_39_code_0 17 rfl rfl rfl) (by decide +kernel)
theorem d_Ip_alloy_18 : decode prog_1_method_39_code 18 = .ok (.ireturn, 1) := zo_172 (zd_b zq_prog_1_method_39_code_0 18 rfl rfl rfl)
theorem d_Ip_alloy_11 : decode prog_1_method_39_code 11 = .ok (.bipush 100, 2) := zo_16 (d := 100) (zd_b zq_prog_1_method_39_code_0 11 rfl rfl rfl) (zd_b zq_prog_1_method_39_code_0 12 rfl rfl rfl) (by decide +kernel)
theorem d_Ip_alloy_13 : decode prog_1_method_39_code 13 = .ok (.goto 5, 3) := zo_167 (d := 0) (e := 5) (zd_b zq_prog_1_method_39_code_0 13 rfl rfl rfl) (zd_b zq_prog_1_method_39_code_0 14 rfl rfl rfl) (zd_b zq_prog_1_method_39_code_0 15 rfl rfl rfl) (by decide +kernel)
set_option maxHeartbeats 4000000 in
set_option maxRecDepth 100000 in
theorem Q_Ip_alloyN {g : zG} {ad : Nat → Nat} {t : zTT} {u : zNN} {w : zW} (hI : IV g ad t u w) (k : Nat) (hk : k < u.1 1) : zMB g M_Ip_alloy [.ref (ad 0), .int (nI k)] w (fun o w1 => zri ["java/lang/IndexOutOfBoundsException"] o ∧ IV g ad t u w1) 1 6 := by
  obtain ⟨e_a, wf_a, k_a⟩ := hI.1.2 0 (by decide)
  obtain rfl := kd_0.mp k_a
  refine y_of (by decide) rfl (Nat.le_of_ble_eq_true rfl) (y_base (cs := [((ad 0), .inr (11, [.ref (ad 1), .ref (ad 5), .ref (ad 18), .ref (ad 31), .ref (ad 32), .ref (ad 36), .ref (ad 42), .ref (ad 45), .ref (ad 47), .ref (ad 49), .ref (ad 50), .ref (ad 51)]))]) (hI.1.I [0] _ rfl (by decide) (by decide) (List.forall_mem_cons.mpr ⟨wf_a, (fun _ h => nomatch h)⟩)) ?_)
  refine y_lvE (lv2 := [(0, .ref (ad 0)), (1, .int (nI k))]) rfl ?_
  refine y_aload_n d_Ip_alloy_0 rfl 0 rfl ?_
  refine y_iload_n d_Ip_alloy_1 rfl 1 rfl ?_
  refine yw_callV (As := [.int (nI k)]) (rest := []) (q0 := 0) rfl rfl ln_Ip_436 w_im_Ip_castingAt w_se_Ip_castingAt ok_Ip_alloy_Ip_castingAt d_Ip_alloy_2 (fun wA hA => Q_castingAtN (hI.gen (t2 := t) (is := [0]) (L2 := []) hA rfl ⟨kd_0.mpr rfl, trivial⟩ (by decide) (by decide) (fun _ h => nomatch h) (fun _ h => nomatch h) (fun _ _ _ => rfl) (fun h => h) rfl) k hk) rfl rfl (Nat.le_of_ble_eq_true rfl) (by omega) (by omega) (fun wA2 hA2 E wB2 hx => ?_) (fun wA2 hA2 v wB2 hx => ?_)
  · exact absurd hx.1 (by simp)
  · obtain ⟨e1, e2⟩ := hx
    cases e1
    refine yw_st (st2 := [.ref (u.2.2 1 k)]) rfl ?_
    subst e2
    refine y_go hA2 ?_
    refine y_end (fun wC1 hC1 => ?_)
    have hI9 := (hI.gen (t2 := t) (is := [0]) (L2 := []) hC1 rfl ⟨kd_0.mpr rfl, trivial⟩ (by decide) (by decide) (fun _ h => nomatch h) (fun _ h => nomatch h) (fun _ _ _ => rfl) (fun h => h) rfl)
    have hI := hI9
    obtain ⟨nf_c, me_c, gr_c, hw_c, nfm_c, hwm_c, nfg_c, hwg_c⟩ := hI.2.1.2.1 1 (by decide) k hk
    refine y_base (cs := [((ad 0), .inr (11, [.ref (ad 1), .ref (ad 5), .ref (ad 18), .ref (ad 31), .ref (ad 32), .ref (ad 36), .ref (ad 42), .ref (ad 45), .ref (ad 47), .ref (ad 49), .ref (ad 50), .ref (ad 51)])), ((u.2.2 1 k), .inr (0, [.ref me_c, .int ((t.2 1 k).1 0), .int ((t.2 1 k).1 1), .int ((t.2 1 k).1 2), .int ((t.2 1 k).1 3), .int ((t.2 1 k).1 4)])), (me_c, .inr (6, [.ref gr_c, .int ((t.2 1 k).1 5)])), (gr_c, .inl (3, 4, .inr (.inl ((t.2 1 k).2.2.1))))]) (z_I.kd (List.forall_mem_cons.mpr ⟨hC1.at (q0 := 0) rfl, (List.forall_mem_cons.mpr ⟨hw_c, (List.forall_mem_cons.mpr ⟨hwm_c, (List.forall_mem_cons.mpr ⟨hwg_c, (fun _ h => nomatch h)⟩)⟩)⟩)⟩) (by simp [z_kd])) ?_
    refine y_callV (As := []) (rest := []) (csC := [((u.2.2 1 k), .inr (0, [.ref me_c, .int ((t.2 1 k).1 0), .int ((t.2 1 k).1 1), .int ((t.2 1 k).1 2), .int ((t.2 1 k).1 3), .int ((t.2 1 k).1 4)])), (me_c, .inr (6, [.ref gr_c, .int ((t.2 1 k).1 5)])), (gr_c, .inl (3, 4, .inr (.inl ((t.2 1 k).2.2.1))))]) (is := [1, 2, 3]) (q0 := 1) rfl rfl ln_Ip_440 w_im_Ca_isDuctile w_se_Ca_isDuctile ok_Ip_alloy_Ca_isDuctile d_Ip_alloy_5 (C_Ca_isDuctile g (u.2.2 1 k) me_c gr_c ((t.2 1 k).2.2.1) ((t.2 1 k).1 5) ((t.2 1 k).1 0) ((t.2 1 k).1 1) ((t.2 1 k).1 2) ((t.2 1 k).1 3) ((t.2 1 k).1 4)) rfl rfl (Nat.le_of_ble_eq_true rfl) rfl (by decide) (by omega) (by omega) (fun E cs1 hx => ?_) (fun v cs1 hx => ?_)
    · exact absurd hx.1 (by simp)
    · obtain ⟨e1, rfl⟩ := hx
      cases e1
      refine ⟨rfl, ?_⟩
      refine y_st (st2 := [.int (if ((t.2 1 k).1 0) < 20 then 0 else 1)]) rfl ?_
      refine y_cs (cs2 := [((ad 0), .inr (11, [.ref (ad 1), .ref (ad 5), .ref (ad 18), .ref (ad 31), .ref (ad 32), .ref (ad 36), .ref (ad 42), .ref (ad 45), .ref (ad 47), .ref (ad 49), .ref (ad 50), .ref (ad 51)])), ((u.2.2 1 k), .inr (0, [.ref me_c, .int ((t.2 1 k).1 0), .int ((t.2 1 k).1 1), .int ((t.2 1 k).1 2), .int ((t.2 1 k).1 3), .int ((t.2 1 k).1 4)])), (me_c, .inr (6, [.ref gr_c, .int ((t.2 1 k).1 5)])), (gr_c, .inl (3, 4, .inr (.inl ((t.2 1 k).2.2.1))))]) rfl ?_
      refine y_if_eq (tgt := 16) d_Ip_alloy_8 (by decide) (fun c_8 => ?_) (fun c_8 => ?_)
      · refine y_bipush d_Ip_alloy_16 (v := 103) (by decide) ?_
        refine y_iret d_Ip_alloy_18 rfl rfl ?_
        exact fun w1 h1 => ⟨Or.inl ⟨_, rfl⟩, (hI.gen (t2 := t) (is := [0]) (L2 := [(u.2.2 1 k), me_c, gr_c]) h1 rfl ⟨kd_0.mpr rfl, trivial⟩ (by decide) (by decide) (List.forall_mem_cons.mpr ⟨nf_c, (List.forall_mem_cons.mpr ⟨nfm_c, (List.forall_mem_cons.mpr ⟨nfg_c, (fun _ h => nomatch h)⟩)⟩)⟩) (List.forall_mem_cons.mpr ⟨⟨_, hw_c, h1.at (q0 := 1) rfl⟩, (List.forall_mem_cons.mpr ⟨⟨_, hwm_c, h1.at (q0 := 2) rfl⟩, (List.forall_mem_cons.mpr ⟨⟨_, hwg_c, h1.at (q0 := 3) rfl⟩, (fun _ h => nomatch h)⟩)⟩)⟩) (fun _ _ _ => rfl) (fun h => h) rfl)⟩
      · refine y_bipush d_Ip_alloy_11 (v := 100) (by decide) ?_
        refine y_goto (tgt := 18) d_Ip_alloy_13 (by decide) ?_
        refine y_iret d_Ip_alloy_18 rfl rfl ?_
        exact fun w1 h1 => ⟨Or.inl ⟨_, rfl⟩, (hI.gen (t2 := t) (is := [0]) (L2 := [(u.2.2 1 k), me_c, gr_c]) h1 rfl ⟨kd_0.mpr rfl, trivial⟩ (by decide) (by decide) (List.forall_mem_cons.mpr ⟨nf_c, (List.forall_mem_cons.mpr ⟨nfm_c, (List.forall_mem_cons.mpr ⟨nfg_c, (fun _ h => nomatch h)⟩)⟩)⟩) (List.forall_mem_cons.mpr ⟨⟨_, hw_c, h1.at (q0 := 1) rfl⟩, (List.forall_mem_cons.mpr ⟨⟨_, hwm_c, h1.at (q0 := 2) rfl⟩, (List.forall_mem_cons.mpr ⟨⟨_, hwg_c, h1.at (q0 := 3) rfl⟩, (fun _ h => nomatch h)⟩)⟩)⟩) (fun _ _ _ => rfl) (fun h => h) rfl)⟩
theorem d_Ip_faults_5 : decode prog_1_method_40_code 5 = .ok (.getfield 445, 3) := zo_180 (d := 1) (e := 189) (zd_b zq_prog_1_method_40_code_0 5 rfl rfl rfl) (zd_b zq_prog_1_method_40_code_0 6 rfl rfl rfl) (zd_b zq_prog_1_method_40_code_0 7 rfl rfl rfl)
theorem fs_Ip_445 : z_fs "Ironpour" 445 0 3 := ⟨R_Ca, "Ironpour$Casting", F_Ca, 6, rfl, u_Ca, by decide, Or.inr ⟨"Ironpour", z_mk6 (i := 145) rfl (by decide +kernel), rfl⟩⟩
theorem d_Ip_faults_8 : decode prog_1_method_40_code 8 = .ok (.ireturn, 1) := zo_172 (zd_b zq_prog_1_method_40_code_0 8 rfl rfl rfl)
set_option maxHeartbeats 4000000 in
set_option maxRecDepth 100000 in
theorem Q_Ip_faultsN {g : zG} {ad : Nat → Nat} {t : zTT} {u : zNN} {w : zW} (hI : IV g ad t u w) (k : Nat) (hk : k < u.1 1) : zMB g M_Ip_faults [.ref (ad 0), .int (nI k)] w (fun o w1 => zri ["java/lang/IndexOutOfBoundsException"] o ∧ IV g ad t u w1) 1 6 := by
  obtain ⟨e_a, wf_a, k_a⟩ := hI.1.2 0 (by decide)
  obtain rfl := kd_0.mp k_a
  refine y_of (by decide) rfl (Nat.le_of_ble_eq_true rfl) (y_base (cs := [((ad 0), .inr (11, [.ref (ad 1), .ref (ad 5), .ref (ad 18), .ref (ad 31), .ref (ad 32), .ref (ad 36), .ref (ad 42), .ref (ad 45), .ref (ad 47), .ref (ad 49), .ref (ad 50), .ref (ad 51)]))]) (hI.1.I [0] _ rfl (by decide) (by decide) (List.forall_mem_cons.mpr ⟨wf_a, (fun _ h => nomatch h)⟩)) ?_)
  refine y_lvE (lv2 := [(0, .ref (ad 0)), (1, .int (nI k))]) rfl ?_
  refine y_aload_n d_Ip_faults_0 rfl 0 rfl ?_
  refine y_iload_n d_Ip_faults_1 rfl 1 rfl ?_
  refine yw_callV (As := [.int (nI k)]) (rest := []) (q0 := 0) rfl rfl ln_Ip_436 w_im_Ip_castingAt w_se_Ip_castingAt ok_Ip_faults_Ip_castingAt d_Ip_faults_2 (fun wA hA => Q_castingAtN (hI.gen (t2 := t) (is := [0]) (L2 := []) hA rfl ⟨kd_0.mpr rfl, trivial⟩ (by decide) (by decide) (fun _ h => nomatch h) (fun _ h => nomatch h) (fun _ _ _ => rfl) (fun h => h) rfl) k hk) rfl rfl (Nat.le_of_ble_eq_true rfl) (by omega) (by omega) (fun wA2 hA2 E wB2 hx => ?_) (fun wA2 hA2 v wB2 hx => ?_)
  · exact absurd hx.1 (by simp)
  · obtain ⟨e1, e2⟩ := hx
    cases e1
    refine yw_st (st2 := [.ref (u.2.2 1 k)]) rfl ?_
    subst e2
    refine y_go hA2 ?_
    refine y_end (fun wC1 hC1 => ?_)
    have hI9 := (hI.gen (t2 := t) (is := [0]) (L2 := []) hC1 rfl ⟨kd_0.mpr rfl, trivial⟩ (by decide) (by decide) (fun _ h => nomatch h) (fun _ h => nomatch h) (fun _ _ _ => rfl) (fun h => h) rfl)
    have hI := hI9
    obtain ⟨nf_c, me_c, gr_c, hw_c, nfm_c, hwm_c, nfg_c, hwg_c⟩ := hI.2.1.2.1 1 (by decide) k hk
    refine y_base (cs := [((ad 0), .inr (11, [.ref (ad 1), .ref (ad 5), .ref (ad 18), .ref (ad 31), .ref (ad 32), .ref (ad 36), .ref (ad 42), .ref (ad 45), .ref (ad 47), .ref (ad 49), .ref (ad 50), .ref (ad 51)])), ((u.2.2 1 k), .inr (0, [.ref me_c, .int ((t.2 1 k).1 0), .int ((t.2 1 k).1 1), .int ((t.2 1 k).1 2), .int ((t.2 1 k).1 3), .int ((t.2 1 k).1 4)])), (me_c, .inr (6, [.ref gr_c, .int ((t.2 1 k).1 5)])), (gr_c, .inl (3, 4, .inr (.inl ((t.2 1 k).2.2.1))))]) (z_I.kd (List.forall_mem_cons.mpr ⟨hC1.at (q0 := 0) rfl, (List.forall_mem_cons.mpr ⟨hw_c, (List.forall_mem_cons.mpr ⟨hwm_c, (List.forall_mem_cons.mpr ⟨hwg_c, (fun _ h => nomatch h)⟩)⟩)⟩)⟩) (by simp [z_kd])) ?_
    refine y_get fs_Ip_445 d_Ip_faults_5 (q0 := 1) rfl rfl ?_
    refine y_iret d_Ip_faults_8 rfl rfl ?_
    exact fun w1 h1 => ⟨Or.inl ⟨_, rfl⟩, (hI.gen (t2 := t) (is := [0]) (L2 := [(u.2.2 1 k), me_c, gr_c]) h1 rfl ⟨kd_0.mpr rfl, trivial⟩ (by decide) (by decide) (List.forall_mem_cons.mpr ⟨nf_c, (List.forall_mem_cons.mpr ⟨nfm_c, (List.forall_mem_cons.mpr ⟨nfg_c, (fun _ h => nomatch h)⟩)⟩)⟩) (List.forall_mem_cons.mpr ⟨⟨_, hw_c, h1.at (q0 := 1) rfl⟩, (List.forall_mem_cons.mpr ⟨⟨_, hwm_c, h1.at (q0 := 2) rfl⟩, (List.forall_mem_cons.mpr ⟨⟨_, hwg_c, h1.at (q0 := 3) rfl⟩, (fun _ h => nomatch h)⟩)⟩)⟩) (fun _ _ _ => rfl) (fun h => h) rfl)⟩
theorem d_Ip_shrunkIn_5 : decode prog_1_method_41_code 5 = .ok (.getfield 448, 3) := zo_180 (d := 1) (e := 192) (zd_b zq_prog_1_method_41_code_0 5 rfl rfl rfl) (zd_b zq_prog_1_method_41_code_0 6 rfl rfl rfl) (zd_b zq_prog_1_method_41_code_0 7 rfl rfl rfl)
theorem fs_Ip_448 : z_fs "Ironpour" 448 0 2 := ⟨R_Ca, "Ironpour$Casting", F_Ca, 6, rfl, u_Ca, by decide, Or.inr ⟨"Ironpour", z_mk6 (i := 143) rfl (by decide +kernel), rfl⟩⟩
theorem d_Ip_shrunkIn_8 : decode prog_1_method_41_code 8 = .ok (.ireturn, 1) := zo_172 (zd_b zq_prog_1_method_41_code_0 8 rfl rfl rfl)
set_option maxHeartbeats 4000000 in
set_option maxRecDepth 100000 in
theorem Q_Ip_shrunkInN {g : zG} {ad : Nat → Nat} {t : zTT} {u : zNN} {w : zW} (hI : IV g ad t u w) (k : Nat) (hk : k < u.1 1) : zMB g M_Ip_shrunkIn [.ref (ad 0), .int (nI k)] w (fun o w1 => zri ["java/lang/IndexOutOfBoundsException"] o ∧ IV g ad t u w1) 1 6 := by
  obtain ⟨e_a, wf_a, k_a⟩ := hI.1.2 0 (by decide)
  obtain rfl := kd_0.mp k_a
  refine y_of (by decide) rfl (Nat.le_of_ble_eq_true rfl) (y_base (cs := [((ad 0), .inr (11, [.ref (ad 1), .ref (ad 5), .ref (ad 18), .ref (ad 31), .ref (ad 32), .ref (ad 36), .ref (ad 42), .ref (ad 45), .ref (ad 47), .ref (ad 49), .ref (ad 50), .ref (ad 51)]))]) (hI.1.I [0] _ rfl (by decide) (by decide) (List.forall_mem_cons.mpr ⟨wf_a, (fun _ h => nomatch h)⟩)) ?_)
  refine y_lvE (lv2 := [(0, .ref (ad 0)), (1, .int (nI k))]) rfl ?_
  refine y_aload_n d_Ip_shrunkIn_0 rfl 0 rfl ?_
  refine y_iload_n d_Ip_shrunkIn_1 rfl 1 rfl ?_
  refine yw_callV (As := [.int (nI k)]) (rest := []) (q0 := 0) rfl rfl ln_Ip_436 w_im_Ip_castingAt w_se_Ip_castingAt ok_Ip_shrunkIn_Ip_castingAt d_Ip_shrunkIn_2 (fun wA hA => Q_castingAtN (hI.gen (t2 := t) (is := [0]) (L2 := []) hA rfl ⟨kd_0.mpr rfl, trivial⟩ (by decide) (by decide) (fun _ h => nomatch h) (fun _ h => nomatch h) (fun _ _ _ => rfl) (fun h => h) rfl) k hk) rfl rfl (Nat.le_of_ble_eq_true rfl) (by omega) (by omega) (fun wA2 hA2 E wB2 hx => ?_) (fun wA2 hA2 v wB2 hx => ?_)
  · exact absurd hx.1 (by simp)
  · obtain ⟨e1, e2⟩ := hx
    cases e1
    refine yw_st (st2 := [.ref (u.2.2 1 k)]) rfl ?_
    subst e2
    refine y_go hA2 ?_
    refine y_end (fun wC1 hC1 => ?_)
    have hI9 := (hI.gen (t2 := t) (is := [0]) (L2 := []) hC1 rfl ⟨kd_0.mpr rfl, trivial⟩ (by decide) (by decide) (fun _ h => nomatch h) (fun _ h => nomatch h) (fun _ _ _ => rfl) (fun h => h) rfl)
    have hI := hI9
    obtain ⟨nf_c, me_c, gr_c, hw_c, nfm_c, hwm_c, nfg_c, hwg_c⟩ := hI.2.1.2.1 1 (by decide) k hk
    refine y_base (cs := [((ad 0), .inr (11, [.ref (ad 1), .ref (ad 5), .ref (ad 18), .ref (ad 31), .ref (ad 32), .ref (ad 36), .ref (ad 42), .ref (ad 45), .ref (ad 47), .ref (ad 49), .ref (ad 50), .ref (ad 51)])), ((u.2.2 1 k), .inr (0, [.ref me_c, .int ((t.2 1 k).1 0), .int ((t.2 1 k).1 1), .int ((t.2 1 k).1 2), .int ((t.2 1 k).1 3), .int ((t.2 1 k).1 4)])), (me_c, .inr (6, [.ref gr_c, .int ((t.2 1 k).1 5)])), (gr_c, .inl (3, 4, .inr (.inl ((t.2 1 k).2.2.1))))]) (z_I.kd (List.forall_mem_cons.mpr ⟨hC1.at (q0 := 0) rfl, (List.forall_mem_cons.mpr ⟨hw_c, (List.forall_mem_cons.mpr ⟨hwm_c, (List.forall_mem_cons.mpr ⟨hwg_c, (fun _ h => nomatch h)⟩)⟩)⟩)⟩) (by simp [z_kd])) ?_
    refine y_get fs_Ip_448 d_Ip_shrunkIn_5 (q0 := 1) rfl rfl ?_
    refine y_iret d_Ip_shrunkIn_8 rfl rfl ?_
    exact fun w1 h1 => ⟨Or.inl ⟨_, rfl⟩, (hI.gen (t2 := t) (is := [0]) (L2 := [(u.2.2 1 k), me_c, gr_c]) h1 rfl ⟨kd_0.mpr rfl, trivial⟩ (by decide) (by decide) (List.forall_mem_cons.mpr ⟨nf_c, (List.forall_mem_cons.mpr ⟨nfm_c, (List.forall_mem_cons.mpr ⟨nfg_c, (fun _ h => nomatch h)⟩)⟩)⟩) (List.forall_mem_cons.mpr ⟨⟨_, hw_c, h1.at (q0 := 1) rfl⟩, (List.forall_mem_cons.mpr ⟨⟨_, hwm_c, h1.at (q0 := 2) rfl⟩, (List.forall_mem_cons.mpr ⟨⟨_, hwg_c, h1.at (q0 := 3) rfl⟩, (fun _ h => nomatch h)⟩)⟩)⟩) (fun _ _ _ => rfl) (fun h => h) rfl)⟩
theorem d_Ip_bar_5 : decode prog_1_method_43_code 5 = .ok (.invokevirtual 453, 3) := zo_182 (d := 1) (e := 197) (zd_b zq_prog_1_method_43_code_0 5 rfl rfl rfl) (zd_b zq_prog_1_method_43_code_0 6 rfl rfl rfl) (zd_b zq_prog_1_method_43_code_0 7 rfl rfl rfl)
theorem ok_Ip_bar_Ca_barBears : z_ok M_Ip_bar M_Ca_barBears 0 := ⟨z_mj6 (i := 227) rfl (by decide +kernel), rfl, ⟨by decide +kernel, by decide +kernel, by decide +kernel⟩, ⟨by decide, by decide⟩, z_mj1 (i := 35) rfl (by decide +kernel), rfl⟩
theorem ln_Ip_453 : Cond.methodLink "Ironpour" 453 M_Ca_barBears.1 ∈ z_gw := z_mj6 (i := 224) rfl (by decide +kernel)
theorem w_im_Ca_barBears : Cond.instanceMethod M_Ca_barBears.1 ∈ z_gw := z_mj6 (i := 225) rfl (by decide +kernel)
theorem w_se_Ca_barBears : Cond.selects M_Ca_barBears.1.cls M_Ca_barBears.1 M_Ca_barBears.1 ∈ z_gw := z_mj6 (i := 226) rfl (by decide +kernel)
theorem d_Ip_bar_8 : decode prog_1_method_43_code 8 = .ok (.ireturn, 1) := zo_172 (zd_b zq_prog_1_method_43_code_0 8 rfl rfl rfl)
set_option maxHeartbeats 4000000 in
set_option maxRecDepth 100000 in
theorem Q_Ip_barN {g : zG} {ad : Nat → Nat} {t : zTT} {u : zNN} {w : zW} (hI : IV g ad t u w) (k : Nat) (hk : k < u.1 1) : zMB g M_Ip_bar [.ref (ad 0), .int (nI k)] w (fun o w1 => zri ["java/lang/IndexOutOfBoundsException"] o ∧ IV g ad t u w1) 1 6 := by
  obtain ⟨e_a, wf_a, k_a⟩ := hI.1.2 0 (by decide)
  obtain rfl := kd_0.mp k_a
  refine y_of (by decide) rfl (Nat.le_of_ble_eq_true rfl) (y_base (cs := [((ad 0), .inr (11, [.ref (ad 1), .ref (ad 5), .ref (ad 18), .ref (ad 31), .ref (ad 32), .ref (ad 36), .ref (ad 42), .ref (ad 45), .ref (ad 47), .ref (ad 49), .ref (ad 50), .ref (ad 51)]))]) (hI.1.I [0] _ rfl (by decide) (by decide) (List.forall_mem_cons.mpr ⟨wf_a, (fun _ h => nomatch h)⟩)) ?_)
  refine y_lvE (lv2 := [(0, .ref (ad 0)), (1, .int (nI k))]) rfl ?_
  refine y_aload_n d_Ip_bar_0 rfl 0 rfl ?_
  refine y_iload_n d_Ip_bar_1 rfl 1 rfl ?_
  refine yw_callV (As := [.int (nI k)]) (rest := []) (q0 := 0) rfl rfl ln_Ip_436 w_im_Ip_castingAt w_se_Ip_castingAt ok_Ip_bar_Ip_castingAt d_Ip_bar_2 (fun wA hA => Q_castingAtN (hI.gen (t2 := t) (is := [0]) (L2 := []) hA rfl ⟨kd_0.mpr rfl, trivial⟩ (by decide) (by decide) (fun _ h => nomatch h) (fun _ h => nomatch h) (fun _ _ _ => rfl) (fun h => h) rfl) k hk) rfl rfl (Nat.le_of_ble_eq_true rfl) (by omega) (by omega) (fun wA2 hA2 E wB2 hx => ?_) (fun wA2 hA2 v wB2 hx => ?_)
  · exact absurd hx.1 (by simp)
  · obtain ⟨e1, e2⟩ := hx
    cases e1
    refine yw_st (st2 := [.ref (u.2.2 1 k)]) rfl ?_
    subst e2
    refine y_go hA2 ?_
    refine y_end (fun wC1 hC1 => ?_)
    have hI9 := (hI.gen (t2 := t) (is := [0]) (L2 := []) hC1 rfl ⟨kd_0.mpr rfl, trivial⟩ (by decide) (by decide) (fun _ h => nomatch h) (fun _ h => nomatch h) (fun _ _ _ => rfl) (fun h => h) rfl)
    have hI := hI9
    obtain ⟨nf_c, me_c, gr_c, hw_c, nfm_c, hwm_c, nfg_c, hwg_c⟩ := hI.2.1.2.1 1 (by decide) k hk
    refine y_base (cs := [((ad 0), .inr (11, [.ref (ad 1), .ref (ad 5), .ref (ad 18), .ref (ad 31), .ref (ad 32), .ref (ad 36), .ref (ad 42), .ref (ad 45), .ref (ad 47), .ref (ad 49), .ref (ad 50), .ref (ad 51)])), ((u.2.2 1 k), .inr (0, [.ref me_c, .int ((t.2 1 k).1 0), .int ((t.2 1 k).1 1), .int ((t.2 1 k).1 2), .int ((t.2 1 k).1 3), .int ((t.2 1 k).1 4)])), (me_c, .inr (6, [.ref gr_c, .int ((t.2 1 k).1 5)])), (gr_c, .inl (3, 4, .inr (.inl ((t.2 1 k).2.2.1))))]) (z_I.kd (List.forall_mem_cons.mpr ⟨hC1.at (q0 := 0) rfl, (List.forall_mem_cons.mpr ⟨hw_c, (List.forall_mem_cons.mpr ⟨hwm_c, (List.forall_mem_cons.mpr ⟨hwg_c, (fun _ h => nomatch h)⟩)⟩)⟩)⟩) (by simp [z_kd])) ?_
    refine y_callV (As := []) (rest := []) (csC := [((u.2.2 1 k), .inr (0, [.ref me_c, .int ((t.2 1 k).1 0), .int ((t.2 1 k).1 1), .int ((t.2 1 k).1 2), .int ((t.2 1 k).1 3), .int ((t.2 1 k).1 4)])), (me_c, .inr (6, [.ref gr_c, .int ((t.2 1 k).1 5)])), (gr_c, .inl (3, 4, .inr (.inl ((t.2 1 k).2.2.1))))]) (is := [1, 2, 3]) (q0 := 1) rfl rfl ln_Ip_453 w_im_Ca_barBears w_se_Ca_barBears ok_Ip_bar_Ca_barBears d_Ip_bar_5 (C_Ca_barBears g (u.2.2 1 k) me_c gr_c ((t.2 1 k).2.2.1) ((t.2 1 k).1 5) ((t.2 1 k).1 0) ((t.2 1 k).1 1) ((t.2 1 k).1 2) ((t.2 1 k).1 3) ((t.2 1 k).1 4)) rfl rfl (Nat.le_of_ble_eq_true rfl) rfl (by decide) (by omega) (by omega) (fun E cs1 hx => ?_) (fun v cs1 hx => ?_)
    · exact absurd hx.1 (by simp)
    · obtain ⟨e1, rfl⟩ := hx
      cases e1
      refine ⟨rfl, ?_⟩
      refine y_st (st2 := [.int (bbI ((t.2 1 k).1 0) ((t.2 1 k).2.2.1) ((t.2 1 k).1 5) ((t.2 1 k).1 2))]) rfl ?_
      refine y_cs (cs2 := [((ad 0), .inr (11, [.ref (ad 1), .ref (ad 5), .ref (ad 18), .ref (ad 31), .ref (ad 32), .ref (ad 36), .ref (ad 42), .ref (ad 45), .ref (ad 47), .ref (ad 49), .ref (ad 50), .ref (ad 51)])), ((u.2.2 1 k), .inr (0, [.ref me_c, .int ((t.2 1 k).1 0), .int ((t.2 1 k).1 1), .int ((t.2 1 k).1 2), .int ((t.2 1 k).1 3), .int ((t.2 1 k).1 4)])), (me_c, .inr (6, [.ref gr_c, .int ((t.2 1 k).1 5)])), (gr_c, .inl (3, 4, .inr (.inl ((t.2 1 k).2.2.1))))]) rfl ?_
      refine y_iret d_Ip_bar_8 rfl rfl ?_
      exact fun w1 h1 => ⟨Or.inl ⟨_, rfl⟩, (hI.gen (t2 := t) (is := [0]) (L2 := [(u.2.2 1 k), me_c, gr_c]) h1 rfl ⟨kd_0.mpr rfl, trivial⟩ (by decide) (by decide) (List.forall_mem_cons.mpr ⟨nf_c, (List.forall_mem_cons.mpr ⟨nfm_c, (List.forall_mem_cons.mpr ⟨nfg_c, (fun _ h => nomatch h)⟩)⟩)⟩) (List.forall_mem_cons.mpr ⟨⟨_, hw_c, h1.at (q0 := 1) rfl⟩, (List.forall_mem_cons.mpr ⟨⟨_, hwm_c, h1.at (q0 := 2) rfl⟩, (List.forall_mem_cons.mpr ⟨⟨_, hwg_c, h1.at (q0 := 3) rfl⟩, (fun _ h => nomatch h)⟩)⟩)⟩) (fun _ _ _ => rfl) (fun h => h) rfl)⟩
theorem d_Ip_has_5 : decode prog_1_method_42_code 5 = .ok (.astore_n 3, 1) := zo_78 (zd_b zq_prog_1_method_42_code_0 5 rfl rfl rfl)
theorem d_Ip_has_6 : decode prog_1_method_42_code 6 = .ok (.aload_n 3, 1) := zo_45 (zd_b zq_prog_1_method_42_code_0 6 rfl rfl rfl)
theorem d_Ip_has_7 : decode prog_1_method_42_code 7 = .ok (.getfield 450, 3) := zo_180 (d := 1) (e := 194) (zd_b zq_prog_1_method_42_code_0 7 rfl rfl rfl) (zd_b zq_prog_1_method_42_code_0 8 rfl rfl rfl) (zd_b zq_prog_1_method_42_code_0 9 rfl rfl rfl)
theorem fs_Ip_450 : z_fs "Ironpour" 450 0 0 := ⟨R_Ca, "Ironpour$Casting", F_Ca, 6, rfl, u_Ca, by decide, Or.inr ⟨"Ironpour", z_mk6 (i := 141) rfl (by decide +kernel), rfl⟩⟩
theorem d_Ip_has_10 : decode prog_1_method_42_code 10 = .ok (.iload_n 2, 1) := zo_28 (zd_b zq_prog_1_method_42_code_0 10 rfl rfl rfl)
theorem d_Ip_has_11 : decode prog_1_method_42_code 11 = .ok (.invokestatic 294, 3) := zo_184 (d := 1) (e := 38) (zd_b zq_prog_1_method_42_code_0 11 rfl rfl rfl) (zd_b zq_prog_1_method_42_code_0 12 rfl rfl rfl) (zd_b zq_prog_1_method_42_code_0 13 rfl rfl rfl)
theorem ok_Ip_has_Ip_elementIndex : z_ok M_Ip_has M_Ip_elementIndex 1 := ⟨z_mj5 (i := 74) rfl (by decide +kernel), rfl, ⟨by decide +kernel, by decide +kernel, by decide +kernel⟩, ⟨by decide, by decide⟩, z_mj1 (i := 1) rfl (by decide +kernel), rfl⟩
theorem d_Ip_has_14 : decode prog_1_method_42_code 14 = .ok (.invokevirtual 300, 3) := zo_182 (d := 1) (e := 44) (zd_b zq_prog_1_method_42_code_0 14 rfl rfl rfl) (zd_b zq_prog_1_method_42_code_0 15 rfl rfl rfl) (zd_b zq_prog_1_method_42_code_0 16 rfl rfl rfl)
theorem ok_Ip_has_Me_partOf : z_ok M_Ip_has M_Me_partOf 1 := ⟨z_mj5 (i := 81) rfl (by decide +kernel), rfl, ⟨by decide +kernel, by decide +kernel, by decide +kernel⟩, ⟨by decide, by decide⟩, z_mj1 (i := 8) rfl (by decide +kernel), rfl⟩
theorem d_Ip_has_17 : decode prog_1_method_42_code 17 = .ok (.ireturn, 1) := zo_172 (zd_b zq_prog_1_method_42_code_0 17 rfl rfl rfl)
set_option maxHeartbeats 4000000 in
set_option maxRecDepth 100000 in
theorem Q_Ip_hasN {g : zG} {ad : Nat → Nat} {t : zTT} {u : zNN} {w : zW} (hI : IV g ad t u w) (k : Nat) (hk : k < u.1 1) (c9 : Int32) (e9 : Nat) (he9 : e9 < 4) (h2 : z_ix 2 c9 = nI e9) : zMB g M_Ip_has [.ref (ad 0), .int (nI k), .int c9] w (fun o w1 => zri ["java/lang/IndexOutOfBoundsException", "java/lang/IllegalArgumentException"] o ∧ IV g ad t u w1) 2 12 := by
  obtain ⟨e_a, wf_a, k_a⟩ := hI.1.2 0 (by decide)
  obtain rfl := kd_0.mp k_a
  refine y_of (by decide) rfl (Nat.le_of_ble_eq_true rfl) (y_base (cs := [((ad 0), .inr (11, [.ref (ad 1), .ref (ad 5), .ref (ad 18), .ref (ad 31), .ref (ad 32), .ref (ad 36), .ref (ad 42), .ref (ad 45), .ref (ad 47), .ref (ad 49), .ref (ad 50), .ref (ad 51)]))]) (hI.1.I [0] _ rfl (by decide) (by decide) (List.forall_mem_cons.mpr ⟨wf_a, (fun _ h => nomatch h)⟩)) ?_)
  refine y_lvE (lv2 := [(0, .ref (ad 0)), (1, .int (nI k)), (2, .int c9)]) rfl ?_
  refine y_aload_n d_Ip_has_0 rfl 0 rfl ?_
  refine y_iload_n d_Ip_has_1 rfl 1 rfl ?_
  refine yw_callV (As := [.int (nI k)]) (rest := []) (q0 := 0) rfl rfl ln_Ip_436 w_im_Ip_castingAt w_se_Ip_castingAt ok_Ip_has_Ip_castingAt d_Ip_has_2 (fun wA hA => Q_castingAtN (hI.gen (t2 := t) (is := [0]) (L2 := []) hA rfl ⟨kd_0.mpr rfl, trivial⟩ (by decide) (by decide) (fun _ h => nomatch h) (fun _ h => nomatch h) (fun _ _ _ => rfl) (fun h => h) rfl) k hk) rfl rfl (Nat.le_of_ble_eq_true rfl) (by omega) (by omega) (fun wA2 hA2 E wB2 hx => ?_) (fun wA2 hA2 v wB2 hx => ?_)
  · exact absurd hx.1 (by simp)
  · obtain ⟨e1, e2⟩ := hx
    cases e1
    refine yw_st (st2 := [.ref (u.2.2 1 k)]) rfl ?_
    subst e2
    refine y_go hA2 ?_
    refine y_end (fun wC1 hC1 => ?_)
    have hI9 := (hI.gen (t2 := t) (is := [0]) (L2 := []) hC1 rfl ⟨kd_0.mpr rfl, trivial⟩ (by decide) (by decide) (fun _ h => nomatch h) (fun _ h => nomatch h) (fun _ _ _ => rfl) (fun h => h) rfl)
    have hI := hI9
    obtain ⟨nf_c, me_c, gr_c, hw_c, nfm_c, hwm_c, nfg_c, hwg_c⟩ := hI.2.1.2.1 1 (by decide) k hk
    refine y_base (cs := [((ad 0), .inr (11, [.ref (ad 1), .ref (ad 5), .ref (ad 18), .ref (ad 31), .ref (ad 32), .ref (ad 36), .ref (ad 42), .ref (ad 45), .ref (ad 47), .ref (ad 49), .ref (ad 50), .ref (ad 51)])), ((u.2.2 1 k), .inr (0, [.ref me_c, .int ((t.2 1 k).1 0), .int ((t.2 1 k).1 1), .int ((t.2 1 k).1 2), .int ((t.2 1 k).1 3), .int ((t.2 1 k).1 4)])), (me_c, .inr (6, [.ref gr_c, .int ((t.2 1 k).1 5)])), (gr_c, .inl (3, 4, .inr (.inl ((t.2 1 k).2.2.1))))]) (z_I.kd (List.forall_mem_cons.mpr ⟨hC1.at (q0 := 0) rfl, (List.forall_mem_cons.mpr ⟨hw_c, (List.forall_mem_cons.mpr ⟨hwm_c, (List.forall_mem_cons.mpr ⟨hwg_c, (fun _ h => nomatch h)⟩)⟩)⟩)⟩) (by simp [z_kd])) ?_
    refine y_astore_n (lv' := [(3, .ref (u.2.2 1 k)), (0, .ref (ad 0)), (1, .int (nI k)), (2, .int c9)]) d_Ip_has_5 rfl (by decide) rfl ?_
    refine y_aload_n d_Ip_has_6 rfl 0 rfl ?_
    refine y_get fs_Ip_450 d_Ip_has_7 (q0 := 1) rfl rfl ?_
    refine y_iload_n d_Ip_has_10 rfl 3 rfl ?_
    refine y_callS (As := [.int c9]) (rest := [.ref me_c]) (csC := []) (is := []) ln_Ip_294 w_st_Ip_elementIndex ok_Ip_has_Ip_elementIndex d_Ip_has_11 (C_Ip_elementIndexN g c9 e9 he9 h2) rfl rfl (Nat.le_of_ble_eq_true rfl) rfl (by decide) (by omega) (by omega) (fun E cs1 hx => ?_) (fun v cs1 hx => ?_)
    · exact absurd hx.1 (by simp)
    · obtain ⟨e1, rfl⟩ := hx
      cases e1
      refine ⟨rfl, ?_⟩
      refine y_st (st2 := [.int (nI e9), .ref me_c]) rfl ?_
      refine y_cs (cs2 := [((ad 0), .inr (11, [.ref (ad 1), .ref (ad 5), .ref (ad 18), .ref (ad 31), .ref (ad 32), .ref (ad 36), .ref (ad 42), .ref (ad 45), .ref (ad 47), .ref (ad 49), .ref (ad 50), .ref (ad 51)])), ((u.2.2 1 k), .inr (0, [.ref me_c, .int ((t.2 1 k).1 0), .int ((t.2 1 k).1 1), .int ((t.2 1 k).1 2), .int ((t.2 1 k).1 3), .int ((t.2 1 k).1 4)])), (me_c, .inr (6, [.ref gr_c, .int ((t.2 1 k).1 5)])), (gr_c, .inl (3, 4, .inr (.inl ((t.2 1 k).2.2.1))))]) rfl ?_
      refine y_callV (As := [.int (nI e9)]) (rest := []) (csC := [(me_c, .inr (6, [.ref gr_c, .int ((t.2 1 k).1 5)])), (gr_c, .inl (3, 4, .inr (.inl ((t.2 1 k).2.2.1))))]) (is := [2, 3]) (q0 := 2) rfl rfl ln_Ip_300 w_im_Me_partOf w_se_Me_partOf ok_Ip_has_Me_partOf d_Ip_has_14 (C_Me_partOf g me_c gr_c ((t.2 1 k).2.2.1) ((t.2 1 k).1 5) e9 he9) rfl rfl (Nat.le_of_ble_eq_true rfl) rfl (by decide) (by omega) (by omega) (fun E cs1 hx => ?_) (fun v cs1 hx => ?_)
      · exact absurd hx.1 (by simp)
      · obtain ⟨e1, rfl⟩ := hx
        cases e1
        refine ⟨rfl, ?_⟩
        refine y_st (st2 := [.int (poI ((t.2 1 k).2.2.1) ((t.2 1 k).1 5) e9)]) rfl ?_
        refine y_cs (cs2 := [((ad 0), .inr (11, [.ref (ad 1), .ref (ad 5), .ref (ad 18), .ref (ad 31), .ref (ad 32), .ref (ad 36), .ref (ad 42), .ref (ad 45), .ref (ad 47), .ref (ad 49), .ref (ad 50), .ref (ad 51)])), ((u.2.2 1 k), .inr (0, [.ref me_c, .int ((t.2 1 k).1 0), .int ((t.2 1 k).1 1), .int ((t.2 1 k).1 2), .int ((t.2 1 k).1 3), .int ((t.2 1 k).1 4)])), (me_c, .inr (6, [.ref gr_c, .int ((t.2 1 k).1 5)])), (gr_c, .inl (3, 4, .inr (.inl ((t.2 1 k).2.2.1))))]) rfl ?_
        refine y_iret d_Ip_has_17 rfl rfl ?_
        exact fun w1 h1 => ⟨Or.inl ⟨_, rfl⟩, (hI.gen (t2 := t) (is := [0]) (L2 := [(u.2.2 1 k), me_c, gr_c]) h1 rfl ⟨kd_0.mpr rfl, trivial⟩ (by decide) (by decide) (List.forall_mem_cons.mpr ⟨nf_c, (List.forall_mem_cons.mpr ⟨nfm_c, (List.forall_mem_cons.mpr ⟨nfg_c, (fun _ h => nomatch h)⟩)⟩)⟩) (List.forall_mem_cons.mpr ⟨⟨_, hw_c, h1.at (q0 := 1) rfl⟩, (List.forall_mem_cons.mpr ⟨⟨_, hwm_c, h1.at (q0 := 2) rfl⟩, (List.forall_mem_cons.mpr ⟨⟨_, hwg_c, h1.at (q0 := 3) rfl⟩, (fun _ h => nomatch h)⟩)⟩)⟩) (fun _ _ _ => rfl) (fun h => h) rfl)⟩
set_option maxHeartbeats 4000000 in
set_option maxRecDepth 100000 in
theorem Q_Ip_hasF {g : zG} {ad : Nat → Nat} {t : zTT} {u : zNN} {w : zW} (hI : IV g ad t u w) (k : Nat) (hk : k < u.1 1) (c9 : Int32) (h2 : z_ix 2 c9 < 0) : zMB g M_Ip_has [.ref (ad 0), .int (nI k), .int c9] w (fun o w1 => zri ["java/lang/IndexOutOfBoundsException", "java/lang/IllegalArgumentException"] o ∧ IV g ad t u w1) 2 12 := by
  obtain ⟨e_a, wf_a, k_a⟩ := hI.1.2 0 (by decide)
  obtain rfl := kd_0.mp k_a
  refine y_of (by decide) rfl (Nat.le_of_ble_eq_true rfl) (y_base (cs := [((ad 0), .inr (11, [.ref (ad 1), .ref (ad 5), .ref (ad 18), .ref (ad 31), .ref (ad 32), .ref (ad 36), .ref (ad 42), .ref (ad 45), .ref (ad 47), .ref (ad 49), .ref (ad 50), .ref (ad 51)]))]) (hI.1.I [0] _ rfl (by decide) (by decide) (List.forall_mem_cons.mpr ⟨wf_a, (fun _ h => nomatch h)⟩)) ?_)
  refine y_lvE (lv2 := [(0, .ref (ad 0)), (1, .int (nI k)), (2, .int c9)]) rfl ?_
  refine y_aload_n d_Ip_has_0 rfl 0 rfl ?_
  refine y_iload_n d_Ip_has_1 rfl 1 rfl ?_
  refine yw_callV (As := [.int (nI k)]) (rest := []) (q0 := 0) rfl rfl ln_Ip_436 w_im_Ip_castingAt w_se_Ip_castingAt ok_Ip_has_Ip_castingAt d_Ip_has_2 (fun wA hA => Q_castingAtN (hI.gen (t2 := t) (is := [0]) (L2 := []) hA rfl ⟨kd_0.mpr rfl, trivial⟩ (by decide) (by decide) (fun _ h => nomatch h) (fun _ h => nomatch h) (fun _ _ _ => rfl) (fun h => h) rfl) k hk) rfl rfl (Nat.le_of_ble_eq_true rfl) (by omega) (by omega) (fun wA2 hA2 E wB2 hx => ?_) (fun wA2 hA2 v wB2 hx => ?_)
  · exact absurd hx.1 (by simp)
  · obtain ⟨e1, e2⟩ := hx
    cases e1
    refine yw_st (st2 := [.ref (u.2.2 1 k)]) rfl ?_
    subst e2
    refine y_go hA2 ?_
    refine y_end (fun wC1 hC1 => ?_)
    have hI9 := (hI.gen (t2 := t) (is := [0]) (L2 := []) hC1 rfl ⟨kd_0.mpr rfl, trivial⟩ (by decide) (by decide) (fun _ h => nomatch h) (fun _ h => nomatch h) (fun _ _ _ => rfl) (fun h => h) rfl)
    have hI := hI9
    obtain ⟨nf_c, me_c, gr_c, hw_c, nfm_c, hwm_c, nfg_c, hwg_c⟩ := hI.2.1.2.1 1 (by decide) k hk
    refine y_base (cs := [((ad 0), .inr (11, [.ref (ad 1), .ref (ad 5), .ref (ad 18), .ref (ad 31), .ref (ad 32), .ref (ad 36), .ref (ad 42), .ref (ad 45), .ref (ad 47), .ref (ad 49), .ref (ad 50), .ref (ad 51)])), ((u.2.2 1 k), .inr (0, [.ref me_c, .int ((t.2 1 k).1 0), .int ((t.2 1 k).1 1), .int ((t.2 1 k).1 2), .int ((t.2 1 k).1 3), .int ((t.2 1 k).1 4)])), (me_c, .inr (6, [.ref gr_c, .int ((t.2 1 k).1 5)])), (gr_c, .inl (3, 4, .inr (.inl ((t.2 1 k).2.2.1))))]) (z_I.kd (List.forall_mem_cons.mpr ⟨hC1.at (q0 := 0) rfl, (List.forall_mem_cons.mpr ⟨hw_c, (List.forall_mem_cons.mpr ⟨hwm_c, (List.forall_mem_cons.mpr ⟨hwg_c, (fun _ h => nomatch h)⟩)⟩)⟩)⟩) (by simp [z_kd])) ?_
    refine y_astore_n (lv' := [(3, .ref (u.2.2 1 k)), (0, .ref (ad 0)), (1, .int (nI k)), (2, .int c9)]) d_Ip_has_5 rfl (by decide) rfl ?_
    refine y_aload_n d_Ip_has_6 rfl 0 rfl ?_
    refine y_get fs_Ip_450 d_Ip_has_7 (q0 := 1) rfl rfl ?_
    refine y_iload_n d_Ip_has_10 rfl 3 rfl ?_
    refine y_callS (As := [.int c9]) (rest := [.ref me_c]) (csC := []) (is := []) ln_Ip_294 w_st_Ip_elementIndex ok_Ip_has_Ip_elementIndex d_Ip_has_11 (C_Ip_elementIndexE g c9 h2) rfl rfl (Nat.le_of_ble_eq_true rfl) rfl (by decide) (by omega) (by omega) (fun E cs1 hx => ?_) (fun v cs1 hx => ?_)
    · obtain ⟨e1, rfl⟩ := hx
      cases e1
      exact ⟨rfl, fun w1 h1 => ⟨Or.inr ⟨_, List.Mem.tail _ (List.Mem.head _), rfl⟩, (hI.gen (t2 := t) (is := [0]) (L2 := [(u.2.2 1 k), me_c, gr_c]) h1 rfl ⟨kd_0.mpr rfl, trivial⟩ (by decide) (by decide) (List.forall_mem_cons.mpr ⟨nf_c, (List.forall_mem_cons.mpr ⟨nfm_c, (List.forall_mem_cons.mpr ⟨nfg_c, (fun _ h => nomatch h)⟩)⟩)⟩) (List.forall_mem_cons.mpr ⟨⟨_, hw_c, h1.at (q0 := 1) rfl⟩, (List.forall_mem_cons.mpr ⟨⟨_, hwm_c, h1.at (q0 := 2) rfl⟩, (List.forall_mem_cons.mpr ⟨⟨_, hwg_c, h1.at (q0 := 3) rfl⟩, (fun _ h => nomatch h)⟩)⟩)⟩) (fun _ _ _ => rfl) (fun h => h) rfl)⟩⟩
    · exact absurd hx.1 (by simp)
set_option maxHeartbeats 4000000 in
set_option maxRecDepth 100000 in
theorem Q_Ip_castings {g : zG} {ad : Nat → Nat} {t : zTT} {u : zNN} {w : zW} (hI : IV g ad t u w) : zMB g M_Ip_castings [.ref (ad 0)] w (fun o w1 => zri [] o ∧ IV g ad t u w1) 0 0 := by
  obtain ⟨e_a, wf_a, k_a⟩ := hI.1.2 0 (by decide)
  obtain rfl := kd_0.mp k_a
  refine y_of (by decide) rfl (Nat.le_of_ble_eq_true rfl) (y_base (cs := [((ad 0), .inr (11, [.ref (ad 1), .ref (ad 5), .ref (ad 18), .ref (ad 31), .ref (ad 32), .ref (ad 36), .ref (ad 42), .ref (ad 45), .ref (ad 47), .ref (ad 49), .ref (ad 50), .ref (ad 51)]))]) (hI.1.I [0] _ rfl (by decide) (by decide) (List.forall_mem_cons.mpr ⟨wf_a, (fun _ h => nomatch h)⟩)) ?_)
  refine y_lvE (lv2 := [(0, .ref (ad 0))]) rfl ?_
  refine y_aload_n d_Ip_castings_0 rfl 0 rfl ?_
  refine y_get fs_Ip_78 d_Ip_castings_1 (q0 := 0) rfl rfl ?_
  refine yw_callVL (As := []) (rest := []) (ci := 13) rfl (fun wA hA => ((hI.gen (t2 := t) (is := [0]) (L2 := []) hA rfl ⟨kd_0.mpr rfl, trivial⟩ (by decide) (by decide) (fun _ h => nomatch h) (fun _ h => nomatch h) (fun _ _ _ => rfl) (fun h => h) rfl).2.1.1 1 (by decide)).ob) ln_Ip_341 w_im_AL_size w_se_AL_size ok_Ip_castings_AL_size d_Ip_castings_4 (fun wA hA => Q_size ((hI.gen (t2 := t) (is := [0]) (L2 := []) hA rfl ⟨kd_0.mpr rfl, trivial⟩ (by decide) (by decide) (fun _ h => nomatch h) (fun _ h => nomatch h) (fun _ _ _ => rfl) (fun h => h) rfl).2.1.1 1 (by decide))) rfl rfl (Nat.le_of_ble_eq_true rfl) (by omega) (by omega) (fun wA4 hA4 E wB4 hx => ?_) (fun wA4 hA4 v wB4 hx => ?_)
  · exact absurd hx.1 (by simp)
  · obtain ⟨e1, e2⟩ := hx
    cases e1
    refine yw_st (st2 := [.int (nI (u.1 1))]) rfl ?_
    subst e2
    refine y_go hA4 ?_
    refine y_iret d_Ip_castings_7 rfl rfl ?_
    exact fun w1 h1 => ⟨Or.inl ⟨_, rfl⟩, (hI.gen (t2 := t) (is := [0]) (L2 := []) h1 rfl ⟨kd_0.mpr rfl, trivial⟩ (by decide) (by decide) (fun _ h => nomatch h) (fun _ h => nomatch h) (fun _ _ _ => rfl) (fun h => h) rfl)⟩
theorem d_Ip_castingsWith_15 : decode prog_1_method_67_code 15 = .ok (.aload_n 0, 1) := zo_42 (zd_b zq_prog_1_method_67_code_0 15 rfl rfl rfl)
theorem d_Ip_castingsWith_16 : decode prog_1_method_67_code 16 = .ok (.getfield 78, 3) := zo_180 (d := 0) (e := 78) (zd_b zq_prog_1_method_67_code_0 16 rfl rfl rfl) (zd_b zq_prog_1_method_67_code_0 17 rfl rfl rfl) (zd_b zq_prog_1_method_67_code_0 18 rfl rfl rfl)
theorem d_Ip_castingsWith_19 : decode prog_1_method_67_code 19 = .ok (.iload_n 3, 1) := zo_29 (zd_b zq_prog_1_method_67_code_0 19 rfl rfl rfl)
theorem d_Ip_castingsWith_20 : decode prog_1_method_67_code 20 = .ok (.invokevirtual 344, 3) := zo_182 (d := 1) (e := 88) (zd_b zq_prog_1_method_67_code_0 20 rfl rfl rfl) (zd_b zq_prog_1_method_67_code_0 21 rfl rfl rfl) (zd_b zq_prog_1_method_67_code_0 22 rfl rfl rfl)
theorem ok_Ip_castingsWith_AL_get : z_ok M_Ip_castingsWith M_AL_get 1 := ⟨z_mj2 (i := 180) rfl (by decide +kernel), rfl, ⟨by decide +kernel, by decide +kernel, by decide +kernel⟩, ⟨by decide, by decide⟩, z_mj1 (i := 13) rfl (by decide +kernel), rfl⟩
theorem d_Ip_castingsWith_23 : decode prog_1_method_67_code 23 = .ok (.checkcast 441, 3) := zo_192 (d := 1) (e := 185) (zd_b zq_prog_1_method_67_code_0 23 rfl rfl rfl) (zd_b zq_prog_1_method_67_code_0 24 rfl rfl rfl) (zd_b zq_prog_1_method_67_code_0 25 rfl rfl rfl)
theorem d_Ip_castingsWith_26 : decode prog_1_method_67_code 26 = .ok (.iload_n 1, 1) := zo_27 (zd_b zq_prog_1_method_67_code_0 26 rfl rfl rfl)
theorem d_Ip_castingsWith_27 : decode prog_1_method_67_code 27 = .ok (.invokevirtual 456, 3) := zo_182 (d := 1) (e := 200) (zd_b zq_prog_1_method_67_code_0 27 rfl rfl rfl) (zd_b zq_prog_1_method_67_code_0 28 rfl rfl rfl) (zd_b zq_prog_1_method_67_code_0 29 rfl rfl rfl)
theorem ok_Ip_castingsWith_Ca_hasFault : z_ok M_Ip_castingsWith M_Ca_hasFault 1 := ⟨z_mj7 (i := 5) rfl (by decide +kernel), rfl, ⟨by decide +kernel, by decide +kernel, by decide +kernel⟩, ⟨by decide, by decide⟩, z_mj1 (i := 35) rfl (by decide +kernel), rfl⟩
theorem ln_Ip_456 : Cond.methodLink "Ironpour" 456 M_Ca_hasFault.1 ∈ z_gw := z_mj7 (i := 2) rfl (by decide +kernel)
theorem w_im_Ca_hasFault : Cond.instanceMethod M_Ca_hasFault.1 ∈ z_gw := z_mj7 (i := 3) rfl (by decide +kernel)
theorem w_se_Ca_hasFault : Cond.selects M_Ca_hasFault.1.cls M_Ca_hasFault.1 M_Ca_hasFault.1 ∈ z_gw := z_mj7 (i := 4) rfl (by decide +kernel)
theorem d_Ip_castingsWith_30 : decode prog_1_method_67_code 30 = .ok (.ifCond .eq 6, 3) := zo_153 (d := 0) (e := 6) (zd_b zq_prog_1_method_67_code_0 30 rfl rfl rfl) (zd_b zq_prog_1_method_67_code_0 31 rfl rfl rfl) (zd_b zq_prog_1_method_67_code_1 0 rfl rfl rfl) (by decide +kernel)
theorem d_Ip_castingsWith_36 : decode prog_1_method_67_code 36 = .ok (.iinc 3 1, 3) := by decide +kernel
theorem d_Ip_castingsWith_39 : decode prog_1_method_67_code 39 = .ok (.goto (-35), 3) := zo_167 (d := 255) (e := 221) (zd_b zq_prog_1_method_67_code_1 7 rfl rfl rfl) (zd_b zq_prog_1_method_67_code_1 8 rfl rfl rfl) (zd_b zq_prog_1_method_67_code_1 9 rfl rfl rfl) (by decide +kernel)
theorem d_Ip_castingsWith_33 : decode prog_1_method_67_code 33 = .ok (.iinc 2 1, 3) := by decide +kernel
set_option maxHeartbeats 4000000 in
set_option maxRecDepth 100000 in
theorem L_Q_castingsWith_4 (g : zG) {ad : Nat → Nat} {t : zTT} {u : zNN} {w : zW} (hI : IV g ad t u w) (x : Int32) : ∀ (d i : Nat) (s9 : Int32), i ≤ u.1 1 → u.1 1 < i + d → DW g M_Ip_castingsWith (fun o w1 => (∃ v : Int32, o = .inl (some (.int v))) ∧ w1 = w) w 4 [(3, .int (nI i)), (2, .int s9), (0, .ref (ad 0)), (1, .int x)] [] 0 0 := by
  intro d
  induction d with
  | zero => intro i s9 h1 h2 ; exact absurd h2 (by omega)
  | succ d ih =>
    intro i s9 h1 h2 
    obtain ⟨e_a, wf_a, k_a⟩ := hI.1.2 0 (by decide)
    obtain rfl := kd_0.mp k_a
    have h33 := hI.n5 1 (by decide)
    have hJ := hI.1.I [0] [((ad 0), .inr (11, [.ref (ad 1), .ref (ad 5), .ref (ad 18), .ref (ad 31), .ref (ad 32), .ref (ad 36), .ref (ad 42), .ref (ad 45), .ref (ad 47), .ref (ad 49), .ref (ad 50), .ref (ad 51)]))] rfl (by decide) (by decide) (List.forall_mem_cons.mpr ⟨wf_a, (fun _ h => nomatch h)⟩)
    refine y_base hJ ?_
    refine y_iload_n d_Ip_castingsWith_4 rfl 0 rfl ?_
    refine y_aload_n d_Ip_castingsWith_5 rfl 2 rfl ?_
    refine y_get fs_Ip_78 d_Ip_castingsWith_6 (q0 := 0) rfl rfl ?_
    refine yw_callVL (As := []) (rest := [.int (nI i)]) (ci := 13) rfl (fun wA hA => ((hI.gen (t2 := t) (is := [0]) (L2 := []) hA rfl ⟨kd_0.mpr rfl, trivial⟩ (by decide) (by decide) (fun _ h => nomatch h) (fun _ h => nomatch h) (fun _ _ _ => rfl) (fun h => h) rfl).2.1.1 1 (by decide)).ob) ln_Ip_341 w_im_AL_size w_se_AL_size ok_Ip_castingsWith_AL_size d_Ip_castingsWith_9 (fun wA hA => Q_size ((hI.gen (t2 := t) (is := [0]) (L2 := []) hA rfl ⟨kd_0.mpr rfl, trivial⟩ (by decide) (by decide) (fun _ h => nomatch h) (fun _ h => nomatch h) (fun _ _ _ => rfl) (fun h => h) rfl).2.1.1 1 (by decide))) rfl rfl (Nat.le_of_ble_eq_true rfl) (by omega) (by omega) (fun wA9 hA9 E wB9 hx => ?_) (fun wA9 hA9 v wB9 hx => ?_)
    · exact absurd hx.1 (by simp)
    · obtain ⟨e1, e2⟩ := hx
      cases e1
      refine yw_st (st2 := [.int (nI (u.1 1)), .int (nI i)]) rfl ?_
      subst e2
      refine y_go hA9 ?_
      refine y_icmp_ge (tgt := 42) d_Ip_castingsWith_12 (by decide) (fun c_12 => ?_) (fun c_12 => ?_)
      · have hn := z_le (a := (u.1 1)) (b := i) (by omega) (by omega) c_12
        refine y_iload_n d_Ip_castingsWith_42 rfl 1 rfl ?_
        refine y_iret d_Ip_castingsWith_43 rfl rfl ?_
        exact fun w1 h1 => ⟨⟨_, rfl⟩, z_I.same hJ h1⟩
      · have hn := z_nle (a := (u.1 1)) (b := i) (by omega) (by omega) c_12
        refine y_aload_n d_Ip_castingsWith_15 rfl 2 rfl ?_
        refine y_get fs_Ip_78 d_Ip_castingsWith_16 (q0 := 0) rfl rfl ?_
        refine y_iload_n d_Ip_castingsWith_19 rfl 0 rfl ?_
        refine yw_callVL (As := [.int (nI i)]) (rest := []) (ci := 13) rfl (fun wA hA => ((hI.gen (t2 := t) (is := [0]) (L2 := []) hA rfl ⟨kd_0.mpr rfl, trivial⟩ (by decide) (by decide) (fun _ h => nomatch h) (fun _ h => nomatch h) (fun _ _ _ => rfl) (fun h => h) rfl).2.1.1 1 (by decide)).ob) ln_Ip_344 w_im_AL_get w_se_AL_get ok_Ip_castingsWith_AL_get d_Ip_castingsWith_20 (fun wA hA => Q_get ((hI.gen (t2 := t) (is := [0]) (L2 := []) hA rfl ⟨kd_0.mpr rfl, trivial⟩ (by decide) (by decide) (fun _ h => nomatch h) (fun _ h => nomatch h) (fun _ _ _ => rfl) (fun h => h) rfl).2.1.1 1 (by decide)) hn) rfl rfl (Nat.le_of_ble_eq_true rfl) (by omega) (by omega) (fun wA20 hA20 E wB20 hx => ?_) (fun wA20 hA20 v wB20 hx => ?_)
        · exact absurd hx.1 (by simp)
        · obtain ⟨e1, e2⟩ := hx
          cases e1
          refine yw_st (st2 := [.ref (u.2.2 1 i)]) rfl ?_
          subst e2
          refine y_go hA20 ?_
          refine y_end (fun wC1 hC1 => ?_)
          obtain rfl := z_I.same hJ hC1
          obtain ⟨nf_c, me_c, gr_c, hw_c, nfm_c, hwm_c, nfg_c, hwg_c⟩ := hI.2.1.2.1 1 (by decide) i hn
          have hJ := z_I.kd (cs := [((ad 0), .inr (11, [.ref (ad 1), .ref (ad 5), .ref (ad 18), .ref (ad 31), .ref (ad 32), .ref (ad 36), .ref (ad 42), .ref (ad 45), .ref (ad 47), .ref (ad 49), .ref (ad 50), .ref (ad 51)])), ((u.2.2 1 i), .inr (0, [.ref me_c, .int ((t.2 1 i).1 0), .int ((t.2 1 i).1 1), .int ((t.2 1 i).1 2), .int ((t.2 1 i).1 3), .int ((t.2 1 i).1 4)])), (me_c, .inr (6, [.ref gr_c, .int ((t.2 1 i).1 5)])), (gr_c, .inl (3, 4, .inr (.inl ((t.2 1 i).2.2.1))))]) (List.forall_mem_cons.mpr ⟨wf_a, (List.forall_mem_cons.mpr ⟨hw_c, (List.forall_mem_cons.mpr ⟨hwm_c, (List.forall_mem_cons.mpr ⟨hwg_c, (fun _ h => nomatch h)⟩)⟩)⟩)⟩) (by simp [z_kd])
          refine y_base hJ ?_
          refine y_castO lk_Ip_441 d_Ip_castingsWith_23 (q0 := 1) rfl rfl ?_
          refine y_iload_n d_Ip_castingsWith_26 rfl 3 rfl ?_
          refine y_callV (As := [.int x]) (rest := []) (csC := [((u.2.2 1 i), .inr (0, [.ref me_c, .int ((t.2 1 i).1 0), .int ((t.2 1 i).1 1), .int ((t.2 1 i).1 2), .int ((t.2 1 i).1 3), .int ((t.2 1 i).1 4)])), (me_c, .inr (6, [.ref gr_c, .int ((t.2 1 i).1 5)])), (gr_c, .inl (3, 4, .inr (.inl ((t.2 1 i).2.2.1))))]) (is := [1, 2, 3]) (q0 := 1) rfl rfl ln_Ip_456 w_im_Ca_hasFault w_se_Ca_hasFault ok_Ip_castingsWith_Ca_hasFault d_Ip_castingsWith_27 (C_Ca_hasFault g (u.2.2 1 i) me_c gr_c ((t.2 1 i).2.2.1) ((t.2 1 i).1 5) ((t.2 1 i).1 0) ((t.2 1 i).1 1) ((t.2 1 i).1 2) ((t.2 1 i).1 3) ((t.2 1 i).1 4) x) rfl rfl (Nat.le_of_ble_eq_true rfl) rfl (by decide) (by omega) (by omega) (fun E cs1 hx => ?_) (fun v cs1 hx => ?_)
          · exact absurd hx.1 (by simp)
          · obtain ⟨e1, rfl⟩ := hx
            cases e1
            refine ⟨rfl, ?_⟩
            refine y_st (st2 := [.int (z_bi (hfB ((t.2 1 i).1 2) x))]) rfl ?_
            refine y_cs (cs2 := [((ad 0), .inr (11, [.ref (ad 1), .ref (ad 5), .ref (ad 18), .ref (ad 31), .ref (ad 32), .ref (ad 36), .ref (ad 42), .ref (ad 45), .ref (ad 47), .ref (ad 49), .ref (ad 50), .ref (ad 51)])), ((u.2.2 1 i), .inr (0, [.ref me_c, .int ((t.2 1 i).1 0), .int ((t.2 1 i).1 1), .int ((t.2 1 i).1 2), .int ((t.2 1 i).1 3), .int ((t.2 1 i).1 4)])), (me_c, .inr (6, [.ref gr_c, .int ((t.2 1 i).1 5)])), (gr_c, .inl (3, 4, .inr (.inl ((t.2 1 i).2.2.1))))]) rfl ?_
            refine y_if_eq (tgt := 36) d_Ip_castingsWith_30 (by decide) (fun c_30 => ?_) (fun c_30 => ?_)
            · refine y_iinc (lv' := [(3, .int (nI (i + 1))), (2, .int s9), (0, .ref (ad 0)), (1, .int x)]) (v := nI (i + 1)) d_Ip_castingsWith_36 (j := 0) rfl (nI_add _ _) (by decide) rfl ?_
              refine y_goto (tgt := 4) d_Ip_castingsWith_39 (by decide) ?_
              refine y_end (fun wC2 hC2 => ?_)
              obtain rfl := z_I.same hJ hC2
              exact ih (i + 1) _ (by omega) (by omega) 
            · refine y_iinc (lv' := [(2, .int (s9 + 1)), (3, .int (nI i)), (0, .ref (ad 0)), (1, .int x)]) (v := s9 + 1) d_Ip_castingsWith_33 (j := 1) rfl rfl (by decide) rfl ?_
              refine y_iinc (lv' := [(3, .int (nI (i + 1))), (2, .int (s9 + 1)), (0, .ref (ad 0)), (1, .int x)]) (v := nI (i + 1)) d_Ip_castingsWith_36 (j := 1) rfl (nI_add _ _) (by decide) rfl ?_
              refine y_goto (tgt := 4) d_Ip_castingsWith_39 (by decide) ?_
              refine y_end (fun wC3 hC3 => ?_)
              obtain rfl := z_I.same hJ hC3
              exact ih (i + 1) _ (by omega) (by omega) 
set_option maxHeartbeats 4000000 in
set_option maxRecDepth 100000 in
theorem Q_castingsWith {g : zG} {ad : Nat → Nat} {t : zTT} {u : zNN} {w : zW} (hI : IV g ad t u w) (x : Int32) : zMB g M_Ip_castingsWith [.ref (ad 0), .int x] w (fun o w1 => (∃ v : Int32, o = .inl (some (.int v))) ∧ w1 = w) 0 0 := by
  obtain ⟨e_a, wf_a, k_a⟩ := hI.1.2 0 (by decide)
  obtain rfl := kd_0.mp k_a
  have hJ := hI.1.I [0] [((ad 0), .inr (11, [.ref (ad 1), .ref (ad 5), .ref (ad 18), .ref (ad 31), .ref (ad 32), .ref (ad 36), .ref (ad 42), .ref (ad 45), .ref (ad 47), .ref (ad 49), .ref (ad 50), .ref (ad 51)]))] rfl (by decide) (by decide) (List.forall_mem_cons.mpr ⟨wf_a, (fun _ h => nomatch h)⟩)
  refine y_of (by decide) rfl (Nat.le_of_ble_eq_true rfl) (y_base (cs := [((ad 0), .inr (11, [.ref (ad 1), .ref (ad 5), .ref (ad 18), .ref (ad 31), .ref (ad 32), .ref (ad 36), .ref (ad 42), .ref (ad 45), .ref (ad 47), .ref (ad 49), .ref (ad 50), .ref (ad 51)]))]) hJ ?_)
  refine y_lvE (lv2 := [(0, .ref (ad 0)), (1, .int x)]) rfl ?_
  refine y_iconst d_Ip_castingsWith_0 (v := 0) (by decide) ?_
  refine y_istore_n (lv' := [(2, .int 0), (0, .ref (ad 0)), (1, .int x)]) d_Ip_castingsWith_1 rfl (by decide) rfl ?_
  refine y_iconst d_Ip_castingsWith_2 (v := 0) (by decide) ?_
  refine y_istore_n (lv' := [(3, .int 0), (2, .int 0), (0, .ref (ad 0)), (1, .int x)]) d_Ip_castingsWith_3 rfl (by decide) rfl ?_
  refine y_end (fun wC4 hC4 => ?_)
  obtain rfl := z_I.same hJ hC4
  exact L_Q_castingsWith_4 g hI x (u.1 1 + 1) 0 0 (Nat.zero_le _) (by omega) 
theorem d_Ip_worst_60 : decode prog_1_method_47_code 60 = .ok (.iload_n 1, 1) := zo_27 (zd_b zq_prog_1_method_47_code_1 28 rfl rfl rfl)
theorem d_Ip_worst_61 : decode prog_1_method_47_code 61 = .ok (.iload 5, 2) := zo_21 (d := 5) (zd_b zq_prog_1_method_47_code_1 29 rfl rfl rfl) (zd_b zq_prog_1_method_47_code_1 30 rfl rfl rfl)
theorem d_Ip_worst_63 : decode prog_1_method_47_code 63 = .ok (.if_icmp .ne 6, 3) := zo_160 (d := 0) (e := 6) (zd_b zq_prog_1_method_47_code_1 31 rfl rfl rfl) (zd_b zq_prog_1_method_47_code_2 0 rfl rfl rfl) (zd_b zq_prog_1_method_47_code_2 1 rfl rfl rfl) (by decide +kernel)
theorem d_Ip_worst_69 : decode prog_1_method_47_code 69 = .ok (.iload_n 2, 1) := zo_28 (zd_b zq_prog_1_method_47_code_2 5 rfl rfl rfl)
theorem d_Ip_worst_70 : decode prog_1_method_47_code 70 = .ok (.iload 5, 2) := zo_21 (d := 5) (zd_b zq_prog_1_method_47_code_2 6 rfl rfl rfl) (zd_b zq_prog_1_method_47_code_2 7 rfl rfl rfl)
theorem d_Ip_worst_72 : decode prog_1_method_47_code 72 = .ok (.if_icmp .ne 6, 3) := zo_160 (d := 0) (e := 6) (zd_b zq_prog_1_method_47_code_2 8 rfl rfl rfl) (zd_b zq_prog_1_method_47_code_2 9 rfl rfl rfl) (zd_b zq_prog_1_method_47_code_2 10 rfl rfl rfl) (by decide +kernel)
theorem d_Ip_worst_78 : decode prog_1_method_47_code 78 = .ok (.iload_n 3, 1) := zo_29 (zd_b zq_prog_1_method_47_code_2 14 rfl rfl rfl)
theorem d_Ip_worst_79 : decode prog_1_method_47_code 79 = .ok (.iload 5, 2) := zo_21 (d := 5) (zd_b zq_prog_1_method_47_code_2 15 rfl rfl rfl) (zd_b zq_prog_1_method_47_code_2 16 rfl rfl rfl)
theorem d_Ip_worst_81 : decode prog_1_method_47_code 81 = .ok (.if_icmp .ne 8, 3) := zo_160 (d := 0) (e := 8) (zd_b zq_prog_1_method_47_code_2 17 rfl rfl rfl) (zd_b zq_prog_1_method_47_code_2 18 rfl rfl rfl) (zd_b zq_prog_1_method_47_code_2 19 rfl rfl rfl) (by decide +kernel)
theorem d_Ip_worst_89 : decode prog_1_method_47_code 89 = .ok (.bipush 116, 2) := zo_16 (d := 116) (zd_b zq_prog_1_method_47_code_2 25 rfl rfl rfl) (zd_b zq_prog_1_method_47_code_2 26 rfl rfl rfl) (by decide +kernel)
theorem d_Ip_worst_91 : decode prog_1_method_47_code 91 = .ok (.ireturn, 1) := zo_172 (zd_b zq_prog_1_method_47_code_2 27 rfl rfl rfl)
theorem d_Ip_worst_84 : decode prog_1_method_47_code 84 = .ok (.bipush 112, 2) := zo_16 (d := 112) (zd_b zq_prog_1_method_47_code_2 20 rfl rfl rfl) (zd_b zq_prog_1_method_47_code_2 21 rfl rfl rfl) (by decide +kernel)
theorem d_Ip_worst_86 : decode prog_1_method_47_code 86 = .ok (.goto 5, 3) := zo_167 (d := 0) (e := 5) (zd_b zq_prog_1_method_47_code_2 22 rfl rfl rfl) (zd_b zq_prog_1_method_47_code_2 23 rfl rfl rfl) (zd_b zq_prog_1_method_47_code_2 24 rfl rfl rfl) (by decide +kernel)
theorem d_Ip_worst_75 : decode prog_1_method_47_code 75 = .ok (.bipush 109, 2) := zo_16 (d := 109) (zd_b zq_prog_1_method_47_code_2 11 rfl rfl rfl) (zd_b zq_prog_1_method_47_code_2 12 rfl rfl rfl) (by decide +kernel)
theorem d_Ip_worst_77 : decode prog_1_method_47_code 77 = .ok (.ireturn, 1) := zo_172 (zd_b zq_prog_1_method_47_code_2 13 rfl rfl rfl)
theorem d_Ip_worst_66 : decode prog_1_method_47_code 66 = .ok (.bipush 115, 2) := zo_16 (d := 115) (zd_b zq_prog_1_method_47_code_2 2 rfl rfl rfl) (zd_b zq_prog_1_method_47_code_2 3 rfl rfl rfl) (by decide +kernel)
theorem d_Ip_worst_68 : decode prog_1_method_47_code 68 = .ok (.ireturn, 1) := zo_172 (zd_b zq_prog_1_method_47_code_2 4 rfl rfl rfl)
set_option maxHeartbeats 4000000 in
set_option maxRecDepth 100000 in
theorem Q_Ip_worst {g : zG} {ad : Nat → Nat} {t : zTT} {u : zNN} {w : zW} (hI : IV g ad t u w) : zMB g M_Ip_worst [.ref (ad 0)] w (fun o w1 => zri ["java/util/NoSuchElementException"] o ∧ IV g ad t u w1) 1 6 := by
  obtain ⟨e_a, wf_a, k_a⟩ := hI.1.2 0 (by decide)
  obtain rfl := kd_0.mp k_a
  refine y_of (by decide) rfl (Nat.le_of_ble_eq_true rfl) (y_base (cs := [((ad 0), .inr (11, [.ref (ad 1), .ref (ad 5), .ref (ad 18), .ref (ad 31), .ref (ad 32), .ref (ad 36), .ref (ad 42), .ref (ad 45), .ref (ad 47), .ref (ad 49), .ref (ad 50), .ref (ad 51)]))]) (hI.1.I [0] _ rfl (by decide) (by decide) (List.forall_mem_cons.mpr ⟨wf_a, (fun _ h => nomatch h)⟩)) ?_)
  refine y_lvE (lv2 := [(0, .ref (ad 0))]) rfl ?_
  refine y_aload_n d_Ip_worst_0 rfl 0 rfl ?_
  refine y_bipush d_Ip_worst_1 (v := 12) (by decide) ?_
  refine yw_callV (As := [.int 12]) (rest := []) (q0 := 0) rfl rfl ln_Ip_476 w_im_Ip_castingsWith w_se_Ip_castingsWith ok_Ip_worst_Ip_castingsWith d_Ip_worst_3 (fun wA hA => Q_castingsWith (hI.gen (t2 := t) (is := [0]) (L2 := []) hA rfl ⟨kd_0.mpr rfl, trivial⟩ (by decide) (by decide) (fun _ h => nomatch h) (fun _ h => nomatch h) (fun _ _ _ => rfl) (fun h => h) rfl) 12) rfl rfl (Nat.le_of_ble_eq_true rfl) (by omega) (by omega) (fun wA3 hA3 E wB3 hx => ?_) (fun wA3 hA3 v wB3 hx => ?_)
  · exact absurd hx.1 (by simp)
  · obtain ⟨⟨s1, e1⟩, e2⟩ := hx
    cases e1
    refine yw_st (st2 := [.int s1]) rfl ?_
    subst e2
    refine y_go hA3 ?_
    refine y_istore_n (lv' := [(1, .int s1), (0, .ref (ad 0))]) d_Ip_worst_6 rfl (by decide) rfl ?_
    refine y_aload_n d_Ip_worst_7 rfl 1 rfl ?_
    refine y_bipush d_Ip_worst_8 (v := 32) (by decide) ?_
    refine yw_callV (As := [.int 32]) (rest := []) (q0 := 0) rfl rfl ln_Ip_476 w_im_Ip_castingsWith w_se_Ip_castingsWith ok_Ip_worst_Ip_castingsWith d_Ip_worst_10 (fun wA hA => Q_castingsWith (hI.gen (t2 := t) (is := [0]) (L2 := []) hA rfl ⟨kd_0.mpr rfl, trivial⟩ (by decide) (by decide) (fun _ h => nomatch h) (fun _ h => nomatch h) (fun _ _ _ => rfl) (fun h => h) rfl) 32) rfl rfl (Nat.le_of_ble_eq_true rfl) (by omega) (by omega) (fun wA10 hA10 E wB10 hx => ?_) (fun wA10 hA10 v wB10 hx => ?_)
    · exact absurd hx.1 (by simp)
    · obtain ⟨⟨s2, e1⟩, e2⟩ := hx
      cases e1
      refine yw_st (st2 := [.int s2]) rfl ?_
      subst e2
      refine y_go hA10 ?_
      refine y_istore_n (lv' := [(2, .int s2), (1, .int s1), (0, .ref (ad 0))]) d_Ip_worst_13 rfl (by decide) rfl ?_
      refine y_aload_n d_Ip_worst_14 rfl 2 rfl ?_
      refine y_iconst d_Ip_worst_15 (v := 2) (by decide) ?_
      refine yw_callV (As := [.int 2]) (rest := []) (q0 := 0) rfl rfl ln_Ip_476 w_im_Ip_castingsWith w_se_Ip_castingsWith ok_Ip_worst_Ip_castingsWith d_Ip_worst_16 (fun wA hA => Q_castingsWith (hI.gen (t2 := t) (is := [0]) (L2 := []) hA rfl ⟨kd_0.mpr rfl, trivial⟩ (by decide) (by decide) (fun _ h => nomatch h) (fun _ h => nomatch h) (fun _ _ _ => rfl) (fun h => h) rfl) 2) rfl rfl (Nat.le_of_ble_eq_true rfl) (by omega) (by omega) (fun wA16 hA16 E wB16 hx => ?_) (fun wA16 hA16 v wB16 hx => ?_)
      · exact absurd hx.1 (by simp)
      · obtain ⟨⟨s3, e1⟩, e2⟩ := hx
        cases e1
        refine yw_st (st2 := [.int s3]) rfl ?_
        subst e2
        refine y_go hA16 ?_
        refine y_istore_n (lv' := [(3, .int s3), (2, .int s2), (1, .int s1), (0, .ref (ad 0))]) d_Ip_worst_19 rfl (by decide) rfl ?_
        refine y_aload_n d_Ip_worst_20 rfl 3 rfl ?_
        refine y_bipush d_Ip_worst_21 (v := 17) (by decide) ?_
        refine yw_callV (As := [.int 17]) (rest := []) (q0 := 0) rfl rfl ln_Ip_476 w_im_Ip_castingsWith w_se_Ip_castingsWith ok_Ip_worst_Ip_castingsWith d_Ip_worst_23 (fun wA hA => Q_castingsWith (hI.gen (t2 := t) (is := [0]) (L2 := []) hA rfl ⟨kd_0.mpr rfl, trivial⟩ (by decide) (by decide) (fun _ h => nomatch h) (fun _ h => nomatch h) (fun _ _ _ => rfl) (fun h => h) rfl) 17) rfl rfl (Nat.le_of_ble_eq_true rfl) (by omega) (by omega) (fun wA23 hA23 E wB23 hx => ?_) (fun wA23 hA23 v wB23 hx => ?_)
        · exact absurd hx.1 (by simp)
        · obtain ⟨⟨s4, e1⟩, e2⟩ := hx
          cases e1
          refine yw_st (st2 := [.int s4]) rfl ?_
          subst e2
          refine y_go hA23 ?_
          refine y_istore (lv' := [(4, .int s4), (3, .int s3), (2, .int s2), (1, .int s1), (0, .ref (ad 0))]) d_Ip_worst_26 (by decide) rfl ?_
          refine y_iload_n d_Ip_worst_28 rfl 3 rfl ?_
          refine y_iload_n d_Ip_worst_29 rfl 2 rfl ?_
          refine y_max (v := (if s1 < s2 then s2 else s1)) ln_Ip_479 w_mmax w_mi w_cmax d_Ip_worst_30 (by decide) (by decide) (Nat.le_of_ble_eq_true rfl) rfl ?_
          refine y_iload_n d_Ip_worst_33 rfl 1 rfl ?_
          refine y_iload d_Ip_worst_34 0 rfl ?_
          refine y_max (v := (if s3 < s4 then s4 else s3)) ln_Ip_479 w_mmax w_mi w_cmax d_Ip_worst_36 (by decide) (by decide) (Nat.le_of_ble_eq_true rfl) rfl ?_
          refine y_max (v := (if (if s1 < s2 then s2 else s1) < (if s3 < s4 then s4 else s3) then (if s3 < s4 then s4 else s3) else (if s1 < s2 then s2 else s1))) ln_Ip_479 w_mmax w_mi w_cmax d_Ip_worst_39 (by decide) (by decide) (Nat.le_of_ble_eq_true rfl) rfl ?_
          refine y_istore (lv' := [(5, .int (if (if s1 < s2 then s2 else s1) < (if s3 < s4 then s4 else s3) then (if s3 < s4 then s4 else s3) else (if s1 < s2 then s2 else s1))), (4, .int s4), (3, .int s3), (2, .int s2), (1, .int s1), (0, .ref (ad 0))]) d_Ip_worst_42 (by decide) rfl ?_
          refine y_iload d_Ip_worst_44 0 rfl ?_
          refine y_if_ne (tgt := 60) d_Ip_worst_46 (by decide) (fun c_46 => ?_) (fun c_46 => ?_)
          · refine y_iload_n d_Ip_worst_60 rfl 4 rfl ?_
            refine y_iload d_Ip_worst_61 0 rfl ?_
            refine y_icmp_ne (tgt := 69) d_Ip_worst_63 (by decide) (fun c_63 => ?_) (fun c_63 => ?_)
            · refine y_iload_n d_Ip_worst_69 rfl 3 rfl ?_
              refine y_iload d_Ip_worst_70 0 rfl ?_
              refine y_icmp_ne (tgt := 78) d_Ip_worst_72 (by decide) (fun c_72 => ?_) (fun c_72 => ?_)
              · refine y_iload_n d_Ip_worst_78 rfl 2 rfl ?_
                refine y_iload d_Ip_worst_79 0 rfl ?_
                refine y_icmp_ne (tgt := 89) d_Ip_worst_81 (by decide) (fun c_81 => ?_) (fun c_81 => ?_)
                · refine y_bipush d_Ip_worst_89 (v := 116) (by decide) ?_
                  refine y_iret d_Ip_worst_91 rfl rfl ?_
                  exact fun w1 h1 => ⟨Or.inl ⟨_, rfl⟩, (hI.gen (t2 := t) (is := [0]) (L2 := []) h1 rfl ⟨kd_0.mpr rfl, trivial⟩ (by decide) (by decide) (fun _ h => nomatch h) (fun _ h => nomatch h) (fun _ _ _ => rfl) (fun h => h) rfl)⟩
                · refine y_bipush d_Ip_worst_84 (v := 112) (by decide) ?_
                  refine y_goto (tgt := 91) d_Ip_worst_86 (by decide) ?_
                  refine y_iret d_Ip_worst_91 rfl rfl ?_
                  exact fun w1 h1 => ⟨Or.inl ⟨_, rfl⟩, (hI.gen (t2 := t) (is := [0]) (L2 := []) h1 rfl ⟨kd_0.mpr rfl, trivial⟩ (by decide) (by decide) (fun _ h => nomatch h) (fun _ h => nomatch h) (fun _ _ _ => rfl) (fun h => h) rfl)⟩
              · refine y_bipush d_Ip_worst_75 (v := 109) (by decide) ?_
                refine y_iret d_Ip_worst_77 rfl rfl ?_
                exact fun w1 h1 => ⟨Or.inl ⟨_, rfl⟩, (hI.gen (t2 := t) (is := [0]) (L2 := []) h1 rfl ⟨kd_0.mpr rfl, trivial⟩ (by decide) (by decide) (fun _ h => nomatch h) (fun _ h => nomatch h) (fun _ _ _ => rfl) (fun h => h) rfl)⟩
            · refine y_bipush d_Ip_worst_66 (v := 115) (by decide) ?_
              refine y_iret d_Ip_worst_68 rfl rfl ?_
              exact fun w1 h1 => ⟨Or.inl ⟨_, rfl⟩, (hI.gen (t2 := t) (is := [0]) (L2 := []) h1 rfl ⟨kd_0.mpr rfl, trivial⟩ (by decide) (by decide) (fun _ h => nomatch h) (fun _ h => nomatch h) (fun _ _ _ => rfl) (fun h => h) rfl)⟩
          · refine y_throwXW tb_Ip_150_154 sr_Ip_484 d_Ip_worst_49 d_Ip_worst_52 d_Ip_worst_53 d_Ip_worst_56 d_Ip_worst_59 rfl (by decide) (by decide) (Nat.le_of_ble_eq_true rfl) (by omega) (by omega) ?_
            exact fun w1 h1 => ⟨Or.inr ⟨_, List.Mem.head _, rfl⟩, (hI.gen (t2 := t) (is := [0]) (L2 := []) h1 rfl ⟨kd_0.mpr rfl, trivial⟩ (by decide) (by decide) (fun _ h => nomatch h) (fun _ h => nomatch h) (fun _ _ _ => rfl) (fun h => h) rfl)⟩
theorem d_Ip_delivered_15 : decode prog_1_method_48_code 15 = .ok (.aload_n 0, 1) := zo_42 (zd_b zq_prog_1_method_48_code_0 15 rfl rfl rfl)
theorem d_Ip_delivered_16 : decode prog_1_method_48_code 16 = .ok (.getfield 78, 3) := zo_180 (d := 0) (e := 78) (zd_b zq_prog_1_method_48_code_0 16 rfl rfl rfl) (zd_b zq_prog_1_method_48_code_0 17 rfl rfl rfl) (zd_b zq_prog_1_method_48_code_0 18 rfl rfl rfl)
theorem d_Ip_delivered_19 : decode prog_1_method_48_code 19 = .ok (.iload_n 3, 1) := zo_29 (zd_b zq_prog_1_method_48_code_0 19 rfl rfl rfl)
theorem d_Ip_delivered_20 : decode prog_1_method_48_code 20 = .ok (.invokevirtual 344, 3) := zo_182 (d := 1) (e := 88) (zd_b zq_prog_1_method_48_code_0 20 rfl rfl rfl) (zd_b zq_prog_1_method_48_code_0 21 rfl rfl rfl) (zd_b zq_prog_1_method_48_code_0 22 rfl rfl rfl)
theorem ok_Ip_delivered_AL_get : z_ok M_Ip_delivered M_AL_get 1 := ⟨z_mj2 (i := 180) rfl (by decide +kernel), rfl, ⟨by decide +kernel, by decide +kernel, by decide +kernel⟩, ⟨by decide, by decide⟩, z_mj1 (i := 13) rfl (by decide +kernel), rfl⟩
theorem d_Ip_delivered_23 : decode prog_1_method_48_code 23 = .ok (.checkcast 441, 3) := zo_192 (d := 1) (e := 185) (zd_b zq_prog_1_method_48_code_0 23 rfl rfl rfl) (zd_b zq_prog_1_method_48_code_0 24 rfl rfl rfl) (zd_b zq_prog_1_method_48_code_0 25 rfl rfl rfl)
theorem d_Ip_delivered_26 : decode prog_1_method_48_code 26 = .ok (.astore 4, 2) := zo_58 (d := 4) (zd_b zq_prog_1_method_48_code_0 26 rfl rfl rfl) (zd_b zq_prog_1_method_48_code_0 27 rfl rfl rfl)
theorem d_Ip_delivered_28 : decode prog_1_method_48_code 28 = .ok (.aload 4, 2) := zo_25 (d := 4) (zd_b zq_prog_1_method_48_code_0 28 rfl rfl rfl) (zd_b zq_prog_1_method_48_code_0 29 rfl rfl rfl)
theorem d_Ip_delivered_30 : decode prog_1_method_48_code 30 = .ok (.getfield 466, 3) := zo_180 (d := 1) (e := 210) (zd_b zq_prog_1_method_48_code_0 30 rfl rfl rfl) (zd_b zq_prog_1_method_48_code_0 31 rfl rfl rfl) (zd_b zq_prog_1_method_48_code_1 0 rfl rfl rfl)
theorem fs_Ip_466 : z_fs "Ironpour" 466 0 4 := ⟨R_Ca, "Ironpour$Casting", F_Ca, 6, rfl, u_Ca, by decide, Or.inr ⟨"Ironpour", z_mk6 (i := 146) rfl (by decide +kernel), rfl⟩⟩
theorem d_Ip_delivered_33 : decode prog_1_method_48_code 33 = .ok (.ifCond .eq 15, 3) := zo_153 (d := 0) (e := 15) (zd_b zq_prog_1_method_48_code_1 1 rfl rfl rfl) (zd_b zq_prog_1_method_48_code_1 2 rfl rfl rfl) (zd_b zq_prog_1_method_48_code_1 3 rfl rfl rfl) (by decide +kernel)
theorem d_Ip_delivered_48 : decode prog_1_method_48_code 48 = .ok (.iinc 3 1, 3) := by decide +kernel
theorem d_Ip_delivered_51 : decode prog_1_method_48_code 51 = .ok (.goto (-47), 3) := zo_167 (d := 255) (e := 209) (zd_b zq_prog_1_method_48_code_1 19 rfl rfl rfl) (zd_b zq_prog_1_method_48_code_1 20 rfl rfl rfl) (zd_b zq_prog_1_method_48_code_1 21 rfl rfl rfl) (by decide +kernel)
theorem d_Ip_delivered_36 : decode prog_1_method_48_code 36 = .ok (.lload_n 1, 1) := zo_31 (zd_b zq_prog_1_method_48_code_1 4 rfl rfl rfl)
theorem d_Ip_delivered_37 : decode prog_1_method_48_code 37 = .ok (.aload 4, 2) := zo_25 (d := 4) (zd_b zq_prog_1_method_48_code_1 5 rfl rfl rfl) (zd_b zq_prog_1_method_48_code_1 6 rfl rfl rfl)
theorem d_Ip_delivered_39 : decode prog_1_method_48_code 39 = .ok (.getfield 450, 3) := zo_180 (d := 1) (e := 194) (zd_b zq_prog_1_method_48_code_1 7 rfl rfl rfl) (zd_b zq_prog_1_method_48_code_1 8 rfl rfl rfl) (zd_b zq_prog_1_method_48_code_1 9 rfl rfl rfl)
theorem d_Ip_delivered_42 : decode prog_1_method_48_code 42 = .ok (.getfield 269, 3) := zo_180 (d := 1) (e := 13) (zd_b zq_prog_1_method_48_code_1 10 rfl rfl rfl) (zd_b zq_prog_1_method_48_code_1 11 rfl rfl rfl) (zd_b zq_prog_1_method_48_code_1 12 rfl rfl rfl)
theorem d_Ip_delivered_45 : decode prog_1_method_48_code 45 = .ok (.i2l, 1) := zo_133 (zd_b zq_prog_1_method_48_code_1 13 rfl rfl rfl)
theorem d_Ip_delivered_46 : decode prog_1_method_48_code 46 = .ok (.ladd, 1) := zo_97 (zd_b zq_prog_1_method_48_code_1 14 rfl rfl rfl)
theorem d_Ip_delivered_47 : decode prog_1_method_48_code 47 = .ok (.lstore_n 1, 1) := zo_64 (zd_b zq_prog_1_method_48_code_1 15 rfl rfl rfl)
set_option maxHeartbeats 4000000 in
set_option maxRecDepth 100000 in
theorem L_Q_delivered_4 (g : zG) {ad : Nat → Nat} {t : zTT} {u : zNN} {w : zW} (hI : IV g ad t u w) : ∀ (d i : Nat) (s9 : Int64), i ≤ u.1 1 → u.1 1 < i + d → DW g M_Ip_delivered (fun o w1 => (∃ v : Int64, o = .inl (some (.long v))) ∧ w1 = w) w 4 [(3, .int (nI i)), (1, .long s9), (0, .ref (ad 0))] [] 0 0 := by
  intro d
  induction d with
  | zero => intro i s9 h1 h2 ; exact absurd h2 (by omega)
  | succ d ih =>
    intro i s9 h1 h2 
    obtain ⟨e_a, wf_a, k_a⟩ := hI.1.2 0 (by decide)
    obtain rfl := kd_0.mp k_a
    have h33 := hI.n5 1 (by decide)
    have hJ := hI.1.I [0] [((ad 0), .inr (11, [.ref (ad 1), .ref (ad 5), .ref (ad 18), .ref (ad 31), .ref (ad 32), .ref (ad 36), .ref (ad 42), .ref (ad 45), .ref (ad 47), .ref (ad 49), .ref (ad 50), .ref (ad 51)]))] rfl (by decide) (by decide) (List.forall_mem_cons.mpr ⟨wf_a, (fun _ h => nomatch h)⟩)
    refine y_base hJ ?_
    refine y_iload_n d_Ip_delivered_4 rfl 0 rfl ?_
    refine y_aload_n d_Ip_delivered_5 rfl 2 rfl ?_
    refine y_get fs_Ip_78 d_Ip_delivered_6 (q0 := 0) rfl rfl ?_
    refine yw_callVL (As := []) (rest := [.int (nI i)]) (ci := 13) rfl (fun wA hA => ((hI.gen (t2 := t) (is := [0]) (L2 := []) hA rfl ⟨kd_0.mpr rfl, trivial⟩ (by decide) (by decide) (fun _ h => nomatch h) (fun _ h => nomatch h) (fun _ _ _ => rfl) (fun h => h) rfl).2.1.1 1 (by decide)).ob) ln_Ip_341 w_im_AL_size w_se_AL_size ok_Ip_delivered_AL_size d_Ip_delivered_9 (fun wA hA => Q_size ((hI.gen (t2 := t) (is := [0]) (L2 := []) hA rfl ⟨kd_0.mpr rfl, trivial⟩ (by decide) (by decide) (fun _ h => nomatch h) (fun _ h => nomatch h) (fun _ _ _ => rfl) (fun h => h) rfl).2.1.1 1 (by decide))) rfl rfl (Nat.le_of_ble_eq_true rfl) (by omega) (by omega) (fun wA9 hA9 E wB9 hx => ?_) (fun wA9 hA9 v wB9 hx => ?_)
    · exact absurd hx.1 (by simp)
    · obtain ⟨e1, e2⟩ := hx
      cases e1
      refine yw_st (st2 := [.int (nI (u.1 1)), .int (nI i)]) rfl ?_
      subst e2
      refine y_go hA9 ?_
      refine y_icmp_ge (tgt := 54) d_Ip_delivered_12 (by decide) (fun c_12 => ?_) (fun c_12 => ?_)
      · have hn := z_le (a := (u.1 1)) (b := i) (by omega) (by omega) c_12
        refine y_lload_n d_Ip_delivered_54 rfl 1 rfl ?_
        refine y_lret d_Ip_delivered_55 rfl ?_
        exact fun w1 h1 => ⟨⟨_, rfl⟩, z_I.same hJ h1⟩
      · have hn := z_nle (a := (u.1 1)) (b := i) (by omega) (by omega) c_12
        refine y_aload_n d_Ip_delivered_15 rfl 2 rfl ?_
        refine y_get fs_Ip_78 d_Ip_delivered_16 (q0 := 0) rfl rfl ?_
        refine y_iload_n d_Ip_delivered_19 rfl 0 rfl ?_
        refine yw_callVL (As := [.int (nI i)]) (rest := []) (ci := 13) rfl (fun wA hA => ((hI.gen (t2 := t) (is := [0]) (L2 := []) hA rfl ⟨kd_0.mpr rfl, trivial⟩ (by decide) (by decide) (fun _ h => nomatch h) (fun _ h => nomatch h) (fun _ _ _ => rfl) (fun h => h) rfl).2.1.1 1 (by decide)).ob) ln_Ip_344 w_im_AL_get w_se_AL_get ok_Ip_delivered_AL_get d_Ip_delivered_20 (fun wA hA => Q_get ((hI.gen (t2 := t) (is := [0]) (L2 := []) hA rfl ⟨kd_0.mpr rfl, trivial⟩ (by decide) (by decide) (fun _ h => nomatch h) (fun _ h => nomatch h) (fun _ _ _ => rfl) (fun h => h) rfl).2.1.1 1 (by decide)) hn) rfl rfl (Nat.le_of_ble_eq_true rfl) (by omega) (by omega) (fun wA20 hA20 E wB20 hx => ?_) (fun wA20 hA20 v wB20 hx => ?_)
        · exact absurd hx.1 (by simp)
        · obtain ⟨e1, e2⟩ := hx
          cases e1
          refine yw_st (st2 := [.ref (u.2.2 1 i)]) rfl ?_
          subst e2
          refine y_go hA20 ?_
          refine y_end (fun wC1 hC1 => ?_)
          obtain rfl := z_I.same hJ hC1
          obtain ⟨nf_c, me_c, gr_c, hw_c, nfm_c, hwm_c, nfg_c, hwg_c⟩ := hI.2.1.2.1 1 (by decide) i hn
          have hJ := z_I.kd (cs := [((ad 0), .inr (11, [.ref (ad 1), .ref (ad 5), .ref (ad 18), .ref (ad 31), .ref (ad 32), .ref (ad 36), .ref (ad 42), .ref (ad 45), .ref (ad 47), .ref (ad 49), .ref (ad 50), .ref (ad 51)])), ((u.2.2 1 i), .inr (0, [.ref me_c, .int ((t.2 1 i).1 0), .int ((t.2 1 i).1 1), .int ((t.2 1 i).1 2), .int ((t.2 1 i).1 3), .int ((t.2 1 i).1 4)])), (me_c, .inr (6, [.ref gr_c, .int ((t.2 1 i).1 5)])), (gr_c, .inl (3, 4, .inr (.inl ((t.2 1 i).2.2.1))))]) (List.forall_mem_cons.mpr ⟨wf_a, (List.forall_mem_cons.mpr ⟨hw_c, (List.forall_mem_cons.mpr ⟨hwm_c, (List.forall_mem_cons.mpr ⟨hwg_c, (fun _ h => nomatch h)⟩)⟩)⟩)⟩) (by simp [z_kd])
          refine y_base hJ ?_
          refine y_castO lk_Ip_441 d_Ip_delivered_23 (q0 := 1) rfl rfl ?_
          refine y_astore (lv' := [(4, .ref (u.2.2 1 i)), (3, .int (nI i)), (1, .long s9), (0, .ref (ad 0))]) d_Ip_delivered_26 (by decide) rfl ?_
          refine y_aload d_Ip_delivered_28 0 rfl ?_
          refine y_get fs_Ip_466 d_Ip_delivered_30 (q0 := 1) rfl rfl ?_
          refine y_if_eq (tgt := 48) d_Ip_delivered_33 (by decide) (fun c_33 => ?_) (fun c_33 => ?_)
          · refine y_iinc (lv' := [(3, .int (nI (i + 1))), (4, .ref (u.2.2 1 i)), (1, .long s9), (0, .ref (ad 0))]) (v := nI (i + 1)) d_Ip_delivered_48 (j := 1) rfl (nI_add _ _) (by decide) rfl ?_
            refine y_goto (tgt := 4) d_Ip_delivered_51 (by decide) ?_
            refine y_lv (lv' := [(3, .int (nI (i + 1))), (1, .long s9), (0, .ref (ad 0))]) [0, 2, 3] rfl ?_
            refine y_end (fun wC2 hC2 => ?_)
            obtain rfl := z_I.same hJ hC2
            exact ih (i + 1) _ (by omega) (by omega) 
          · refine y_lload_n d_Ip_delivered_36 rfl 2 rfl ?_
            refine y_aload d_Ip_delivered_37 0 rfl ?_
            refine y_get fs_Ip_450 d_Ip_delivered_39 (q0 := 1) rfl rfl ?_
            refine y_get fs_Ip_269 d_Ip_delivered_42 (q0 := 2) rfl rfl ?_
            refine y_i2l d_Ip_delivered_45 (v := ((t.2 1 i).1 5).toInt64) rfl ?_
            refine y_ladd d_Ip_delivered_46 (v := s9 + (((t.2 1 i).1 5).toInt64)) rfl ?_
            refine y_lstore_n (lv' := [(1, .long (s9 + (((t.2 1 i).1 5).toInt64))), (4, .ref (u.2.2 1 i)), (3, .int (nI i)), (0, .ref (ad 0))]) d_Ip_delivered_47 rfl (by decide) rfl ?_
            refine y_iinc (lv' := [(3, .int (nI (i + 1))), (1, .long (s9 + (((t.2 1 i).1 5).toInt64))), (4, .ref (u.2.2 1 i)), (0, .ref (ad 0))]) (v := nI (i + 1)) d_Ip_delivered_48 (j := 2) rfl (nI_add _ _) (by decide) rfl ?_
            refine y_goto (tgt := 4) d_Ip_delivered_51 (by decide) ?_
            refine y_lv (lv' := [(3, .int (nI (i + 1))), (1, .long (s9 + (((t.2 1 i).1 5).toInt64))), (0, .ref (ad 0))]) [0, 1, 3] rfl ?_
            refine y_end (fun wC3 hC3 => ?_)
            obtain rfl := z_I.same hJ hC3
            exact ih (i + 1) _ (by omega) (by omega) 
set_option maxHeartbeats 4000000 in
set_option maxRecDepth 100000 in
theorem Q_delivered {g : zG} {ad : Nat → Nat} {t : zTT} {u : zNN} {w : zW} (hI : IV g ad t u w) : zMB g M_Ip_delivered [.ref (ad 0)] w (fun o w1 => (∃ v : Int64, o = .inl (some (.long v))) ∧ w1 = w) 0 0 := by
  obtain ⟨e_a, wf_a, k_a⟩ := hI.1.2 0 (by decide)
  obtain rfl := kd_0.mp k_a
  have hJ := hI.1.I [0] [((ad 0), .inr (11, [.ref (ad 1), .ref (ad 5), .ref (ad 18), .ref (ad 31), .ref (ad 32), .ref (ad 36), .ref (ad 42), .ref (ad 45), .ref (ad 47), .ref (ad 49), .ref (ad 50), .ref (ad 51)]))] rfl (by decide) (by decide) (List.forall_mem_cons.mpr ⟨wf_a, (fun _ h => nomatch h)⟩)
  refine y_of (by decide) rfl (Nat.le_of_ble_eq_true rfl) (y_base (cs := [((ad 0), .inr (11, [.ref (ad 1), .ref (ad 5), .ref (ad 18), .ref (ad 31), .ref (ad 32), .ref (ad 36), .ref (ad 42), .ref (ad 45), .ref (ad 47), .ref (ad 49), .ref (ad 50), .ref (ad 51)]))]) hJ ?_)
  refine y_lvE (lv2 := [(0, .ref (ad 0))]) rfl ?_
  refine y_lconst d_Ip_delivered_0 (v := 0) (by decide) ?_
  refine y_lstore_n (lv' := [(1, .long 0), (0, .ref (ad 0))]) d_Ip_delivered_1 rfl (by decide) rfl ?_
  refine y_iconst d_Ip_delivered_2 (v := 0) (by decide) ?_
  refine y_istore_n (lv' := [(3, .int 0), (1, .long 0), (0, .ref (ad 0))]) d_Ip_delivered_3 rfl (by decide) rfl ?_
  refine y_end (fun wC4 hC4 => ?_)
  obtain rfl := z_I.same hJ hC4
  exact L_Q_delivered_4 g hI  (u.1 1 + 1) 0 0 (Nat.zero_le _) (by omega) 
theorem d_Ip_goodShare_59 : decode prog_1_method_49_code 59 = .ok (.aload_n 0, 1) := zo_42 (zd_b zq_prog_1_method_49_code_1 27 rfl rfl rfl)
theorem d_Ip_goodShare_60 : decode prog_1_method_49_code 60 = .ok (.invokevirtual 491, 3) := zo_182 (d := 1) (e := 235) (zd_b zq_prog_1_method_49_code_1 28 rfl rfl rfl) (zd_b zq_prog_1_method_49_code_1 29 rfl rfl rfl) (zd_b zq_prog_1_method_49_code_1 30 rfl rfl rfl)
theorem ok_Ip_goodShare_Ip_delivered : z_ok M_Ip_goodShare M_Ip_delivered 0 := ⟨z_mj2 (i := 176) rfl (by decide +kernel), rfl, ⟨by decide +kernel, by decide +kernel, by decide +kernel⟩, ⟨by decide, by decide⟩, z_mj1 (i := 1) rfl (by decide +kernel), rfl⟩
theorem ln_Ip_491 : Cond.methodLink "Ironpour" 491 M_Ip_delivered.1 ∈ z_gw := z_mj7 (i := 66) rfl (by decide +kernel)
theorem w_im_Ip_delivered : Cond.instanceMethod M_Ip_delivered.1 ∈ z_gw := z_mj2 (i := 174) rfl (by decide +kernel)
theorem w_se_Ip_delivered : Cond.selects M_Ip_delivered.1.cls M_Ip_delivered.1 M_Ip_delivered.1 ∈ z_gw := z_mj2 (i := 175) rfl (by decide +kernel)
theorem d_Ip_goodShare_63 : decode prog_1_method_49_code 63 = .ok (.l2f, 1) := zo_137 (zd_b zq_prog_1_method_49_code_1 31 rfl rfl rfl)
theorem d_Ip_goodShare_64 : decode prog_1_method_49_code 64 = .ok (.lload_n 1, 1) := zo_31 (zd_b zq_prog_1_method_49_code_2 0 rfl rfl rfl)
theorem d_Ip_goodShare_65 : decode prog_1_method_49_code 65 = .ok (.l2f, 1) := zo_137 (zd_b zq_prog_1_method_49_code_2 1 rfl rfl rfl)
theorem d_Ip_goodShare_66 : decode prog_1_method_49_code 66 = .ok (.fdiv, 1) := zo_110 (zd_b zq_prog_1_method_49_code_2 2 rfl rfl rfl)
theorem d_Ip_goodShare_67 : decode prog_1_method_49_code 67 = .ok (.freturn, 1) := zo_174 (zd_b zq_prog_1_method_49_code_2 3 rfl rfl rfl)
theorem d_Ip_goodShare_15 : decode prog_1_method_49_code 15 = .ok (.lload_n 1, 1) := zo_31 (zd_b zq_prog_1_method_49_code_0 15 rfl rfl rfl)
theorem d_Ip_goodShare_16 : decode prog_1_method_49_code 16 = .ok (.aload_n 0, 1) := zo_42 (zd_b zq_prog_1_method_49_code_0 16 rfl rfl rfl)
theorem d_Ip_goodShare_17 : decode prog_1_method_49_code 17 = .ok (.getfield 78, 3) := zo_180 (d := 0) (e := 78) (zd_b zq_prog_1_method_49_code_0 17 rfl rfl rfl) (zd_b zq_prog_1_method_49_code_0 18 rfl rfl rfl) (zd_b zq_prog_1_method_49_code_0 19 rfl rfl rfl)
theorem d_Ip_goodShare_20 : decode prog_1_method_49_code 20 = .ok (.iload_n 3, 1) := zo_29 (zd_b zq_prog_1_method_49_code_0 20 rfl rfl rfl)
theorem d_Ip_goodShare_21 : decode prog_1_method_49_code 21 = .ok (.invokevirtual 344, 3) := zo_182 (d := 1) (e := 88) (zd_b zq_prog_1_method_49_code_0 21 rfl rfl rfl) (zd_b zq_prog_1_method_49_code_0 22 rfl rfl rfl) (zd_b zq_prog_1_method_49_code_0 23 rfl rfl rfl)
theorem ok_Ip_goodShare_AL_get : z_ok M_Ip_goodShare M_AL_get 1 := ⟨z_mj2 (i := 180) rfl (by decide +kernel), rfl, ⟨by decide +kernel, by decide +kernel, by decide +kernel⟩, ⟨by decide, by decide⟩, z_mj1 (i := 13) rfl (by decide +kernel), rfl⟩
theorem d_Ip_goodShare_24 : decode prog_1_method_49_code 24 = .ok (.checkcast 441, 3) := zo_192 (d := 1) (e := 185) (zd_b zq_prog_1_method_49_code_0 24 rfl rfl rfl) (zd_b zq_prog_1_method_49_code_0 25 rfl rfl rfl) (zd_b zq_prog_1_method_49_code_0 26 rfl rfl rfl)
theorem d_Ip_goodShare_27 : decode prog_1_method_49_code 27 = .ok (.getfield 450, 3) := zo_180 (d := 1) (e := 194) (zd_b zq_prog_1_method_49_code_0 27 rfl rfl rfl) (zd_b zq_prog_1_method_49_code_0 28 rfl rfl rfl) (zd_b zq_prog_1_method_49_code_0 29 rfl rfl rfl)
theorem d_Ip_goodShare_30 : decode prog_1_method_49_code 30 = .ok (.getfield 269, 3) := zo_180 (d := 1) (e := 13) (zd_b zq_prog_1_method_49_code_0 30 rfl rfl rfl) (zd_b zq_prog_1_method_49_code_0 31 rfl rfl rfl) (zd_b zq_prog_1_method_49_code_1 0 rfl rfl rfl)
theorem d_Ip_goodShare_33 : decode prog_1_method_49_code 33 = .ok (.i2l, 1) := zo_133 (zd_b zq_prog_1_method_49_code_1 1 rfl rfl rfl)
theorem d_Ip_goodShare_34 : decode prog_1_method_49_code 34 = .ok (.ladd, 1) := zo_97 (zd_b zq_prog_1_method_49_code_1 2 rfl rfl rfl)
theorem d_Ip_goodShare_35 : decode prog_1_method_49_code 35 = .ok (.lstore_n 1, 1) := zo_64 (zd_b zq_prog_1_method_49_code_1 3 rfl rfl rfl)
theorem d_Ip_goodShare_36 : decode prog_1_method_49_code 36 = .ok (.iinc 3 1, 3) := by decide +kernel
theorem d_Ip_goodShare_39 : decode prog_1_method_49_code 39 = .ok (.goto (-35), 3) := zo_167 (d := 255) (e := 221) (zd_b zq_prog_1_method_49_code_1 7 rfl rfl rfl) (zd_b zq_prog_1_method_49_code_1 8 rfl rfl rfl) (zd_b zq_prog_1_method_49_code_1 9 rfl rfl rfl) (by decide +kernel)
set_option maxHeartbeats 4000000 in
set_option maxRecDepth 100000 in
theorem L_Q_Ip_goodShare_4 (g : zG) {ad : Nat → Nat} {t : zTT} {u : zNN} {w : zW} (hI : IV g ad t u w) : ∀ (d i : Nat) (s9 : Int64), i ≤ u.1 1 → u.1 1 < i + d → DW g M_Ip_goodShare (fun o w1 => ((∃ v : UInt32, o = .inl (some (.float v)) ∧ Jvm.FP.Core.fIsNaN v = false) ∨ o = .inr "java/lang/ArithmeticException") ∧ IV g ad t u w1) w 4 [(3, .int (nI i)), (1, .long s9), (0, .ref (ad 0))] [] 1 6 := by
  intro d
  induction d with
  | zero => intro i s9 h1 h2 ; exact absurd h2 (by omega)
  | succ d ih =>
    intro i s9 h1 h2 
    obtain ⟨e_a, wf_a, k_a⟩ := hI.1.2 0 (by decide)
    obtain rfl := kd_0.mp k_a
    have h33 := hI.n5 1 (by decide)
    have hJ := hI.1.I [0] [((ad 0), .inr (11, [.ref (ad 1), .ref (ad 5), .ref (ad 18), .ref (ad 31), .ref (ad 32), .ref (ad 36), .ref (ad 42), .ref (ad 45), .ref (ad 47), .ref (ad 49), .ref (ad 50), .ref (ad 51)]))] rfl (by decide) (by decide) (List.forall_mem_cons.mpr ⟨wf_a, (fun _ h => nomatch h)⟩)
    refine y_base hJ ?_
    refine y_iload_n d_Ip_goodShare_4 rfl 0 rfl ?_
    refine y_aload_n d_Ip_goodShare_5 rfl 2 rfl ?_
    refine y_get fs_Ip_78 d_Ip_goodShare_6 (q0 := 0) rfl rfl ?_
    refine yw_callVL (As := []) (rest := [.int (nI i)]) (ci := 13) rfl (fun wA hA => ((hI.gen (t2 := t) (is := [0]) (L2 := []) hA rfl ⟨kd_0.mpr rfl, trivial⟩ (by decide) (by decide) (fun _ h => nomatch h) (fun _ h => nomatch h) (fun _ _ _ => rfl) (fun h => h) rfl).2.1.1 1 (by decide)).ob) ln_Ip_341 w_im_AL_size w_se_AL_size ok_Ip_goodShare_AL_size d_Ip_goodShare_9 (fun wA hA => Q_size ((hI.gen (t2 := t) (is := [0]) (L2 := []) hA rfl ⟨kd_0.mpr rfl, trivial⟩ (by decide) (by decide) (fun _ h => nomatch h) (fun _ h => nomatch h) (fun _ _ _ => rfl) (fun h => h) rfl).2.1.1 1 (by decide))) rfl rfl (Nat.le_of_ble_eq_true rfl) (by omega) (by omega) (fun wA9 hA9 E wB9 hx => ?_) (fun wA9 hA9 v wB9 hx => ?_)
    · exact absurd hx.1 (by simp)
    · obtain ⟨e1, e2⟩ := hx
      cases e1
      refine yw_st (st2 := [.int (nI (u.1 1)), .int (nI i)]) rfl ?_
      subst e2
      refine y_go hA9 ?_
      refine y_icmp_ge (tgt := 42) d_Ip_goodShare_12 (by decide) (fun c_12 => ?_) (fun c_12 => ?_)
      · have hn := z_le (a := (u.1 1)) (b := i) (by omega) (by omega) c_12
        refine y_lload_n d_Ip_goodShare_42 rfl 1 rfl ?_
        refine y_lconst d_Ip_goodShare_43 (v := 0) (by decide) ?_
        refine y_lcmp d_Ip_goodShare_44 (v := lg_cmp s9 0) rfl ?_
        refine y_if_ne (tgt := 59) d_Ip_goodShare_45 (by decide) (fun c_45 => ?_) (fun c_45 => ?_)
        · refine y_aload_n d_Ip_goodShare_59 rfl 2 rfl ?_
          refine yw_callV (As := []) (rest := []) (q0 := 0) rfl rfl ln_Ip_491 w_im_Ip_delivered w_se_Ip_delivered ok_Ip_goodShare_Ip_delivered d_Ip_goodShare_60 (fun wA hA => Q_delivered (hI.gen (t2 := t) (is := [0]) (L2 := []) hA rfl ⟨kd_0.mpr rfl, trivial⟩ (by decide) (by decide) (fun _ h => nomatch h) (fun _ h => nomatch h) (fun _ _ _ => rfl) (fun h => h) rfl)) rfl rfl (Nat.le_of_ble_eq_true rfl) (by omega) (by omega) (fun wA60 hA60 E wB60 hx => ?_) (fun wA60 hA60 v wB60 hx => ?_)
          · exact absurd hx.1 (by simp)
          · obtain ⟨⟨d9, e1⟩, e2⟩ := hx
            cases e1
            refine yw_st (st2 := [.long d9]) rfl ?_
            subst e2
            refine y_go hA60 ?_
            refine y_l2f d_Ip_goodShare_63 ?_
            refine y_lload_n d_Ip_goodShare_64 rfl 1 rfl ?_
            refine y_l2f d_Ip_goodShare_65 ?_
            refine y_fdiv d_Ip_goodShare_66 (vf_n32_of (nan_fdiv (fun q => c_45 (by rw [q]; rfl)))) ?_
            refine y_fret d_Ip_goodShare_67 rfl ?_
            exact fun w1 h1 => ⟨Or.inl ⟨_, rfl, nan_fdiv (fun q => c_45 (by rw [q]; rfl))⟩, (hI.gen (t2 := t) (is := [0]) (L2 := []) h1 rfl ⟨kd_0.mpr rfl, trivial⟩ (by decide) (by decide) (fun _ h => nomatch h) (fun _ h => nomatch h) (fun _ _ _ => rfl) (fun h => h) rfl)⟩
        · refine y_throwW tb_Ip_486_490 sr_Ip_488 d_Ip_goodShare_48 d_Ip_goodShare_51 d_Ip_goodShare_52 d_Ip_goodShare_55 d_Ip_goodShare_58 rfl (by decide) (by decide) (Nat.le_of_ble_eq_true rfl) (by omega) (by omega) ?_
          exact fun w1 h1 => ⟨Or.inr rfl, (hI.gen (t2 := t) (is := [0]) (L2 := []) h1 rfl ⟨kd_0.mpr rfl, trivial⟩ (by decide) (by decide) (fun _ h => nomatch h) (fun _ h => nomatch h) (fun _ _ _ => rfl) (fun h => h) rfl)⟩
      · have hn := z_nle (a := (u.1 1)) (b := i) (by omega) (by omega) c_12
        refine y_lload_n d_Ip_goodShare_15 rfl 1 rfl ?_
        refine y_aload_n d_Ip_goodShare_16 rfl 2 rfl ?_
        refine y_get fs_Ip_78 d_Ip_goodShare_17 (q0 := 0) rfl rfl ?_
        refine y_iload_n d_Ip_goodShare_20 rfl 0 rfl ?_
        refine yw_callVL (As := [.int (nI i)]) (rest := [.long s9]) (ci := 13) rfl (fun wA hA => ((hI.gen (t2 := t) (is := [0]) (L2 := []) hA rfl ⟨kd_0.mpr rfl, trivial⟩ (by decide) (by decide) (fun _ h => nomatch h) (fun _ h => nomatch h) (fun _ _ _ => rfl) (fun h => h) rfl).2.1.1 1 (by decide)).ob) ln_Ip_344 w_im_AL_get w_se_AL_get ok_Ip_goodShare_AL_get d_Ip_goodShare_21 (fun wA hA => Q_get ((hI.gen (t2 := t) (is := [0]) (L2 := []) hA rfl ⟨kd_0.mpr rfl, trivial⟩ (by decide) (by decide) (fun _ h => nomatch h) (fun _ h => nomatch h) (fun _ _ _ => rfl) (fun h => h) rfl).2.1.1 1 (by decide)) hn) rfl rfl (Nat.le_of_ble_eq_true rfl) (by omega) (by omega) (fun wA21 hA21 E wB21 hx => ?_) (fun wA21 hA21 v wB21 hx => ?_)
        · exact absurd hx.1 (by simp)
        · obtain ⟨e1, e2⟩ := hx
          cases e1
          refine yw_st (st2 := [.ref (u.2.2 1 i), .long s9]) rfl ?_
          subst e2
          refine y_go hA21 ?_
          refine y_end (fun wC1 hC1 => ?_)
          obtain rfl := z_I.same hJ hC1
          obtain ⟨nf_c, me_c, gr_c, hw_c, nfm_c, hwm_c, nfg_c, hwg_c⟩ := hI.2.1.2.1 1 (by decide) i hn
          have hJ := z_I.kd (cs := [((ad 0), .inr (11, [.ref (ad 1), .ref (ad 5), .ref (ad 18), .ref (ad 31), .ref (ad 32), .ref (ad 36), .ref (ad 42), .ref (ad 45), .ref (ad 47), .ref (ad 49), .ref (ad 50), .ref (ad 51)])), ((u.2.2 1 i), .inr (0, [.ref me_c, .int ((t.2 1 i).1 0), .int ((t.2 1 i).1 1), .int ((t.2 1 i).1 2), .int ((t.2 1 i).1 3), .int ((t.2 1 i).1 4)])), (me_c, .inr (6, [.ref gr_c, .int ((t.2 1 i).1 5)])), (gr_c, .inl (3, 4, .inr (.inl ((t.2 1 i).2.2.1))))]) (List.forall_mem_cons.mpr ⟨wf_a, (List.forall_mem_cons.mpr ⟨hw_c, (List.forall_mem_cons.mpr ⟨hwm_c, (List.forall_mem_cons.mpr ⟨hwg_c, (fun _ h => nomatch h)⟩)⟩)⟩)⟩) (by simp [z_kd])
          refine y_base hJ ?_
          refine y_castO lk_Ip_441 d_Ip_goodShare_24 (q0 := 1) rfl rfl ?_
          refine y_get fs_Ip_450 d_Ip_goodShare_27 (q0 := 1) rfl rfl ?_
          refine y_get fs_Ip_269 d_Ip_goodShare_30 (q0 := 2) rfl rfl ?_
          refine y_i2l d_Ip_goodShare_33 (v := ((t.2 1 i).1 5).toInt64) rfl ?_
          refine y_ladd d_Ip_goodShare_34 (v := s9 + (((t.2 1 i).1 5).toInt64)) rfl ?_
          refine y_lstore_n (lv' := [(1, .long (s9 + (((t.2 1 i).1 5).toInt64))), (3, .int (nI i)), (0, .ref (ad 0))]) d_Ip_goodShare_35 rfl (by decide) rfl ?_
          refine y_iinc (lv' := [(3, .int (nI (i + 1))), (1, .long (s9 + (((t.2 1 i).1 5).toInt64))), (0, .ref (ad 0))]) (v := nI (i + 1)) d_Ip_goodShare_36 (j := 1) rfl (nI_add _ _) (by decide) rfl ?_
          refine y_goto (tgt := 4) d_Ip_goodShare_39 (by decide) ?_
          refine y_end (fun wC2 hC2 => ?_)
          obtain rfl := z_I.same hJ hC2
          exact ih (i + 1) _ (by omega) (by omega) 
set_option maxHeartbeats 4000000 in
set_option maxRecDepth 100000 in
theorem Q_Ip_goodShare {g : zG} {ad : Nat → Nat} {t : zTT} {u : zNN} {w : zW} (hI : IV g ad t u w) : zMB g M_Ip_goodShare [.ref (ad 0)] w (fun o w1 => ((∃ v : UInt32, o = .inl (some (.float v)) ∧ Jvm.FP.Core.fIsNaN v = false) ∨ o = .inr "java/lang/ArithmeticException") ∧ IV g ad t u w1) 1 6 := by
  obtain ⟨e_a, wf_a, k_a⟩ := hI.1.2 0 (by decide)
  obtain rfl := kd_0.mp k_a
  have hJ := hI.1.I [0] [((ad 0), .inr (11, [.ref (ad 1), .ref (ad 5), .ref (ad 18), .ref (ad 31), .ref (ad 32), .ref (ad 36), .ref (ad 42), .ref (ad 45), .ref (ad 47), .ref (ad 49), .ref (ad 50), .ref (ad 51)]))] rfl (by decide) (by decide) (List.forall_mem_cons.mpr ⟨wf_a, (fun _ h => nomatch h)⟩)
  refine y_of (by decide) rfl (Nat.le_of_ble_eq_true rfl) (y_base (cs := [((ad 0), .inr (11, [.ref (ad 1), .ref (ad 5), .ref (ad 18), .ref (ad 31), .ref (ad 32), .ref (ad 36), .ref (ad 42), .ref (ad 45), .ref (ad 47), .ref (ad 49), .ref (ad 50), .ref (ad 51)]))]) hJ ?_)
  refine y_lvE (lv2 := [(0, .ref (ad 0))]) rfl ?_
  refine y_lconst d_Ip_goodShare_0 (v := 0) (by decide) ?_
  refine y_lstore_n (lv' := [(1, .long 0), (0, .ref (ad 0))]) d_Ip_goodShare_1 rfl (by decide) rfl ?_
  refine y_iconst d_Ip_goodShare_2 (v := 0) (by decide) ?_
  refine y_istore_n (lv' := [(3, .int 0), (1, .long 0), (0, .ref (ad 0))]) d_Ip_goodShare_3 rfl (by decide) rfl ?_
  refine y_end (fun wC3 hC3 => ?_)
  obtain rfl := z_I.same hJ hC3
  exact L_Q_Ip_goodShare_4 g hI  (u.1 1 + 1) 0 0 (Nat.zero_le _) (by omega) 
theorem d_Ip_meanBar_28 : decode prog_1_method_50_code 28 = .ok (.iload 4, 2) := zo_21 (d := 4) (zd_b zq_prog_1_method_50_code_0 28 rfl rfl rfl) (zd_b zq_prog_1_method_50_code_0 29 rfl rfl rfl)
theorem d_Ip_meanBar_30 : decode prog_1_method_50_code 30 = .ok (.iload_n 1, 1) := zo_27 (zd_b zq_prog_1_method_50_code_0 30 rfl rfl rfl)
theorem d_Ip_meanBar_31 : decode prog_1_method_50_code 31 = .ok (.if_icmp .ge 28, 3) := zo_162 (d := 0) (e := 28) (zd_b zq_prog_1_method_50_code_0 31 rfl rfl rfl) (zd_b zq_prog_1_method_50_code_1 0 rfl rfl rfl) (zd_b zq_prog_1_method_50_code_1 1 rfl rfl rfl) (by decide +kernel)
theorem d_Ip_meanBar_59 : decode prog_1_method_50_code 59 = .ok (.lload_n 2, 1) := zo_32 (zd_b zq_prog_1_method_50_code_1 27 rfl rfl rfl)
theorem d_Ip_meanBar_60 : decode prog_1_method_50_code 60 = .ok (.l2d, 1) := zo_138 (zd_b zq_prog_1_method_50_code_1 28 rfl rfl rfl)
theorem d_Ip_meanBar_61 : decode prog_1_method_50_code 61 = .ok (.iload_n 1, 1) := zo_27 (zd_b zq_prog_1_method_50_code_1 29 rfl rfl rfl)
theorem d_Ip_meanBar_62 : decode prog_1_method_50_code 62 = .ok (.i2d, 1) := zo_135 (zd_b zq_prog_1_method_50_code_1 30 rfl rfl rfl)
theorem d_Ip_meanBar_63 : decode prog_1_method_50_code 63 = .ok (.ddiv, 1) := zo_111 (zd_b zq_prog_1_method_50_code_1 31 rfl rfl rfl)
theorem d_Ip_meanBar_64 : decode prog_1_method_50_code 64 = .ok (.dreturn, 1) := zo_175 (zd_b zq_prog_1_method_50_code_2 0 rfl rfl rfl)
theorem d_Ip_meanBar_34 : decode prog_1_method_50_code 34 = .ok (.lload_n 2, 1) := zo_32 (zd_b zq_prog_1_method_50_code_1 2 rfl rfl rfl)
theorem d_Ip_meanBar_35 : decode prog_1_method_50_code 35 = .ok (.aload_n 0, 1) := zo_42 (zd_b zq_prog_1_method_50_code_1 3 rfl rfl rfl)
theorem d_Ip_meanBar_36 : decode prog_1_method_50_code 36 = .ok (.getfield 78, 3) := zo_180 (d := 0) (e := 78) (zd_b zq_prog_1_method_50_code_1 4 rfl rfl rfl) (zd_b zq_prog_1_method_50_code_1 5 rfl rfl rfl) (zd_b zq_prog_1_method_50_code_1 6 rfl rfl rfl)
theorem d_Ip_meanBar_39 : decode prog_1_method_50_code 39 = .ok (.iload 4, 2) := zo_21 (d := 4) (zd_b zq_prog_1_method_50_code_1 7 rfl rfl rfl) (zd_b zq_prog_1_method_50_code_1 8 rfl rfl rfl)
theorem d_Ip_meanBar_41 : decode prog_1_method_50_code 41 = .ok (.invokevirtual 344, 3) := zo_182 (d := 1) (e := 88) (zd_b zq_prog_1_method_50_code_1 9 rfl rfl rfl) (zd_b zq_prog_1_method_50_code_1 10 rfl rfl rfl) (zd_b zq_prog_1_method_50_code_1 11 rfl rfl rfl)
theorem ok_Ip_meanBar_AL_get : z_ok M_Ip_meanBar M_AL_get 1 := ⟨z_mj2 (i := 180) rfl (by decide +kernel), rfl, ⟨by decide +kernel, by decide +kernel, by decide +kernel⟩, ⟨by decide, by decide⟩, z_mj1 (i := 13) rfl (by decide +kernel), rfl⟩
theorem d_Ip_meanBar_44 : decode prog_1_method_50_code 44 = .ok (.checkcast 441, 3) := zo_192 (d := 1) (e := 185) (zd_b zq_prog_1_method_50_code_1 12 rfl rfl rfl) (zd_b zq_prog_1_method_50_code_1 13 rfl rfl rfl) (zd_b zq_prog_1_method_50_code_1 14 rfl rfl rfl)
theorem d_Ip_meanBar_47 : decode prog_1_method_50_code 47 = .ok (.invokevirtual 453, 3) := zo_182 (d := 1) (e := 197) (zd_b zq_prog_1_method_50_code_1 15 rfl rfl rfl) (zd_b zq_prog_1_method_50_code_1 16 rfl rfl rfl) (zd_b zq_prog_1_method_50_code_1 17 rfl rfl rfl)
theorem ok_Ip_meanBar_Ca_barBears : z_ok M_Ip_meanBar M_Ca_barBears 0 := ⟨z_mj6 (i := 227) rfl (by decide +kernel), rfl, ⟨by decide +kernel, by decide +kernel, by decide +kernel⟩, ⟨by decide, by decide⟩, z_mj1 (i := 35) rfl (by decide +kernel), rfl⟩
theorem d_Ip_meanBar_50 : decode prog_1_method_50_code 50 = .ok (.i2l, 1) := zo_133 (zd_b zq_prog_1_method_50_code_1 18 rfl rfl rfl)
theorem d_Ip_meanBar_51 : decode prog_1_method_50_code 51 = .ok (.ladd, 1) := zo_97 (zd_b zq_prog_1_method_50_code_1 19 rfl rfl rfl)
theorem d_Ip_meanBar_52 : decode prog_1_method_50_code 52 = .ok (.lstore_n 2, 1) := zo_65 (zd_b zq_prog_1_method_50_code_1 20 rfl rfl rfl)
theorem d_Ip_meanBar_53 : decode prog_1_method_50_code 53 = .ok (.iinc 4 1, 3) := by decide +kernel
theorem d_Ip_meanBar_56 : decode prog_1_method_50_code 56 = .ok (.goto (-28), 3) := zo_167 (d := 255) (e := 228) (zd_b zq_prog_1_method_50_code_1 24 rfl rfl rfl) (zd_b zq_prog_1_method_50_code_1 25 rfl rfl rfl) (zd_b zq_prog_1_method_50_code_1 26 rfl rfl rfl) (by decide +kernel)
theorem d_Ip_meanBar_23 : decode prog_1_method_50_code 23 = .ok (.lconst 0, 1) := zo_9 (zd_b zq_prog_1_method_50_code_0 23 rfl rfl rfl)
theorem d_Ip_meanBar_24 : decode prog_1_method_50_code 24 = .ok (.lstore_n 2, 1) := zo_65 (zd_b zq_prog_1_method_50_code_0 24 rfl rfl rfl)
theorem d_Ip_meanBar_25 : decode prog_1_method_50_code 25 = .ok (.iconst 0, 1) := zo_3 (zd_b zq_prog_1_method_50_code_0 25 rfl rfl rfl)
theorem d_Ip_meanBar_26 : decode prog_1_method_50_code 26 = .ok (.istore 4, 2) := zo_54 (d := 4) (zd_b zq_prog_1_method_50_code_0 26 rfl rfl rfl) (zd_b zq_prog_1_method_50_code_0 27 rfl rfl rfl)
set_option maxHeartbeats 4000000 in
set_option maxRecDepth 100000 in
theorem L_Q_Ip_meanBar_28 (g : zG) {ad : Nat → Nat} {t : zTT} {u : zNN} {w : zW} (hI : IV g ad t u w) : ∀ (d i : Nat) (s9 : Int64) (h0 : ¬ nI (u.1 1) = 0), i ≤ u.1 1 → u.1 1 < i + d → DW g M_Ip_meanBar (fun o w1 => ((∃ v : UInt64, o = .inl (some (.double v))) ∨ o = .inr "java/lang/ArithmeticException") ∧ IV g ad t u w1) w 28 [(4, .int (nI i)), (2, .long s9), (0, .ref (ad 0)), (1, .int (nI (u.1 1)))] [] 1 6 := by
  intro d
  induction d with
  | zero => intro i s9 h0 h1 h2 ; exact absurd h2 (by omega)
  | succ d ih =>
    intro i s9 h0 h1 h2 
    obtain ⟨e_a, wf_a, k_a⟩ := hI.1.2 0 (by decide)
    obtain rfl := kd_0.mp k_a
    have h33 := hI.n5 1 (by decide)
    have hJ := hI.1.I [0] [((ad 0), .inr (11, [.ref (ad 1), .ref (ad 5), .ref (ad 18), .ref (ad 31), .ref (ad 32), .ref (ad 36), .ref (ad 42), .ref (ad 45), .ref (ad 47), .ref (ad 49), .ref (ad 50), .ref (ad 51)]))] rfl (by decide) (by decide) (List.forall_mem_cons.mpr ⟨wf_a, (fun _ h => nomatch h)⟩)
    refine y_base hJ ?_
    refine y_iload d_Ip_meanBar_28 0 rfl ?_
    refine y_iload_n d_Ip_meanBar_30 rfl 3 rfl ?_
    refine y_icmp_ge (tgt := 59) d_Ip_meanBar_31 (by decide) (fun c_31 => ?_) (fun c_31 => ?_)
    · have hn := z_le (a := (u.1 1)) (b := i) (by omega) (by omega) c_31
      refine y_lload_n d_Ip_meanBar_59 rfl 1 rfl ?_
      refine y_l2d d_Ip_meanBar_60 ?_
      refine y_iload_n d_Ip_meanBar_61 rfl 3 rfl ?_
      refine y_i2d d_Ip_meanBar_62 ?_
      refine y_ddiv d_Ip_meanBar_63 (vf_n64_of (nan_ddL h0)) ?_
      refine y_dret d_Ip_meanBar_64 rfl ?_
      exact fun w1 h1 => ⟨Or.inl ⟨_, rfl⟩, (hI.gen (t2 := t) (is := [0]) (L2 := []) h1 rfl ⟨kd_0.mpr rfl, trivial⟩ (by decide) (by decide) (fun _ h => nomatch h) (fun _ h => nomatch h) (fun _ _ _ => rfl) (fun h => h) rfl)⟩
    · have hn := z_nle (a := (u.1 1)) (b := i) (by omega) (by omega) c_31
      refine y_lload_n d_Ip_meanBar_34 rfl 1 rfl ?_
      refine y_aload_n d_Ip_meanBar_35 rfl 2 rfl ?_
      refine y_get fs_Ip_78 d_Ip_meanBar_36 (q0 := 0) rfl rfl ?_
      refine y_iload d_Ip_meanBar_39 0 rfl ?_
      refine yw_callVL (As := [.int (nI i)]) (rest := [.long s9]) (ci := 13) rfl (fun wA hA => ((hI.gen (t2 := t) (is := [0]) (L2 := []) hA rfl ⟨kd_0.mpr rfl, trivial⟩ (by decide) (by decide) (fun _ h => nomatch h) (fun _ h => nomatch h) (fun _ _ _ => rfl) (fun h => h) rfl).2.1.1 1 (by decide)).ob) ln_Ip_344 w_im_AL_get w_se_AL_get ok_Ip_meanBar_AL_get d_Ip_meanBar_41 (fun wA hA => Q_get ((hI.gen (t2 := t) (is := [0]) (L2 := []) hA rfl ⟨kd_0.mpr rfl, trivial⟩ (by decide) (by decide) (fun _ h => nomatch h) (fun _ h => nomatch h) (fun _ _ _ => rfl) (fun h => h) rfl).2.1.1 1 (by decide)) hn) rfl rfl (Nat.le_of_ble_eq_true rfl) (by omega) (by omega) (fun wA41 hA41 E wB41 hx => ?_) (fun wA41 hA41 v wB41 hx => ?_)
      · exact absurd hx.1 (by simp)
      · obtain ⟨e1, e2⟩ := hx
        cases e1
        refine yw_st (st2 := [.ref (u.2.2 1 i), .long s9]) rfl ?_
        subst e2
        refine y_go hA41 ?_
        refine y_end (fun wC1 hC1 => ?_)
        obtain rfl := z_I.same hJ hC1
        obtain ⟨nf_c, me_c, gr_c, hw_c, nfm_c, hwm_c, nfg_c, hwg_c⟩ := hI.2.1.2.1 1 (by decide) i hn
        have hJ := z_I.kd (cs := [((ad 0), .inr (11, [.ref (ad 1), .ref (ad 5), .ref (ad 18), .ref (ad 31), .ref (ad 32), .ref (ad 36), .ref (ad 42), .ref (ad 45), .ref (ad 47), .ref (ad 49), .ref (ad 50), .ref (ad 51)])), ((u.2.2 1 i), .inr (0, [.ref me_c, .int ((t.2 1 i).1 0), .int ((t.2 1 i).1 1), .int ((t.2 1 i).1 2), .int ((t.2 1 i).1 3), .int ((t.2 1 i).1 4)])), (me_c, .inr (6, [.ref gr_c, .int ((t.2 1 i).1 5)])), (gr_c, .inl (3, 4, .inr (.inl ((t.2 1 i).2.2.1))))]) (List.forall_mem_cons.mpr ⟨wf_a, (List.forall_mem_cons.mpr ⟨hw_c, (List.forall_mem_cons.mpr ⟨hwm_c, (List.forall_mem_cons.mpr ⟨hwg_c, (fun _ h => nomatch h)⟩)⟩)⟩)⟩) (by simp [z_kd])
        refine y_base hJ ?_
        refine y_castO lk_Ip_441 d_Ip_meanBar_44 (q0 := 1) rfl rfl ?_
        refine y_callV (As := []) (rest := [.long s9]) (csC := [((u.2.2 1 i), .inr (0, [.ref me_c, .int ((t.2 1 i).1 0), .int ((t.2 1 i).1 1), .int ((t.2 1 i).1 2), .int ((t.2 1 i).1 3), .int ((t.2 1 i).1 4)])), (me_c, .inr (6, [.ref gr_c, .int ((t.2 1 i).1 5)])), (gr_c, .inl (3, 4, .inr (.inl ((t.2 1 i).2.2.1))))]) (is := [1, 2, 3]) (q0 := 1) rfl rfl ln_Ip_453 w_im_Ca_barBears w_se_Ca_barBears ok_Ip_meanBar_Ca_barBears d_Ip_meanBar_47 (C_Ca_barBears g (u.2.2 1 i) me_c gr_c ((t.2 1 i).2.2.1) ((t.2 1 i).1 5) ((t.2 1 i).1 0) ((t.2 1 i).1 1) ((t.2 1 i).1 2) ((t.2 1 i).1 3) ((t.2 1 i).1 4)) rfl rfl (Nat.le_of_ble_eq_true rfl) rfl (by decide) (by omega) (by omega) (fun E cs1 hx => ?_) (fun v cs1 hx => ?_)
        · exact absurd hx.1 (by simp)
        · obtain ⟨e1, rfl⟩ := hx
          cases e1
          refine ⟨rfl, ?_⟩
          refine y_st (st2 := [.int (bbI ((t.2 1 i).1 0) ((t.2 1 i).2.2.1) ((t.2 1 i).1 5) ((t.2 1 i).1 2)), .long s9]) rfl ?_
          refine y_cs (cs2 := [((ad 0), .inr (11, [.ref (ad 1), .ref (ad 5), .ref (ad 18), .ref (ad 31), .ref (ad 32), .ref (ad 36), .ref (ad 42), .ref (ad 45), .ref (ad 47), .ref (ad 49), .ref (ad 50), .ref (ad 51)])), ((u.2.2 1 i), .inr (0, [.ref me_c, .int ((t.2 1 i).1 0), .int ((t.2 1 i).1 1), .int ((t.2 1 i).1 2), .int ((t.2 1 i).1 3), .int ((t.2 1 i).1 4)])), (me_c, .inr (6, [.ref gr_c, .int ((t.2 1 i).1 5)])), (gr_c, .inl (3, 4, .inr (.inl ((t.2 1 i).2.2.1))))]) rfl ?_
          refine y_i2l d_Ip_meanBar_50 (v := (bbI ((t.2 1 i).1 0) ((t.2 1 i).2.2.1) ((t.2 1 i).1 5) ((t.2 1 i).1 2)).toInt64) rfl ?_
          refine y_ladd d_Ip_meanBar_51 (v := s9 + ((bbI ((t.2 1 i).1 0) ((t.2 1 i).2.2.1) ((t.2 1 i).1 5) ((t.2 1 i).1 2)).toInt64)) rfl ?_
          refine y_lstore_n (lv' := [(2, .long (s9 + ((bbI ((t.2 1 i).1 0) ((t.2 1 i).2.2.1) ((t.2 1 i).1 5) ((t.2 1 i).1 2)).toInt64))), (4, .int (nI i)), (0, .ref (ad 0)), (1, .int (nI (u.1 1)))]) d_Ip_meanBar_52 rfl (by decide) rfl ?_
          refine y_iinc (lv' := [(4, .int (nI (i + 1))), (2, .long (s9 + ((bbI ((t.2 1 i).1 0) ((t.2 1 i).2.2.1) ((t.2 1 i).1 5) ((t.2 1 i).1 2)).toInt64))), (0, .ref (ad 0)), (1, .int (nI (u.1 1)))]) (v := nI (i + 1)) d_Ip_meanBar_53 (j := 1) rfl (nI_add _ _) (by decide) rfl ?_
          refine y_goto (tgt := 28) d_Ip_meanBar_56 (by decide) ?_
          refine y_end (fun wC2 hC2 => ?_)
          obtain rfl := z_I.same hJ hC2
          exact ih (i + 1) _ h0 (by omega) (by omega) 
set_option maxHeartbeats 4000000 in
set_option maxRecDepth 100000 in
theorem Q_Ip_meanBar {g : zG} {ad : Nat → Nat} {t : zTT} {u : zNN} {w : zW} (hI : IV g ad t u w) : zMB g M_Ip_meanBar [.ref (ad 0)] w (fun o w1 => ((∃ v : UInt64, o = .inl (some (.double v))) ∨ o = .inr "java/lang/ArithmeticException") ∧ IV g ad t u w1) 1 6 := by
  obtain ⟨e_a, wf_a, k_a⟩ := hI.1.2 0 (by decide)
  obtain rfl := kd_0.mp k_a
  have hJ := hI.1.I [0] [((ad 0), .inr (11, [.ref (ad 1), .ref (ad 5), .ref (ad 18), .ref (ad 31), .ref (ad 32), .ref (ad 36), .ref (ad 42), .ref (ad 45), .ref (ad 47), .ref (ad 49), .ref (ad 50), .ref (ad 51)]))] rfl (by decide) (by decide) (List.forall_mem_cons.mpr ⟨wf_a, (fun _ h => nomatch h)⟩)
  refine y_of (by decide) rfl (Nat.le_of_ble_eq_true rfl) (y_base (cs := [((ad 0), .inr (11, [.ref (ad 1), .ref (ad 5), .ref (ad 18), .ref (ad 31), .ref (ad 32), .ref (ad 36), .ref (ad 42), .ref (ad 45), .ref (ad 47), .ref (ad 49), .ref (ad 50), .ref (ad 51)]))]) hJ ?_)
  refine y_lvE (lv2 := [(0, .ref (ad 0))]) rfl ?_
  refine y_aload_n d_Ip_meanBar_0 rfl 0 rfl ?_
  refine y_get fs_Ip_78 d_Ip_meanBar_1 (q0 := 0) rfl rfl ?_
  refine yw_callVL (As := []) (rest := []) (ci := 13) rfl (fun wA hA => ((hI.gen (t2 := t) (is := [0]) (L2 := []) hA rfl ⟨kd_0.mpr rfl, trivial⟩ (by decide) (by decide) (fun _ h => nomatch h) (fun _ h => nomatch h) (fun _ _ _ => rfl) (fun h => h) rfl).2.1.1 1 (by decide)).ob) ln_Ip_341 w_im_AL_size w_se_AL_size ok_Ip_meanBar_AL_size d_Ip_meanBar_4 (fun wA hA => Q_size ((hI.gen (t2 := t) (is := [0]) (L2 := []) hA rfl ⟨kd_0.mpr rfl, trivial⟩ (by decide) (by decide) (fun _ h => nomatch h) (fun _ h => nomatch h) (fun _ _ _ => rfl) (fun h => h) rfl).2.1.1 1 (by decide))) rfl rfl (Nat.le_of_ble_eq_true rfl) (by omega) (by omega) (fun wA4 hA4 E wB4 hx => ?_) (fun wA4 hA4 v wB4 hx => ?_)
  · exact absurd hx.1 (by simp)
  · obtain ⟨e1, e2⟩ := hx
    cases e1
    refine yw_st (st2 := [.int (nI (u.1 1))]) rfl ?_
    subst e2
    refine y_go hA4 ?_
    refine y_istore_n (lv' := [(1, .int (nI (u.1 1))), (0, .ref (ad 0))]) d_Ip_meanBar_7 rfl (by decide) rfl ?_
    refine y_iload_n d_Ip_meanBar_8 rfl 0 rfl ?_
    refine y_if_ne (tgt := 23) d_Ip_meanBar_9 (by decide) (fun c_9 => ?_) (fun c_9 => ?_)
    · refine y_lconst d_Ip_meanBar_23 (v := 0) (by decide) ?_
      refine y_lstore_n (lv' := [(2, .long 0), (1, .int (nI (u.1 1))), (0, .ref (ad 0))]) d_Ip_meanBar_24 rfl (by decide) rfl ?_
      refine y_iconst d_Ip_meanBar_25 (v := 0) (by decide) ?_
      refine y_istore (lv' := [(4, .int 0), (2, .long 0), (1, .int (nI (u.1 1))), (0, .ref (ad 0))]) d_Ip_meanBar_26 (by decide) rfl ?_
      refine y_lv (lv' := [(4, .int 0), (2, .long 0), (0, .ref (ad 0)), (1, .int (nI (u.1 1)))]) [0, 1, 3, 2] rfl ?_
      refine y_end (fun wC3 hC3 => ?_)
      obtain rfl := z_I.same hJ hC3
      exact L_Q_Ip_meanBar_28 g hI  (u.1 1 + 1) 0 0 c_9 (Nat.zero_le _) (by omega) 
    · refine y_throwW tb_Ip_486_490 sr_Ip_495 d_Ip_meanBar_12 d_Ip_meanBar_15 d_Ip_meanBar_16 d_Ip_meanBar_19 d_Ip_meanBar_22 rfl (by decide) (by decide) (Nat.le_of_ble_eq_true rfl) (by omega) (by omega) ?_
      exact fun w1 h1 => ⟨Or.inr rfl, (hI.gen (t2 := t) (is := [0]) (L2 := []) h1 rfl ⟨kd_0.mpr rfl, trivial⟩ (by decide) (by decide) (fun _ h => nomatch h) (fun _ h => nomatch h) (fun _ _ _ => rfl) (fun h => h) rfl)⟩
