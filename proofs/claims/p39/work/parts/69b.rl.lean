theorem z_idx {x : Int32} {n : Nat} (hn : n ≤ 33) : (0 ≤ x ∧ x ≤ nI n - 1) ↔ ∃ k, k < n ∧ x = nI k := by
  constructor
  · intro ⟨h1, h2⟩
    cases n with
    | zero => exact absurd (Int32.le_trans h1 h2) (by decide)
    | succ m =>
      rw [nI_prd] at h2
      obtain ⟨a, ha, e⟩ := z_in20 (b := m) (by omega) ⟨h1, h2⟩
      exact ⟨a, by omega, e⟩
  · intro ⟨k, hk, e⟩
    subst e
    cases n with
    | zero => omega
    | succ m =>
      rw [nI_prd]
      exact ⟨Int32.not_lt.mp (nI_nneg (by omega)), (nI_leI (by omega) (by omega)).mpr (by omega)⟩
theorem IV.n5 {g : zG} {ad : Nat → Nat} {t : zTT} {u : zNN} {w : zW} (h : IV g ad t u w) (L : Nat) (hL : L < 7) : u.1 L ≤ 33 := (h.2.1.1 L hL).n33
theorem IV.c56 {g : zG} {ad : Nat → Nat} {t : zTT} {u : zNN} {w : zW} (h : IV g ad t u w) : u.1 6 = u.1 5 := h.2.1.2.2.2.2.2.2.2.2.2
theorem IV.c34 {g : zG} {ad : Nat → Nat} {t : zTT} {u : zNN} {w : zW} (h : IV g ad t u w) : u.1 4 = u.1 3 := h.2.1.2.2.2.2.2.2.2.1
set_option maxHeartbeats 4000000 in
set_option maxRecDepth 100000 in
theorem Q_noCasting1 {g : zG} {ad : Nat → Nat} {t : zTT} {u : zNN} {w : zW} (hI : IV g ad t u w) (x : Int32) (hx : ¬ ∃ k, k < u.1 5 ∧ x = nI k) : zMB g M_Mm_noCasting [.ref (ad 52), .int x] w (fun o w1 => o = .inl (some (.int 1)) ∧ w1 = w) 0 0 := by
  obtain ⟨e_m, wf_m, k_m⟩ := hI.1.2 52 (by decide)
  obtain ⟨v_m_th, rfl⟩ := kd_52.mp k_m
  have hJ := hI.1.I [52] [((ad 52), .inr (12, [.int v_m_th, .ref (ad 53), .int (nI ((t.1 52).2.2 0)), .ref (ad 54), .ref (ad 55), .ref (ad 56), .ref (ad 57), .ref (ad 58), .ref (ad 59), .ref (ad 60), .ref (ad 61), .int ((t.1 52).1 0), .int ((t.1 52).1 1), .int ((t.1 52).1 2), .int ((t.1 52).1 3), .int ((t.1 52).1 4), .int ((t.1 52).1 5), .ref (ad 62), .ref (ad 63), .ref (ad 64), .int ((t.1 52).1 6), .int ((t.1 52).1 7), .int ((t.1 52).1 8), .int ((t.1 52).1 9), .int ((t.1 52).1 10), .ref (ad 65), .ref (ad 66), .ref (ad 67), .ref (ad 68), .long ((t.1 52).2.1 0), .long ((t.1 52).2.1 1)]))] rfl (by decide) (by decide) (List.forall_mem_cons.mpr ⟨wf_m, (fun _ h => nomatch h)⟩)
  refine y_of (by decide) rfl (Nat.le_of_ble_eq_true rfl) (y_base (cs := [((ad 52), .inr (12, [.int v_m_th, .ref (ad 53), .int (nI ((t.1 52).2.2 0)), .ref (ad 54), .ref (ad 55), .ref (ad 56), .ref (ad 57), .ref (ad 58), .ref (ad 59), .ref (ad 60), .ref (ad 61), .int ((t.1 52).1 0), .int ((t.1 52).1 1), .int ((t.1 52).1 2), .int ((t.1 52).1 3), .int ((t.1 52).1 4), .int ((t.1 52).1 5), .ref (ad 62), .ref (ad 63), .ref (ad 64), .int ((t.1 52).1 6), .int ((t.1 52).1 7), .int ((t.1 52).1 8), .int ((t.1 52).1 9), .int ((t.1 52).1 10), .ref (ad 65), .ref (ad 66), .ref (ad 67), .ref (ad 68), .long ((t.1 52).2.1 0), .long ((t.1 52).2.1 1)]))]) hJ ?_)
  refine y_lvE (lv2 := [(0, .ref (ad 52)), (1, .int x)]) rfl ?_
  refine y_iload_n d_Mm_noCasting_0 rfl 1 rfl ?_
  refine y_iconst d_Mm_noCasting_1 (v := 0) (by decide) ?_
  refine y_aload_n d_Mm_noCasting_2 rfl 0 rfl ?_
  refine y_get fs_Mm_78 d_Mm_noCasting_3 (q0 := 0) rfl rfl ?_
  refine yw_callVL (As := []) (rest := [.int 0, .int x]) (ci := 13) rfl (fun wA hA => ((hI.gen (t2 := t) (is := [52]) (L2 := []) hA rfl ⟨kd_52.mpr ⟨_, rfl⟩, trivial⟩ (by decide) (by decide) (fun _ h => nomatch h) (fun _ h => nomatch h) (fun _ _ _ => rfl) (fun h => h) rfl).2.1.1 5 (by decide)).ob) ln_Mm_208 w_im_AL_size w_se_AL_size ok_Mm_noCasting_AL_size d_Mm_noCasting_6 (fun wA hA => Q_size ((hI.gen (t2 := t) (is := [52]) (L2 := []) hA rfl ⟨kd_52.mpr ⟨_, rfl⟩, trivial⟩ (by decide) (by decide) (fun _ h => nomatch h) (fun _ h => nomatch h) (fun _ _ _ => rfl) (fun h => h) rfl).2.1.1 5 (by decide))) rfl rfl (Nat.le_of_ble_eq_true rfl) (by omega) (by omega) (fun wA6 hA6 E wB6 hx => ?_) (fun wA6 hA6 v wB6 hx => ?_)
  · exact absurd hx.1 (by simp)
  · obtain ⟨e1, e2⟩ := hx
    cases e1
    refine yw_st (st2 := [.int (nI (u.1 5)), .int 0, .int x]) rfl ?_
    subst e2
    refine y_go hA6 ?_
    refine y_iconst d_Mm_noCasting_9 (v := 1) (by decide) ?_
    refine y_isub d_Mm_noCasting_10 (v := nI (u.1 5) - 1) rfl ?_
    refine y_callS (As := [.int x, .int 0, .int (nI (u.1 5) - 1)]) (rest := []) (csC := []) (is := []) ln_Mm_87 w_st_Mm_in ok_Mm_noCasting_Mm_in d_Mm_noCasting_11 (C_Mm_in g x 0 (nI (u.1 5) - 1)) rfl rfl (Nat.le_of_ble_eq_true rfl) rfl (by decide) (by omega) (by omega) (fun E cs1 hx => ?_) (fun v cs1 hx => ?_)
    · exact absurd hx.1 (by simp)
    · obtain ⟨e1, rfl⟩ := hx
      rw [if_neg (fun q => hx ((z_idx (hI.n5 5 (by decide))).mp q))] at e1
      cases e1
      refine ⟨rfl, ?_⟩
      refine y_st (st2 := [.int 0]) rfl ?_
      refine y_cs (cs2 := [((ad 52), .inr (12, [.int v_m_th, .ref (ad 53), .int (nI ((t.1 52).2.2 0)), .ref (ad 54), .ref (ad 55), .ref (ad 56), .ref (ad 57), .ref (ad 58), .ref (ad 59), .ref (ad 60), .ref (ad 61), .int ((t.1 52).1 0), .int ((t.1 52).1 1), .int ((t.1 52).1 2), .int ((t.1 52).1 3), .int ((t.1 52).1 4), .int ((t.1 52).1 5), .ref (ad 62), .ref (ad 63), .ref (ad 64), .int ((t.1 52).1 6), .int ((t.1 52).1 7), .int ((t.1 52).1 8), .int ((t.1 52).1 9), .int ((t.1 52).1 10), .ref (ad 65), .ref (ad 66), .ref (ad 67), .ref (ad 68), .long ((t.1 52).2.1 0), .long ((t.1 52).2.1 1)]))]) rfl ?_
      refine y_if_ne (tgt := 21) d_Mm_noCasting_14 (by decide) (fun c_14 => ?_) (fun c_14 => ?_)
      · exact absurd c_14 (by decide)
      · refine y_iconst d_Mm_noCasting_17 (v := 1) (by decide) ?_
        refine y_goto (tgt := 22) d_Mm_noCasting_18 (by decide) ?_
        refine y_iret d_Mm_noCasting_22 rfl rfl ?_
        exact fun w1 h1 => ⟨rfl, z_I.same hJ h1⟩
theorem d_Mm_noCasting_21 : decode prog_14_method_79_code 21 = .ok (.iconst 0, 1) := zo_3 (zd_b zq_prog_14_method_79_code_0 21 rfl rfl rfl)
set_option maxHeartbeats 4000000 in
set_option maxRecDepth 100000 in
theorem Q_noCasting0 {g : zG} {ad : Nat → Nat} {t : zTT} {u : zNN} {w : zW} (hI : IV g ad t u w) (x : Int32) (hx : ∃ k, k < u.1 5 ∧ x = nI k) : zMB g M_Mm_noCasting [.ref (ad 52), .int x] w (fun o w1 => o = .inl (some (.int 0)) ∧ w1 = w) 0 0 := by
  obtain ⟨e_m, wf_m, k_m⟩ := hI.1.2 52 (by decide)
  obtain ⟨v_m_th, rfl⟩ := kd_52.mp k_m
  have hJ := hI.1.I [52] [((ad 52), .inr (12, [.int v_m_th, .ref (ad 53), .int (nI ((t.1 52).2.2 0)), .ref (ad 54), .ref (ad 55), .ref (ad 56), .ref (ad 57), .ref (ad 58), .ref (ad 59), .ref (ad 60), .ref (ad 61), .int ((t.1 52).1 0), .int ((t.1 52).1 1), .int ((t.1 52).1 2), .int ((t.1 52).1 3), .int ((t.1 52).1 4), .int ((t.1 52).1 5), .ref (ad 62), .ref (ad 63), .ref (ad 64), .int ((t.1 52).1 6), .int ((t.1 52).1 7), .int ((t.1 52).1 8), .int ((t.1 52).1 9), .int ((t.1 52).1 10), .ref (ad 65), .ref (ad 66), .ref (ad 67), .ref (ad 68), .long ((t.1 52).2.1 0), .long ((t.1 52).2.1 1)]))] rfl (by decide) (by decide) (List.forall_mem_cons.mpr ⟨wf_m, (fun _ h => nomatch h)⟩)
  refine y_of (by decide) rfl (Nat.le_of_ble_eq_true rfl) (y_base (cs := [((ad 52), .inr (12, [.int v_m_th, .ref (ad 53), .int (nI ((t.1 52).2.2 0)), .ref (ad 54), .ref (ad 55), .ref (ad 56), .ref (ad 57), .ref (ad 58), .ref (ad 59), .ref (ad 60), .ref (ad 61), .int ((t.1 52).1 0), .int ((t.1 52).1 1), .int ((t.1 52).1 2), .int ((t.1 52).1 3), .int ((t.1 52).1 4), .int ((t.1 52).1 5), .ref (ad 62), .ref (ad 63), .ref (ad 64), .int ((t.1 52).1 6), .int ((t.1 52).1 7), .int ((t.1 52).1 8), .int ((t.1 52).1 9), .int ((t.1 52).1 10), .ref (ad 65), .ref (ad 66), .ref (ad 67), .ref (ad 68), .long ((t.1 52).2.1 0), .long ((t.1 52).2.1 1)]))]) hJ ?_)
  refine y_lvE (lv2 := [(0, .ref (ad 52)), (1, .int x)]) rfl ?_
  refine y_iload_n d_Mm_noCasting_0 rfl 1 rfl ?_
  refine y_iconst d_Mm_noCasting_1 (v := 0) (by decide) ?_
  refine y_aload_n d_Mm_noCasting_2 rfl 0 rfl ?_
  refine y_get fs_Mm_78 d_Mm_noCasting_3 (q0 := 0) rfl rfl ?_
  refine yw_callVL (As := []) (rest := [.int 0, .int x]) (ci := 13) rfl (fun wA hA => ((hI.gen (t2 := t) (is := [52]) (L2 := []) hA rfl ⟨kd_52.mpr ⟨_, rfl⟩, trivial⟩ (by decide) (by decide) (fun _ h => nomatch h) (fun _ h => nomatch h) (fun _ _ _ => rfl) (fun h => h) rfl).2.1.1 5 (by decide)).ob) ln_Mm_208 w_im_AL_size w_se_AL_size ok_Mm_noCasting_AL_size d_Mm_noCasting_6 (fun wA hA => Q_size ((hI.gen (t2 := t) (is := [52]) (L2 := []) hA rfl ⟨kd_52.mpr ⟨_, rfl⟩, trivial⟩ (by decide) (by decide) (fun _ h => nomatch h) (fun _ h => nomatch h) (fun _ _ _ => rfl) (fun h => h) rfl).2.1.1 5 (by decide))) rfl rfl (Nat.le_of_ble_eq_true rfl) (by omega) (by omega) (fun wA6 hA6 E wB6 hx => ?_) (fun wA6 hA6 v wB6 hx => ?_)
  · exact absurd hx.1 (by simp)
  · obtain ⟨e1, e2⟩ := hx
    cases e1
    refine yw_st (st2 := [.int (nI (u.1 5)), .int 0, .int x]) rfl ?_
    subst e2
    refine y_go hA6 ?_
    refine y_iconst d_Mm_noCasting_9 (v := 1) (by decide) ?_
    refine y_isub d_Mm_noCasting_10 (v := nI (u.1 5) - 1) rfl ?_
    refine y_callS (As := [.int x, .int 0, .int (nI (u.1 5) - 1)]) (rest := []) (csC := []) (is := []) ln_Mm_87 w_st_Mm_in ok_Mm_noCasting_Mm_in d_Mm_noCasting_11 (C_Mm_in g x 0 (nI (u.1 5) - 1)) rfl rfl (Nat.le_of_ble_eq_true rfl) rfl (by decide) (by omega) (by omega) (fun E cs1 hx => ?_) (fun v cs1 hx => ?_)
    · exact absurd hx.1 (by simp)
    · obtain ⟨e1, rfl⟩ := hx
      rw [if_pos ((z_idx (hI.n5 5 (by decide))).mpr hx)] at e1
      cases e1
      refine ⟨rfl, ?_⟩
      refine y_st (st2 := [.int 1]) rfl ?_
      refine y_cs (cs2 := [((ad 52), .inr (12, [.int v_m_th, .ref (ad 53), .int (nI ((t.1 52).2.2 0)), .ref (ad 54), .ref (ad 55), .ref (ad 56), .ref (ad 57), .ref (ad 58), .ref (ad 59), .ref (ad 60), .ref (ad 61), .int ((t.1 52).1 0), .int ((t.1 52).1 1), .int ((t.1 52).1 2), .int ((t.1 52).1 3), .int ((t.1 52).1 4), .int ((t.1 52).1 5), .ref (ad 62), .ref (ad 63), .ref (ad 64), .int ((t.1 52).1 6), .int ((t.1 52).1 7), .int ((t.1 52).1 8), .int ((t.1 52).1 9), .int ((t.1 52).1 10), .ref (ad 65), .ref (ad 66), .ref (ad 67), .ref (ad 68), .long ((t.1 52).2.1 0), .long ((t.1 52).2.1 1)]))]) rfl ?_
      refine y_if_ne (tgt := 21) d_Mm_noCasting_14 (by decide) (fun c_14 => ?_) (fun c_14 => ?_)
      · refine y_iconst d_Mm_noCasting_21 (v := 0) (by decide) ?_
        refine y_iret d_Mm_noCasting_22 rfl rfl ?_
        exact fun w1 h1 => ⟨rfl, z_I.same hJ h1⟩
      · exact absurd c_14 (by decide)
set_option maxHeartbeats 4000000 in
set_option maxRecDepth 100000 in
theorem Q_Mm_faultsE {g : zG} {ad : Nat → Nat} {t : zTT} {u : zNN} {w : zW} (hI : IV g ad t u w) (x : Int32) (hx : ¬ ∃ k, k < u.1 5 ∧ x = nI k) : zMB g M_Mm_faults [.ref (ad 52), .int x] w (fun o w1 => (∃ v : Int32, o = .inl (some (.int v))) ∧ IV g ad t u w1) 0 0 := by
  obtain ⟨e_m, wf_m, k_m⟩ := hI.1.2 52 (by decide)
  obtain ⟨v_m_th, rfl⟩ := kd_52.mp k_m
  refine y_of (by decide) rfl (Nat.le_of_ble_eq_true rfl) (y_base (cs := [((ad 52), .inr (12, [.int v_m_th, .ref (ad 53), .int (nI ((t.1 52).2.2 0)), .ref (ad 54), .ref (ad 55), .ref (ad 56), .ref (ad 57), .ref (ad 58), .ref (ad 59), .ref (ad 60), .ref (ad 61), .int ((t.1 52).1 0), .int ((t.1 52).1 1), .int ((t.1 52).1 2), .int ((t.1 52).1 3), .int ((t.1 52).1 4), .int ((t.1 52).1 5), .ref (ad 62), .ref (ad 63), .ref (ad 64), .int ((t.1 52).1 6), .int ((t.1 52).1 7), .int ((t.1 52).1 8), .int ((t.1 52).1 9), .int ((t.1 52).1 10), .ref (ad 65), .ref (ad 66), .ref (ad 67), .ref (ad 68), .long ((t.1 52).2.1 0), .long ((t.1 52).2.1 1)]))]) (hI.1.I [52] _ rfl (by decide) (by decide) (List.forall_mem_cons.mpr ⟨wf_m, (fun _ h => nomatch h)⟩)) ?_)
  refine y_lvE (lv2 := [(0, .ref (ad 52)), (1, .int x)]) rfl ?_
  refine y_aload_n d_Mm_faults_0 rfl 0 rfl ?_
  refine y_iconst d_Mm_faults_1 (v := 0) (by decide) ?_
  refine y_put fp_Mm_84 d_Mm_faults_2 (fun h => nomatch h) rfl rfl (q0 := 0) rfl (Nat.le_of_ble_eq_true rfl) (cs' := [((ad 52), .inr (12, [.int 0, .ref (ad 53), .int (nI ((t.1 52).2.2 0)), .ref (ad 54), .ref (ad 55), .ref (ad 56), .ref (ad 57), .ref (ad 58), .ref (ad 59), .ref (ad 60), .ref (ad 61), .int ((t.1 52).1 0), .int ((t.1 52).1 1), .int ((t.1 52).1 2), .int ((t.1 52).1 3), .int ((t.1 52).1 4), .int ((t.1 52).1 5), .ref (ad 62), .ref (ad 63), .ref (ad 64), .int ((t.1 52).1 6), .int ((t.1 52).1 7), .int ((t.1 52).1 8), .int ((t.1 52).1 9), .int ((t.1 52).1 10), .ref (ad 65), .ref (ad 66), .ref (ad 67), .ref (ad 68), .long ((t.1 52).2.1 0), .long ((t.1 52).2.1 1)]))]) rfl ?_
  refine y_aload_n d_Mm_faults_5 rfl 0 rfl ?_
  refine y_aload_n d_Mm_faults_6 rfl 0 rfl ?_
  refine y_iload_n d_Mm_faults_7 rfl 1 rfl ?_
  refine yw_callV (As := [.int x]) (rest := [.ref (ad 52)]) (q0 := 0) rfl rfl ln_Mm_301 w_im_Mm_noCasting w_se_Mm_noCasting ok_Mm_faults_Mm_noCasting d_Mm_faults_8 (fun wA hA => Q_noCasting1 (hI.gen (t2 := t) (is := [52]) (L2 := []) hA rfl ⟨kd_52.mpr ⟨_, rfl⟩, trivial⟩ (by decide) (by decide) (fun _ h => nomatch h) (fun _ h => nomatch h) (fun _ _ _ => rfl) (fun h => h) rfl) x hx) rfl rfl (Nat.le_of_ble_eq_true rfl) (by omega) (by omega) (fun wA8 hA8 E wB8 hx => ?_) (fun wA8 hA8 v wB8 hx => ?_)
  · exact absurd hx.1 (by simp)
  · obtain ⟨e1, e2⟩ := hx
    cases e1
    refine yw_st (st2 := [.int 1, .ref (ad 52)]) rfl ?_
    subst e2
    refine y_go hA8 ?_
    refine y_iconst d_Mm_faults_11 (v := 1) (by decide) ?_
    refine y_callV (As := [.int 1, .int 1]) (rest := []) (csC := [((ad 52), .inr (12, [.int 0, .ref (ad 53), .int (nI ((t.1 52).2.2 0)), .ref (ad 54), .ref (ad 55), .ref (ad 56), .ref (ad 57), .ref (ad 58), .ref (ad 59), .ref (ad 60), .ref (ad 61), .int ((t.1 52).1 0), .int ((t.1 52).1 1), .int ((t.1 52).1 2), .int ((t.1 52).1 3), .int ((t.1 52).1 4), .int ((t.1 52).1 5), .ref (ad 62), .ref (ad 63), .ref (ad 64), .int ((t.1 52).1 6), .int ((t.1 52).1 7), .int ((t.1 52).1 8), .int ((t.1 52).1 9), .int ((t.1 52).1 10), .ref (ad 65), .ref (ad 66), .ref (ad 67), .ref (ad 68), .long ((t.1 52).2.1 0), .long ((t.1 52).2.1 1)]))]) (is := [0]) (q0 := 0) rfl rfl ln_Mm_103 w_im_Mm_fails w_se_Mm_fails ok_Mm_faults_Mm_fails d_Mm_faults_12 (C_Mm_fails1 g (ad 52) (ad 53) (ad 54) (ad 55) (ad 56) (ad 57) (ad 58) (ad 59) (ad 60) (ad 61) (ad 62) (ad 63) (ad 64) (ad 65) (ad 66) (ad 67) (ad 68) 0 (nI ((t.1 52).2.2 0)) ((t.1 52).1 0) ((t.1 52).1 1) ((t.1 52).1 2) ((t.1 52).1 3) ((t.1 52).1 4) ((t.1 52).1 5) ((t.1 52).1 6) ((t.1 52).1 7) ((t.1 52).1 8) ((t.1 52).1 9) ((t.1 52).1 10) ((t.1 52).2.1 0) ((t.1 52).2.1 1)) rfl rfl (Nat.le_of_ble_eq_true rfl) rfl (by decide) (by omega) (by omega) (fun E cs1 hx => ?_) (fun v cs1 hx => ?_)
    · exact absurd hx.1 (by simp)
    · obtain ⟨e1, rfl⟩ := hx
      cases e1
      refine ⟨rfl, ?_⟩
      refine y_st (st2 := [.int 1]) rfl ?_
      refine y_cs (cs2 := [((ad 52), .inr (12, [.int 1, .ref (ad 53), .int (nI ((t.1 52).2.2 0)), .ref (ad 54), .ref (ad 55), .ref (ad 56), .ref (ad 57), .ref (ad 58), .ref (ad 59), .ref (ad 60), .ref (ad 61), .int ((t.1 52).1 0), .int ((t.1 52).1 1), .int ((t.1 52).1 2), .int ((t.1 52).1 3), .int ((t.1 52).1 4), .int ((t.1 52).1 5), .ref (ad 62), .ref (ad 63), .ref (ad 64), .int ((t.1 52).1 6), .int ((t.1 52).1 7), .int ((t.1 52).1 8), .int ((t.1 52).1 9), .int ((t.1 52).1 10), .ref (ad 65), .ref (ad 66), .ref (ad 67), .ref (ad 68), .long ((t.1 52).2.1 0), .long ((t.1 52).2.1 1)]))]) rfl ?_
      refine y_if_eq (tgt := 22) d_Mm_faults_15 (by decide) (fun c_15 => ?_) (fun c_15 => ?_)
      · exact absurd c_15 (by decide)
      · refine y_iconst d_Mm_faults_18 (v := 0) (by decide) ?_
        refine y_goto (tgt := 35) d_Mm_faults_19 (by decide) ?_
        refine y_iret d_Mm_faults_35 rfl rfl ?_
        exact fun w1 h1 => ⟨⟨_, rfl⟩, (hI.gen (t2 := t) (is := [52]) (L2 := []) h1 rfl ⟨kd_52.mpr ⟨_, rfl⟩, trivial⟩ (by decide) (by decide) (fun _ h => nomatch h) (fun _ h => nomatch h) (fun _ _ _ => rfl) (fun h => h) rfl)⟩
set_option maxHeartbeats 4000000 in
set_option maxRecDepth 100000 in
theorem Q_Mm_shrunkInE {g : zG} {ad : Nat → Nat} {t : zTT} {u : zNN} {w : zW} (hI : IV g ad t u w) (x : Int32) (hx : ¬ ∃ k, k < u.1 5 ∧ x = nI k) : zMB g M_Mm_shrunkIn [.ref (ad 52), .int x] w (fun o w1 => (∃ v : Int32, o = .inl (some (.int v))) ∧ IV g ad t u w1) 0 0 := by
  obtain ⟨e_m, wf_m, k_m⟩ := hI.1.2 52 (by decide)
  obtain ⟨v_m_th, rfl⟩ := kd_52.mp k_m
  refine y_of (by decide) rfl (Nat.le_of_ble_eq_true rfl) (y_base (cs := [((ad 52), .inr (12, [.int v_m_th, .ref (ad 53), .int (nI ((t.1 52).2.2 0)), .ref (ad 54), .ref (ad 55), .ref (ad 56), .ref (ad 57), .ref (ad 58), .ref (ad 59), .ref (ad 60), .ref (ad 61), .int ((t.1 52).1 0), .int ((t.1 52).1 1), .int ((t.1 52).1 2), .int ((t.1 52).1 3), .int ((t.1 52).1 4), .int ((t.1 52).1 5), .ref (ad 62), .ref (ad 63), .ref (ad 64), .int ((t.1 52).1 6), .int ((t.1 52).1 7), .int ((t.1 52).1 8), .int ((t.1 52).1 9), .int ((t.1 52).1 10), .ref (ad 65), .ref (ad 66), .ref (ad 67), .ref (ad 68), .long ((t.1 52).2.1 0), .long ((t.1 52).2.1 1)]))]) (hI.1.I [52] _ rfl (by decide) (by decide) (List.forall_mem_cons.mpr ⟨wf_m, (fun _ h => nomatch h)⟩)) ?_)
  refine y_lvE (lv2 := [(0, .ref (ad 52)), (1, .int x)]) rfl ?_
  refine y_aload_n d_Mm_shrunkIn_0 rfl 0 rfl ?_
  refine y_iconst d_Mm_shrunkIn_1 (v := 0) (by decide) ?_
  refine y_put fp_Mm_84 d_Mm_shrunkIn_2 (fun h => nomatch h) rfl rfl (q0 := 0) rfl (Nat.le_of_ble_eq_true rfl) (cs' := [((ad 52), .inr (12, [.int 0, .ref (ad 53), .int (nI ((t.1 52).2.2 0)), .ref (ad 54), .ref (ad 55), .ref (ad 56), .ref (ad 57), .ref (ad 58), .ref (ad 59), .ref (ad 60), .ref (ad 61), .int ((t.1 52).1 0), .int ((t.1 52).1 1), .int ((t.1 52).1 2), .int ((t.1 52).1 3), .int ((t.1 52).1 4), .int ((t.1 52).1 5), .ref (ad 62), .ref (ad 63), .ref (ad 64), .int ((t.1 52).1 6), .int ((t.1 52).1 7), .int ((t.1 52).1 8), .int ((t.1 52).1 9), .int ((t.1 52).1 10), .ref (ad 65), .ref (ad 66), .ref (ad 67), .ref (ad 68), .long ((t.1 52).2.1 0), .long ((t.1 52).2.1 1)]))]) rfl ?_
  refine y_aload_n d_Mm_shrunkIn_5 rfl 0 rfl ?_
  refine y_aload_n d_Mm_shrunkIn_6 rfl 0 rfl ?_
  refine y_iload_n d_Mm_shrunkIn_7 rfl 1 rfl ?_
  refine yw_callV (As := [.int x]) (rest := [.ref (ad 52)]) (q0 := 0) rfl rfl ln_Mm_301 w_im_Mm_noCasting w_se_Mm_noCasting ok_Mm_shrunkIn_Mm_noCasting d_Mm_shrunkIn_8 (fun wA hA => Q_noCasting1 (hI.gen (t2 := t) (is := [52]) (L2 := []) hA rfl ⟨kd_52.mpr ⟨_, rfl⟩, trivial⟩ (by decide) (by decide) (fun _ h => nomatch h) (fun _ h => nomatch h) (fun _ _ _ => rfl) (fun h => h) rfl) x hx) rfl rfl (Nat.le_of_ble_eq_true rfl) (by omega) (by omega) (fun wA8 hA8 E wB8 hx => ?_) (fun wA8 hA8 v wB8 hx => ?_)
  · exact absurd hx.1 (by simp)
  · obtain ⟨e1, e2⟩ := hx
    cases e1
    refine yw_st (st2 := [.int 1, .ref (ad 52)]) rfl ?_
    subst e2
    refine y_go hA8 ?_
    refine y_iconst d_Mm_shrunkIn_11 (v := 1) (by decide) ?_
    refine y_callV (As := [.int 1, .int 1]) (rest := []) (csC := [((ad 52), .inr (12, [.int 0, .ref (ad 53), .int (nI ((t.1 52).2.2 0)), .ref (ad 54), .ref (ad 55), .ref (ad 56), .ref (ad 57), .ref (ad 58), .ref (ad 59), .ref (ad 60), .ref (ad 61), .int ((t.1 52).1 0), .int ((t.1 52).1 1), .int ((t.1 52).1 2), .int ((t.1 52).1 3), .int ((t.1 52).1 4), .int ((t.1 52).1 5), .ref (ad 62), .ref (ad 63), .ref (ad 64), .int ((t.1 52).1 6), .int ((t.1 52).1 7), .int ((t.1 52).1 8), .int ((t.1 52).1 9), .int ((t.1 52).1 10), .ref (ad 65), .ref (ad 66), .ref (ad 67), .ref (ad 68), .long ((t.1 52).2.1 0), .long ((t.1 52).2.1 1)]))]) (is := [0]) (q0 := 0) rfl rfl ln_Mm_103 w_im_Mm_fails w_se_Mm_fails ok_Mm_shrunkIn_Mm_fails d_Mm_shrunkIn_12 (C_Mm_fails1 g (ad 52) (ad 53) (ad 54) (ad 55) (ad 56) (ad 57) (ad 58) (ad 59) (ad 60) (ad 61) (ad 62) (ad 63) (ad 64) (ad 65) (ad 66) (ad 67) (ad 68) 0 (nI ((t.1 52).2.2 0)) ((t.1 52).1 0) ((t.1 52).1 1) ((t.1 52).1 2) ((t.1 52).1 3) ((t.1 52).1 4) ((t.1 52).1 5) ((t.1 52).1 6) ((t.1 52).1 7) ((t.1 52).1 8) ((t.1 52).1 9) ((t.1 52).1 10) ((t.1 52).2.1 0) ((t.1 52).2.1 1)) rfl rfl (Nat.le_of_ble_eq_true rfl) rfl (by decide) (by omega) (by omega) (fun E cs1 hx => ?_) (fun v cs1 hx => ?_)
    · exact absurd hx.1 (by simp)
    · obtain ⟨e1, rfl⟩ := hx
      cases e1
      refine ⟨rfl, ?_⟩
      refine y_st (st2 := [.int 1]) rfl ?_
      refine y_cs (cs2 := [((ad 52), .inr (12, [.int 1, .ref (ad 53), .int (nI ((t.1 52).2.2 0)), .ref (ad 54), .ref (ad 55), .ref (ad 56), .ref (ad 57), .ref (ad 58), .ref (ad 59), .ref (ad 60), .ref (ad 61), .int ((t.1 52).1 0), .int ((t.1 52).1 1), .int ((t.1 52).1 2), .int ((t.1 52).1 3), .int ((t.1 52).1 4), .int ((t.1 52).1 5), .ref (ad 62), .ref (ad 63), .ref (ad 64), .int ((t.1 52).1 6), .int ((t.1 52).1 7), .int ((t.1 52).1 8), .int ((t.1 52).1 9), .int ((t.1 52).1 10), .ref (ad 65), .ref (ad 66), .ref (ad 67), .ref (ad 68), .long ((t.1 52).2.1 0), .long ((t.1 52).2.1 1)]))]) rfl ?_
      refine y_if_eq (tgt := 22) d_Mm_shrunkIn_15 (by decide) (fun c_15 => ?_) (fun c_15 => ?_)
      · exact absurd c_15 (by decide)
      · refine y_iconst d_Mm_shrunkIn_18 (v := 0) (by decide) ?_
        refine y_goto (tgt := 35) d_Mm_shrunkIn_19 (by decide) ?_
        refine y_iret d_Mm_shrunkIn_35 rfl rfl ?_
        exact fun w1 h1 => ⟨⟨_, rfl⟩, (hI.gen (t2 := t) (is := [52]) (L2 := []) h1 rfl ⟨kd_52.mpr ⟨_, rfl⟩, trivial⟩ (by decide) (by decide) (fun _ h => nomatch h) (fun _ h => nomatch h) (fun _ _ _ => rfl) (fun h => h) rfl)⟩
set_option maxHeartbeats 4000000 in
set_option maxRecDepth 100000 in
theorem Q_Mm_hasE {g : zG} {ad : Nat → Nat} {t : zTT} {u : zNN} {w : zW} (hI : IV g ad t u w) (x : Int32) (hx : ¬ ∃ k, k < u.1 5 ∧ x = nI k) (c : Int32) : zMB g M_Mm_has_1 [.ref (ad 52), .int x, .int c] w (fun o w1 => (∃ v : Int32, o = .inl (some (.int v))) ∧ IV g ad t u w1) 0 0 := by
  obtain ⟨e_m, wf_m, k_m⟩ := hI.1.2 52 (by decide)
  obtain ⟨v_m_th, rfl⟩ := kd_52.mp k_m
  refine y_of (by decide) rfl (Nat.le_of_ble_eq_true rfl) (y_base (cs := [((ad 52), .inr (12, [.int v_m_th, .ref (ad 53), .int (nI ((t.1 52).2.2 0)), .ref (ad 54), .ref (ad 55), .ref (ad 56), .ref (ad 57), .ref (ad 58), .ref (ad 59), .ref (ad 60), .ref (ad 61), .int ((t.1 52).1 0), .int ((t.1 52).1 1), .int ((t.1 52).1 2), .int ((t.1 52).1 3), .int ((t.1 52).1 4), .int ((t.1 52).1 5), .ref (ad 62), .ref (ad 63), .ref (ad 64), .int ((t.1 52).1 6), .int ((t.1 52).1 7), .int ((t.1 52).1 8), .int ((t.1 52).1 9), .int ((t.1 52).1 10), .ref (ad 65), .ref (ad 66), .ref (ad 67), .ref (ad 68), .long ((t.1 52).2.1 0), .long ((t.1 52).2.1 1)]))]) (hI.1.I [52] _ rfl (by decide) (by decide) (List.forall_mem_cons.mpr ⟨wf_m, (fun _ h => nomatch h)⟩)) ?_)
  refine y_lvE (lv2 := [(0, .ref (ad 52)), (1, .int x), (2, .int c)]) rfl ?_
  refine y_aload_n d_Mm_has_1_0 rfl 0 rfl ?_
  refine y_iconst d_Mm_has_1_1 (v := 0) (by decide) ?_
  refine y_put fp_Mm_84 d_Mm_has_1_2 (fun h => nomatch h) rfl rfl (q0 := 0) rfl (Nat.le_of_ble_eq_true rfl) (cs' := [((ad 52), .inr (12, [.int 0, .ref (ad 53), .int (nI ((t.1 52).2.2 0)), .ref (ad 54), .ref (ad 55), .ref (ad 56), .ref (ad 57), .ref (ad 58), .ref (ad 59), .ref (ad 60), .ref (ad 61), .int ((t.1 52).1 0), .int ((t.1 52).1 1), .int ((t.1 52).1 2), .int ((t.1 52).1 3), .int ((t.1 52).1 4), .int ((t.1 52).1 5), .ref (ad 62), .ref (ad 63), .ref (ad 64), .int ((t.1 52).1 6), .int ((t.1 52).1 7), .int ((t.1 52).1 8), .int ((t.1 52).1 9), .int ((t.1 52).1 10), .ref (ad 65), .ref (ad 66), .ref (ad 67), .ref (ad 68), .long ((t.1 52).2.1 0), .long ((t.1 52).2.1 1)]))]) rfl ?_
  refine y_aload_n d_Mm_has_1_5 rfl 0 rfl ?_
  refine y_aload_n d_Mm_has_1_6 rfl 0 rfl ?_
  refine y_iload_n d_Mm_has_1_7 rfl 1 rfl ?_
  refine yw_callV (As := [.int x]) (rest := [.ref (ad 52)]) (q0 := 0) rfl rfl ln_Mm_301 w_im_Mm_noCasting w_se_Mm_noCasting ok_Mm_has_1_Mm_noCasting d_Mm_has_1_8 (fun wA hA => Q_noCasting1 (hI.gen (t2 := t) (is := [52]) (L2 := []) hA rfl ⟨kd_52.mpr ⟨_, rfl⟩, trivial⟩ (by decide) (by decide) (fun _ h => nomatch h) (fun _ h => nomatch h) (fun _ _ _ => rfl) (fun h => h) rfl) x hx) rfl rfl (Nat.le_of_ble_eq_true rfl) (by omega) (by omega) (fun wA8 hA8 E wB8 hx => ?_) (fun wA8 hA8 v wB8 hx => ?_)
  · exact absurd hx.1 (by simp)
  · obtain ⟨e1, e2⟩ := hx
    cases e1
    refine yw_st (st2 := [.int 1, .ref (ad 52)]) rfl ?_
    subst e2
    refine y_go hA8 ?_
    refine y_iconst d_Mm_has_1_11 (v := 1) (by decide) ?_
    refine y_callV (As := [.int 1, .int 1]) (rest := []) (csC := [((ad 52), .inr (12, [.int 0, .ref (ad 53), .int (nI ((t.1 52).2.2 0)), .ref (ad 54), .ref (ad 55), .ref (ad 56), .ref (ad 57), .ref (ad 58), .ref (ad 59), .ref (ad 60), .ref (ad 61), .int ((t.1 52).1 0), .int ((t.1 52).1 1), .int ((t.1 52).1 2), .int ((t.1 52).1 3), .int ((t.1 52).1 4), .int ((t.1 52).1 5), .ref (ad 62), .ref (ad 63), .ref (ad 64), .int ((t.1 52).1 6), .int ((t.1 52).1 7), .int ((t.1 52).1 8), .int ((t.1 52).1 9), .int ((t.1 52).1 10), .ref (ad 65), .ref (ad 66), .ref (ad 67), .ref (ad 68), .long ((t.1 52).2.1 0), .long ((t.1 52).2.1 1)]))]) (is := [0]) (q0 := 0) rfl rfl ln_Mm_103 w_im_Mm_fails w_se_Mm_fails ok_Mm_has_1_Mm_fails d_Mm_has_1_12 (C_Mm_fails1 g (ad 52) (ad 53) (ad 54) (ad 55) (ad 56) (ad 57) (ad 58) (ad 59) (ad 60) (ad 61) (ad 62) (ad 63) (ad 64) (ad 65) (ad 66) (ad 67) (ad 68) 0 (nI ((t.1 52).2.2 0)) ((t.1 52).1 0) ((t.1 52).1 1) ((t.1 52).1 2) ((t.1 52).1 3) ((t.1 52).1 4) ((t.1 52).1 5) ((t.1 52).1 6) ((t.1 52).1 7) ((t.1 52).1 8) ((t.1 52).1 9) ((t.1 52).1 10) ((t.1 52).2.1 0) ((t.1 52).2.1 1)) rfl rfl (Nat.le_of_ble_eq_true rfl) rfl (by decide) (by omega) (by omega) (fun E cs1 hx => ?_) (fun v cs1 hx => ?_)
    · exact absurd hx.1 (by simp)
    · obtain ⟨e1, rfl⟩ := hx
      cases e1
      refine ⟨rfl, ?_⟩
      refine y_st (st2 := [.int 1]) rfl ?_
      refine y_cs (cs2 := [((ad 52), .inr (12, [.int 1, .ref (ad 53), .int (nI ((t.1 52).2.2 0)), .ref (ad 54), .ref (ad 55), .ref (ad 56), .ref (ad 57), .ref (ad 58), .ref (ad 59), .ref (ad 60), .ref (ad 61), .int ((t.1 52).1 0), .int ((t.1 52).1 1), .int ((t.1 52).1 2), .int ((t.1 52).1 3), .int ((t.1 52).1 4), .int ((t.1 52).1 5), .ref (ad 62), .ref (ad 63), .ref (ad 64), .int ((t.1 52).1 6), .int ((t.1 52).1 7), .int ((t.1 52).1 8), .int ((t.1 52).1 9), .int ((t.1 52).1 10), .ref (ad 65), .ref (ad 66), .ref (ad 67), .ref (ad 68), .long ((t.1 52).2.1 0), .long ((t.1 52).2.1 1)]))]) rfl ?_
      refine y_if_ne (tgt := 38) d_Mm_has_1_15 (by decide) (fun c_15 => ?_) (fun c_15 => ?_)
      · refine y_iconst d_Mm_has_1_38 (v := 0) (by decide) ?_
        refine y_goto (tgt := 51) d_Mm_has_1_39 (by decide) ?_
        refine y_iret d_Mm_has_1_51 rfl rfl ?_
        exact fun w1 h1 => ⟨⟨_, rfl⟩, (hI.gen (t2 := t) (is := [52]) (L2 := []) h1 rfl ⟨kd_52.mpr ⟨_, rfl⟩, trivial⟩ (by decide) (by decide) (fun _ h => nomatch h) (fun _ h => nomatch h) (fun _ _ _ => rfl) (fun h => h) rfl)⟩
      · exact absurd c_15 (by decide)
set_option maxHeartbeats 4000000 in
set_option maxRecDepth 100000 in
theorem Q_Mm_barE {g : zG} {ad : Nat → Nat} {t : zTT} {u : zNN} {w : zW} (hI : IV g ad t u w) (x : Int32) (hx : ¬ ∃ k, k < u.1 5 ∧ x = nI k) : zMB g M_Mm_bar [.ref (ad 52), .int x] w (fun o w1 => (∃ v : Int32, o = .inl (some (.int v))) ∧ IV g ad t u w1) 0 0 := by
  obtain ⟨e_m, wf_m, k_m⟩ := hI.1.2 52 (by decide)
  obtain ⟨v_m_th, rfl⟩ := kd_52.mp k_m
  refine y_of (by decide) rfl (Nat.le_of_ble_eq_true rfl) (y_base (cs := [((ad 52), .inr (12, [.int v_m_th, .ref (ad 53), .int (nI ((t.1 52).2.2 0)), .ref (ad 54), .ref (ad 55), .ref (ad 56), .ref (ad 57), .ref (ad 58), .ref (ad 59), .ref (ad 60), .ref (ad 61), .int ((t.1 52).1 0), .int ((t.1 52).1 1), .int ((t.1 52).1 2), .int ((t.1 52).1 3), .int ((t.1 52).1 4), .int ((t.1 52).1 5), .ref (ad 62), .ref (ad 63), .ref (ad 64), .int ((t.1 52).1 6), .int ((t.1 52).1 7), .int ((t.1 52).1 8), .int ((t.1 52).1 9), .int ((t.1 52).1 10), .ref (ad 65), .ref (ad 66), .ref (ad 67), .ref (ad 68), .long ((t.1 52).2.1 0), .long ((t.1 52).2.1 1)]))]) (hI.1.I [52] _ rfl (by decide) (by decide) (List.forall_mem_cons.mpr ⟨wf_m, (fun _ h => nomatch h)⟩)) ?_)
  refine y_lvE (lv2 := [(0, .ref (ad 52)), (1, .int x)]) rfl ?_
  refine y_aload_n d_Mm_bar_0 rfl 0 rfl ?_
  refine y_iconst d_Mm_bar_1 (v := 0) (by decide) ?_
  refine y_put fp_Mm_84 d_Mm_bar_2 (fun h => nomatch h) rfl rfl (q0 := 0) rfl (Nat.le_of_ble_eq_true rfl) (cs' := [((ad 52), .inr (12, [.int 0, .ref (ad 53), .int (nI ((t.1 52).2.2 0)), .ref (ad 54), .ref (ad 55), .ref (ad 56), .ref (ad 57), .ref (ad 58), .ref (ad 59), .ref (ad 60), .ref (ad 61), .int ((t.1 52).1 0), .int ((t.1 52).1 1), .int ((t.1 52).1 2), .int ((t.1 52).1 3), .int ((t.1 52).1 4), .int ((t.1 52).1 5), .ref (ad 62), .ref (ad 63), .ref (ad 64), .int ((t.1 52).1 6), .int ((t.1 52).1 7), .int ((t.1 52).1 8), .int ((t.1 52).1 9), .int ((t.1 52).1 10), .ref (ad 65), .ref (ad 66), .ref (ad 67), .ref (ad 68), .long ((t.1 52).2.1 0), .long ((t.1 52).2.1 1)]))]) rfl ?_
  refine y_aload_n d_Mm_bar_5 rfl 0 rfl ?_
  refine y_aload_n d_Mm_bar_6 rfl 0 rfl ?_
  refine y_iload_n d_Mm_bar_7 rfl 1 rfl ?_
  refine yw_callV (As := [.int x]) (rest := [.ref (ad 52)]) (q0 := 0) rfl rfl ln_Mm_301 w_im_Mm_noCasting w_se_Mm_noCasting ok_Mm_bar_Mm_noCasting d_Mm_bar_8 (fun wA hA => Q_noCasting1 (hI.gen (t2 := t) (is := [52]) (L2 := []) hA rfl ⟨kd_52.mpr ⟨_, rfl⟩, trivial⟩ (by decide) (by decide) (fun _ h => nomatch h) (fun _ h => nomatch h) (fun _ _ _ => rfl) (fun h => h) rfl) x hx) rfl rfl (Nat.le_of_ble_eq_true rfl) (by omega) (by omega) (fun wA8 hA8 E wB8 hx => ?_) (fun wA8 hA8 v wB8 hx => ?_)
  · exact absurd hx.1 (by simp)
  · obtain ⟨e1, e2⟩ := hx
    cases e1
    refine yw_st (st2 := [.int 1, .ref (ad 52)]) rfl ?_
    subst e2
    refine y_go hA8 ?_
    refine y_iconst d_Mm_bar_11 (v := 1) (by decide) ?_
    refine y_callV (As := [.int 1, .int 1]) (rest := []) (csC := [((ad 52), .inr (12, [.int 0, .ref (ad 53), .int (nI ((t.1 52).2.2 0)), .ref (ad 54), .ref (ad 55), .ref (ad 56), .ref (ad 57), .ref (ad 58), .ref (ad 59), .ref (ad 60), .ref (ad 61), .int ((t.1 52).1 0), .int ((t.1 52).1 1), .int ((t.1 52).1 2), .int ((t.1 52).1 3), .int ((t.1 52).1 4), .int ((t.1 52).1 5), .ref (ad 62), .ref (ad 63), .ref (ad 64), .int ((t.1 52).1 6), .int ((t.1 52).1 7), .int ((t.1 52).1 8), .int ((t.1 52).1 9), .int ((t.1 52).1 10), .ref (ad 65), .ref (ad 66), .ref (ad 67), .ref (ad 68), .long ((t.1 52).2.1 0), .long ((t.1 52).2.1 1)]))]) (is := [0]) (q0 := 0) rfl rfl ln_Mm_103 w_im_Mm_fails w_se_Mm_fails ok_Mm_bar_Mm_fails d_Mm_bar_12 (C_Mm_fails1 g (ad 52) (ad 53) (ad 54) (ad 55) (ad 56) (ad 57) (ad 58) (ad 59) (ad 60) (ad 61) (ad 62) (ad 63) (ad 64) (ad 65) (ad 66) (ad 67) (ad 68) 0 (nI ((t.1 52).2.2 0)) ((t.1 52).1 0) ((t.1 52).1 1) ((t.1 52).1 2) ((t.1 52).1 3) ((t.1 52).1 4) ((t.1 52).1 5) ((t.1 52).1 6) ((t.1 52).1 7) ((t.1 52).1 8) ((t.1 52).1 9) ((t.1 52).1 10) ((t.1 52).2.1 0) ((t.1 52).2.1 1)) rfl rfl (Nat.le_of_ble_eq_true rfl) rfl (by decide) (by omega) (by omega) (fun E cs1 hx => ?_) (fun v cs1 hx => ?_)
    · exact absurd hx.1 (by simp)
    · obtain ⟨e1, rfl⟩ := hx
      cases e1
      refine ⟨rfl, ?_⟩
      refine y_st (st2 := [.int 1]) rfl ?_
      refine y_cs (cs2 := [((ad 52), .inr (12, [.int 1, .ref (ad 53), .int (nI ((t.1 52).2.2 0)), .ref (ad 54), .ref (ad 55), .ref (ad 56), .ref (ad 57), .ref (ad 58), .ref (ad 59), .ref (ad 60), .ref (ad 61), .int ((t.1 52).1 0), .int ((t.1 52).1 1), .int ((t.1 52).1 2), .int ((t.1 52).1 3), .int ((t.1 52).1 4), .int ((t.1 52).1 5), .ref (ad 62), .ref (ad 63), .ref (ad 64), .int ((t.1 52).1 6), .int ((t.1 52).1 7), .int ((t.1 52).1 8), .int ((t.1 52).1 9), .int ((t.1 52).1 10), .ref (ad 65), .ref (ad 66), .ref (ad 67), .ref (ad 68), .long ((t.1 52).2.1 0), .long ((t.1 52).2.1 1)]))]) rfl ?_
      refine y_if_eq (tgt := 22) d_Mm_bar_15 (by decide) (fun c_15 => ?_) (fun c_15 => ?_)
      · exact absurd c_15 (by decide)
      · refine y_iconst d_Mm_bar_18 (v := 0) (by decide) ?_
        refine y_goto (tgt := 27) d_Mm_bar_19 (by decide) ?_
        refine y_iret d_Mm_bar_27 rfl rfl ?_
        exact fun w1 h1 => ⟨⟨_, rfl⟩, (hI.gen (t2 := t) (is := [52]) (L2 := []) h1 rfl ⟨kd_52.mpr ⟨_, rfl⟩, trivial⟩ (by decide) (by decide) (fun _ h => nomatch h) (fun _ h => nomatch h) (fun _ _ _ => rfl) (fun h => h) rfl)⟩
set_option maxHeartbeats 4000000 in
set_option maxRecDepth 100000 in
theorem Q_Mm_weldE {g : zG} {ad : Nat → Nat} {t : zTT} {u : zNN} {w : zW} (hI : IV g ad t u w) (x : Int32) (hx : ¬ ∃ k, k < u.1 5 ∧ x = nI k) : zMB g M_Mm_weld [.ref (ad 52), .int x] w (fun o w1 => (∃ v : Int32, o = .inl (some (.int v))) ∧ IV g ad t u w1) 0 0 := by
  obtain ⟨e_m, wf_m, k_m⟩ := hI.1.2 52 (by decide)
  obtain ⟨v_m_th, rfl⟩ := kd_52.mp k_m
  refine y_of (by decide) rfl (Nat.le_of_ble_eq_true rfl) (y_base (cs := [((ad 52), .inr (12, [.int v_m_th, .ref (ad 53), .int (nI ((t.1 52).2.2 0)), .ref (ad 54), .ref (ad 55), .ref (ad 56), .ref (ad 57), .ref (ad 58), .ref (ad 59), .ref (ad 60), .ref (ad 61), .int ((t.1 52).1 0), .int ((t.1 52).1 1), .int ((t.1 52).1 2), .int ((t.1 52).1 3), .int ((t.1 52).1 4), .int ((t.1 52).1 5), .ref (ad 62), .ref (ad 63), .ref (ad 64), .int ((t.1 52).1 6), .int ((t.1 52).1 7), .int ((t.1 52).1 8), .int ((t.1 52).1 9), .int ((t.1 52).1 10), .ref (ad 65), .ref (ad 66), .ref (ad 67), .ref (ad 68), .long ((t.1 52).2.1 0), .long ((t.1 52).2.1 1)]))]) (hI.1.I [52] _ rfl (by decide) (by decide) (List.forall_mem_cons.mpr ⟨wf_m, (fun _ h => nomatch h)⟩)) ?_)
  refine y_lvE (lv2 := [(0, .ref (ad 52)), (1, .int x)]) rfl ?_
  refine y_aload_n d_Mm_weld_0 rfl 0 rfl ?_
  refine y_iconst d_Mm_weld_1 (v := 0) (by decide) ?_
  refine y_put fp_Mm_84 d_Mm_weld_2 (fun h => nomatch h) rfl rfl (q0 := 0) rfl (Nat.le_of_ble_eq_true rfl) (cs' := [((ad 52), .inr (12, [.int 0, .ref (ad 53), .int (nI ((t.1 52).2.2 0)), .ref (ad 54), .ref (ad 55), .ref (ad 56), .ref (ad 57), .ref (ad 58), .ref (ad 59), .ref (ad 60), .ref (ad 61), .int ((t.1 52).1 0), .int ((t.1 52).1 1), .int ((t.1 52).1 2), .int ((t.1 52).1 3), .int ((t.1 52).1 4), .int ((t.1 52).1 5), .ref (ad 62), .ref (ad 63), .ref (ad 64), .int ((t.1 52).1 6), .int ((t.1 52).1 7), .int ((t.1 52).1 8), .int ((t.1 52).1 9), .int ((t.1 52).1 10), .ref (ad 65), .ref (ad 66), .ref (ad 67), .ref (ad 68), .long ((t.1 52).2.1 0), .long ((t.1 52).2.1 1)]))]) rfl ?_
  refine y_aload_n d_Mm_weld_5 rfl 0 rfl ?_
  refine y_aload_n d_Mm_weld_6 rfl 0 rfl ?_
  refine y_iload_n d_Mm_weld_7 rfl 1 rfl ?_
  refine yw_callV (As := [.int x]) (rest := [.ref (ad 52)]) (q0 := 0) rfl rfl ln_Mm_301 w_im_Mm_noCasting w_se_Mm_noCasting ok_Mm_weld_Mm_noCasting d_Mm_weld_8 (fun wA hA => Q_noCasting1 (hI.gen (t2 := t) (is := [52]) (L2 := []) hA rfl ⟨kd_52.mpr ⟨_, rfl⟩, trivial⟩ (by decide) (by decide) (fun _ h => nomatch h) (fun _ h => nomatch h) (fun _ _ _ => rfl) (fun h => h) rfl) x hx) rfl rfl (Nat.le_of_ble_eq_true rfl) (by omega) (by omega) (fun wA8 hA8 E wB8 hx => ?_) (fun wA8 hA8 v wB8 hx => ?_)
  · exact absurd hx.1 (by simp)
  · obtain ⟨e1, e2⟩ := hx
    cases e1
    refine yw_st (st2 := [.int 1, .ref (ad 52)]) rfl ?_
    subst e2
    refine y_go hA8 ?_
    refine y_iconst d_Mm_weld_11 (v := 1) (by decide) ?_
    refine y_callV (As := [.int 1, .int 1]) (rest := []) (csC := [((ad 52), .inr (12, [.int 0, .ref (ad 53), .int (nI ((t.1 52).2.2 0)), .ref (ad 54), .ref (ad 55), .ref (ad 56), .ref (ad 57), .ref (ad 58), .ref (ad 59), .ref (ad 60), .ref (ad 61), .int ((t.1 52).1 0), .int ((t.1 52).1 1), .int ((t.1 52).1 2), .int ((t.1 52).1 3), .int ((t.1 52).1 4), .int ((t.1 52).1 5), .ref (ad 62), .ref (ad 63), .ref (ad 64), .int ((t.1 52).1 6), .int ((t.1 52).1 7), .int ((t.1 52).1 8), .int ((t.1 52).1 9), .int ((t.1 52).1 10), .ref (ad 65), .ref (ad 66), .ref (ad 67), .ref (ad 68), .long ((t.1 52).2.1 0), .long ((t.1 52).2.1 1)]))]) (is := [0]) (q0 := 0) rfl rfl ln_Mm_103 w_im_Mm_fails w_se_Mm_fails ok_Mm_weld_Mm_fails d_Mm_weld_12 (C_Mm_fails1 g (ad 52) (ad 53) (ad 54) (ad 55) (ad 56) (ad 57) (ad 58) (ad 59) (ad 60) (ad 61) (ad 62) (ad 63) (ad 64) (ad 65) (ad 66) (ad 67) (ad 68) 0 (nI ((t.1 52).2.2 0)) ((t.1 52).1 0) ((t.1 52).1 1) ((t.1 52).1 2) ((t.1 52).1 3) ((t.1 52).1 4) ((t.1 52).1 5) ((t.1 52).1 6) ((t.1 52).1 7) ((t.1 52).1 8) ((t.1 52).1 9) ((t.1 52).1 10) ((t.1 52).2.1 0) ((t.1 52).2.1 1)) rfl rfl (Nat.le_of_ble_eq_true rfl) rfl (by decide) (by omega) (by omega) (fun E cs1 hx => ?_) (fun v cs1 hx => ?_)
    · exact absurd hx.1 (by simp)
    · obtain ⟨e1, rfl⟩ := hx
      cases e1
      refine ⟨rfl, ?_⟩
      refine y_st (st2 := [.int 1]) rfl ?_
      refine y_cs (cs2 := [((ad 52), .inr (12, [.int 1, .ref (ad 53), .int (nI ((t.1 52).2.2 0)), .ref (ad 54), .ref (ad 55), .ref (ad 56), .ref (ad 57), .ref (ad 58), .ref (ad 59), .ref (ad 60), .ref (ad 61), .int ((t.1 52).1 0), .int ((t.1 52).1 1), .int ((t.1 52).1 2), .int ((t.1 52).1 3), .int ((t.1 52).1 4), .int ((t.1 52).1 5), .ref (ad 62), .ref (ad 63), .ref (ad 64), .int ((t.1 52).1 6), .int ((t.1 52).1 7), .int ((t.1 52).1 8), .int ((t.1 52).1 9), .int ((t.1 52).1 10), .ref (ad 65), .ref (ad 66), .ref (ad 67), .ref (ad 68), .long ((t.1 52).2.1 0), .long ((t.1 52).2.1 1)]))]) rfl ?_
      refine y_if_eq (tgt := 20) d_Mm_weld_15 (by decide) (fun c_15 => ?_) (fun c_15 => ?_)
      · exact absurd c_15 (by decide)
      · refine y_iconst d_Mm_weld_18 (v := 0) (by decide) ?_
        refine y_iret d_Mm_weld_19 rfl rfl ?_
        exact fun w1 h1 => ⟨⟨_, rfl⟩, (hI.gen (t2 := t) (is := [52]) (L2 := []) h1 rfl ⟨kd_52.mpr ⟨_, rfl⟩, trivial⟩ (by decide) (by decide) (fun _ h => nomatch h) (fun _ h => nomatch h) (fun _ _ _ => rfl) (fun h => h) rfl)⟩
set_option maxHeartbeats 4000000 in
set_option maxRecDepth 100000 in
theorem Q_Mm_deliverE {g : zG} {ad : Nat → Nat} {t : zTT} {u : zNN} {w : zW} (hI : IV g ad t u w) (x : Int32) (hx : ¬ ∃ k, k < u.1 5 ∧ x = nI k) : zMB g M_Mm_deliver [.ref (ad 52), .int x] w (fun o w1 => (∃ v : Int32, o = .inl (some (.int v))) ∧ IV g ad t u w1) 0 0 := by
  obtain ⟨e_m, wf_m, k_m⟩ := hI.1.2 52 (by decide)
  obtain ⟨v_m_th, rfl⟩ := kd_52.mp k_m
  refine y_of (by decide) rfl (Nat.le_of_ble_eq_true rfl) (y_base (cs := [((ad 52), .inr (12, [.int v_m_th, .ref (ad 53), .int (nI ((t.1 52).2.2 0)), .ref (ad 54), .ref (ad 55), .ref (ad 56), .ref (ad 57), .ref (ad 58), .ref (ad 59), .ref (ad 60), .ref (ad 61), .int ((t.1 52).1 0), .int ((t.1 52).1 1), .int ((t.1 52).1 2), .int ((t.1 52).1 3), .int ((t.1 52).1 4), .int ((t.1 52).1 5), .ref (ad 62), .ref (ad 63), .ref (ad 64), .int ((t.1 52).1 6), .int ((t.1 52).1 7), .int ((t.1 52).1 8), .int ((t.1 52).1 9), .int ((t.1 52).1 10), .ref (ad 65), .ref (ad 66), .ref (ad 67), .ref (ad 68), .long ((t.1 52).2.1 0), .long ((t.1 52).2.1 1)]))]) (hI.1.I [52] _ rfl (by decide) (by decide) (List.forall_mem_cons.mpr ⟨wf_m, (fun _ h => nomatch h)⟩)) ?_)
  refine y_lvE (lv2 := [(0, .ref (ad 52)), (1, .int x)]) rfl ?_
  refine y_aload_n d_Mm_deliver_0 rfl 0 rfl ?_
  refine y_iconst d_Mm_deliver_1 (v := 0) (by decide) ?_
  refine y_put fp_Mm_84 d_Mm_deliver_2 (fun h => nomatch h) rfl rfl (q0 := 0) rfl (Nat.le_of_ble_eq_true rfl) (cs' := [((ad 52), .inr (12, [.int 0, .ref (ad 53), .int (nI ((t.1 52).2.2 0)), .ref (ad 54), .ref (ad 55), .ref (ad 56), .ref (ad 57), .ref (ad 58), .ref (ad 59), .ref (ad 60), .ref (ad 61), .int ((t.1 52).1 0), .int ((t.1 52).1 1), .int ((t.1 52).1 2), .int ((t.1 52).1 3), .int ((t.1 52).1 4), .int ((t.1 52).1 5), .ref (ad 62), .ref (ad 63), .ref (ad 64), .int ((t.1 52).1 6), .int ((t.1 52).1 7), .int ((t.1 52).1 8), .int ((t.1 52).1 9), .int ((t.1 52).1 10), .ref (ad 65), .ref (ad 66), .ref (ad 67), .ref (ad 68), .long ((t.1 52).2.1 0), .long ((t.1 52).2.1 1)]))]) rfl ?_
  refine y_aload_n d_Mm_deliver_5 rfl 0 rfl ?_
  refine y_aload_n d_Mm_deliver_6 rfl 0 rfl ?_
  refine y_iload_n d_Mm_deliver_7 rfl 1 rfl ?_
  refine yw_callV (As := [.int x]) (rest := [.ref (ad 52)]) (q0 := 0) rfl rfl ln_Mm_301 w_im_Mm_noCasting w_se_Mm_noCasting ok_Mm_deliver_Mm_noCasting d_Mm_deliver_8 (fun wA hA => Q_noCasting1 (hI.gen (t2 := t) (is := [52]) (L2 := []) hA rfl ⟨kd_52.mpr ⟨_, rfl⟩, trivial⟩ (by decide) (by decide) (fun _ h => nomatch h) (fun _ h => nomatch h) (fun _ _ _ => rfl) (fun h => h) rfl) x hx) rfl rfl (Nat.le_of_ble_eq_true rfl) (by omega) (by omega) (fun wA8 hA8 E wB8 hx => ?_) (fun wA8 hA8 v wB8 hx => ?_)
  · exact absurd hx.1 (by simp)
  · obtain ⟨e1, e2⟩ := hx
    cases e1
    refine yw_st (st2 := [.int 1, .ref (ad 52)]) rfl ?_
    subst e2
    refine y_go hA8 ?_
    refine y_iconst d_Mm_deliver_11 (v := 1) (by decide) ?_
    refine y_callV (As := [.int 1, .int 1]) (rest := []) (csC := [((ad 52), .inr (12, [.int 0, .ref (ad 53), .int (nI ((t.1 52).2.2 0)), .ref (ad 54), .ref (ad 55), .ref (ad 56), .ref (ad 57), .ref (ad 58), .ref (ad 59), .ref (ad 60), .ref (ad 61), .int ((t.1 52).1 0), .int ((t.1 52).1 1), .int ((t.1 52).1 2), .int ((t.1 52).1 3), .int ((t.1 52).1 4), .int ((t.1 52).1 5), .ref (ad 62), .ref (ad 63), .ref (ad 64), .int ((t.1 52).1 6), .int ((t.1 52).1 7), .int ((t.1 52).1 8), .int ((t.1 52).1 9), .int ((t.1 52).1 10), .ref (ad 65), .ref (ad 66), .ref (ad 67), .ref (ad 68), .long ((t.1 52).2.1 0), .long ((t.1 52).2.1 1)]))]) (is := [0]) (q0 := 0) rfl rfl ln_Mm_103 w_im_Mm_fails w_se_Mm_fails ok_Mm_deliver_Mm_fails d_Mm_deliver_12 (C_Mm_fails1 g (ad 52) (ad 53) (ad 54) (ad 55) (ad 56) (ad 57) (ad 58) (ad 59) (ad 60) (ad 61) (ad 62) (ad 63) (ad 64) (ad 65) (ad 66) (ad 67) (ad 68) 0 (nI ((t.1 52).2.2 0)) ((t.1 52).1 0) ((t.1 52).1 1) ((t.1 52).1 2) ((t.1 52).1 3) ((t.1 52).1 4) ((t.1 52).1 5) ((t.1 52).1 6) ((t.1 52).1 7) ((t.1 52).1 8) ((t.1 52).1 9) ((t.1 52).1 10) ((t.1 52).2.1 0) ((t.1 52).2.1 1)) rfl rfl (Nat.le_of_ble_eq_true rfl) rfl (by decide) (by omega) (by omega) (fun E cs1 hx => ?_) (fun v cs1 hx => ?_)
    · exact absurd hx.1 (by simp)
    · obtain ⟨e1, rfl⟩ := hx
      cases e1
      refine ⟨rfl, ?_⟩
      refine y_st (st2 := [.int 1]) rfl ?_
      refine y_cs (cs2 := [((ad 52), .inr (12, [.int 1, .ref (ad 53), .int (nI ((t.1 52).2.2 0)), .ref (ad 54), .ref (ad 55), .ref (ad 56), .ref (ad 57), .ref (ad 58), .ref (ad 59), .ref (ad 60), .ref (ad 61), .int ((t.1 52).1 0), .int ((t.1 52).1 1), .int ((t.1 52).1 2), .int ((t.1 52).1 3), .int ((t.1 52).1 4), .int ((t.1 52).1 5), .ref (ad 62), .ref (ad 63), .ref (ad 64), .int ((t.1 52).1 6), .int ((t.1 52).1 7), .int ((t.1 52).1 8), .int ((t.1 52).1 9), .int ((t.1 52).1 10), .ref (ad 65), .ref (ad 66), .ref (ad 67), .ref (ad 68), .long ((t.1 52).2.1 0), .long ((t.1 52).2.1 1)]))]) rfl ?_
      refine y_if_ne (tgt := 47) d_Mm_deliver_15 (by decide) (fun c_15 => ?_) (fun c_15 => ?_)
      · refine y_iconst d_Mm_deliver_47 (v := 0) (by decide) ?_
        refine y_iret d_Mm_deliver_48 rfl rfl ?_
        exact fun w1 h1 => ⟨⟨_, rfl⟩, (hI.gen (t2 := t) (is := [52]) (L2 := []) h1 rfl ⟨kd_52.mpr ⟨_, rfl⟩, trivial⟩ (by decide) (by decide) (fun _ h => nomatch h) (fun _ h => nomatch h) (fun _ _ _ => rfl) (fun h => h) rfl)⟩
      · exact absurd c_15 (by decide)
set_option maxHeartbeats 4000000 in
set_option maxRecDepth 100000 in
theorem Q_Mm_breakUpE {g : zG} {ad : Nat → Nat} {t : zTT} {u : zNN} {w : zW} (hI : IV g ad t u w) (x : Int32) (hx : ¬ ∃ k, k < u.1 5 ∧ x = nI k) : zMB g M_Mm_breakUp [.ref (ad 52), .int x] w (fun o w1 => (∃ v : Int32, o = .inl (some (.int v))) ∧ IV g ad t u w1) 0 0 := by
  obtain ⟨e_m, wf_m, k_m⟩ := hI.1.2 52 (by decide)
  obtain ⟨v_m_th, rfl⟩ := kd_52.mp k_m
  refine y_of (by decide) rfl (Nat.le_of_ble_eq_true rfl) (y_base (cs := [((ad 52), .inr (12, [.int v_m_th, .ref (ad 53), .int (nI ((t.1 52).2.2 0)), .ref (ad 54), .ref (ad 55), .ref (ad 56), .ref (ad 57), .ref (ad 58), .ref (ad 59), .ref (ad 60), .ref (ad 61), .int ((t.1 52).1 0), .int ((t.1 52).1 1), .int ((t.1 52).1 2), .int ((t.1 52).1 3), .int ((t.1 52).1 4), .int ((t.1 52).1 5), .ref (ad 62), .ref (ad 63), .ref (ad 64), .int ((t.1 52).1 6), .int ((t.1 52).1 7), .int ((t.1 52).1 8), .int ((t.1 52).1 9), .int ((t.1 52).1 10), .ref (ad 65), .ref (ad 66), .ref (ad 67), .ref (ad 68), .long ((t.1 52).2.1 0), .long ((t.1 52).2.1 1)]))]) (hI.1.I [52] _ rfl (by decide) (by decide) (List.forall_mem_cons.mpr ⟨wf_m, (fun _ h => nomatch h)⟩)) ?_)
  refine y_lvE (lv2 := [(0, .ref (ad 52)), (1, .int x)]) rfl ?_
  refine y_aload_n d_Mm_breakUp_0 rfl 0 rfl ?_
  refine y_iconst d_Mm_breakUp_1 (v := 0) (by decide) ?_
  refine y_put fp_Mm_84 d_Mm_breakUp_2 (fun h => nomatch h) rfl rfl (q0 := 0) rfl (Nat.le_of_ble_eq_true rfl) (cs' := [((ad 52), .inr (12, [.int 0, .ref (ad 53), .int (nI ((t.1 52).2.2 0)), .ref (ad 54), .ref (ad 55), .ref (ad 56), .ref (ad 57), .ref (ad 58), .ref (ad 59), .ref (ad 60), .ref (ad 61), .int ((t.1 52).1 0), .int ((t.1 52).1 1), .int ((t.1 52).1 2), .int ((t.1 52).1 3), .int ((t.1 52).1 4), .int ((t.1 52).1 5), .ref (ad 62), .ref (ad 63), .ref (ad 64), .int ((t.1 52).1 6), .int ((t.1 52).1 7), .int ((t.1 52).1 8), .int ((t.1 52).1 9), .int ((t.1 52).1 10), .ref (ad 65), .ref (ad 66), .ref (ad 67), .ref (ad 68), .long ((t.1 52).2.1 0), .long ((t.1 52).2.1 1)]))]) rfl ?_
  refine y_aload_n d_Mm_breakUp_5 rfl 0 rfl ?_
  refine y_aload_n d_Mm_breakUp_6 rfl 0 rfl ?_
  refine y_iload_n d_Mm_breakUp_7 rfl 1 rfl ?_
  refine yw_callV (As := [.int x]) (rest := [.ref (ad 52)]) (q0 := 0) rfl rfl ln_Mm_301 w_im_Mm_noCasting w_se_Mm_noCasting ok_Mm_breakUp_Mm_noCasting d_Mm_breakUp_8 (fun wA hA => Q_noCasting1 (hI.gen (t2 := t) (is := [52]) (L2 := []) hA rfl ⟨kd_52.mpr ⟨_, rfl⟩, trivial⟩ (by decide) (by decide) (fun _ h => nomatch h) (fun _ h => nomatch h) (fun _ _ _ => rfl) (fun h => h) rfl) x hx) rfl rfl (Nat.le_of_ble_eq_true rfl) (by omega) (by omega) (fun wA8 hA8 E wB8 hx => ?_) (fun wA8 hA8 v wB8 hx => ?_)
  · exact absurd hx.1 (by simp)
  · obtain ⟨e1, e2⟩ := hx
    cases e1
    refine yw_st (st2 := [.int 1, .ref (ad 52)]) rfl ?_
    subst e2
    refine y_go hA8 ?_
    refine y_iconst d_Mm_breakUp_11 (v := 1) (by decide) ?_
    refine y_callV (As := [.int 1, .int 1]) (rest := []) (csC := [((ad 52), .inr (12, [.int 0, .ref (ad 53), .int (nI ((t.1 52).2.2 0)), .ref (ad 54), .ref (ad 55), .ref (ad 56), .ref (ad 57), .ref (ad 58), .ref (ad 59), .ref (ad 60), .ref (ad 61), .int ((t.1 52).1 0), .int ((t.1 52).1 1), .int ((t.1 52).1 2), .int ((t.1 52).1 3), .int ((t.1 52).1 4), .int ((t.1 52).1 5), .ref (ad 62), .ref (ad 63), .ref (ad 64), .int ((t.1 52).1 6), .int ((t.1 52).1 7), .int ((t.1 52).1 8), .int ((t.1 52).1 9), .int ((t.1 52).1 10), .ref (ad 65), .ref (ad 66), .ref (ad 67), .ref (ad 68), .long ((t.1 52).2.1 0), .long ((t.1 52).2.1 1)]))]) (is := [0]) (q0 := 0) rfl rfl ln_Mm_103 w_im_Mm_fails w_se_Mm_fails ok_Mm_breakUp_Mm_fails d_Mm_breakUp_12 (C_Mm_fails1 g (ad 52) (ad 53) (ad 54) (ad 55) (ad 56) (ad 57) (ad 58) (ad 59) (ad 60) (ad 61) (ad 62) (ad 63) (ad 64) (ad 65) (ad 66) (ad 67) (ad 68) 0 (nI ((t.1 52).2.2 0)) ((t.1 52).1 0) ((t.1 52).1 1) ((t.1 52).1 2) ((t.1 52).1 3) ((t.1 52).1 4) ((t.1 52).1 5) ((t.1 52).1 6) ((t.1 52).1 7) ((t.1 52).1 8) ((t.1 52).1 9) ((t.1 52).1 10) ((t.1 52).2.1 0) ((t.1 52).2.1 1)) rfl rfl (Nat.le_of_ble_eq_true rfl) rfl (by decide) (by omega) (by omega) (fun E cs1 hx => ?_) (fun v cs1 hx => ?_)
    · exact absurd hx.1 (by simp)
    · obtain ⟨e1, rfl⟩ := hx
      cases e1
      refine ⟨rfl, ?_⟩
      refine y_st (st2 := [.int 1]) rfl ?_
      refine y_cs (cs2 := [((ad 52), .inr (12, [.int 1, .ref (ad 53), .int (nI ((t.1 52).2.2 0)), .ref (ad 54), .ref (ad 55), .ref (ad 56), .ref (ad 57), .ref (ad 58), .ref (ad 59), .ref (ad 60), .ref (ad 61), .int ((t.1 52).1 0), .int ((t.1 52).1 1), .int ((t.1 52).1 2), .int ((t.1 52).1 3), .int ((t.1 52).1 4), .int ((t.1 52).1 5), .ref (ad 62), .ref (ad 63), .ref (ad 64), .int ((t.1 52).1 6), .int ((t.1 52).1 7), .int ((t.1 52).1 8), .int ((t.1 52).1 9), .int ((t.1 52).1 10), .ref (ad 65), .ref (ad 66), .ref (ad 67), .ref (ad 68), .long ((t.1 52).2.1 0), .long ((t.1 52).2.1 1)]))]) rfl ?_
      refine y_if_ne (tgt := 47) d_Mm_breakUp_15 (by decide) (fun c_15 => ?_) (fun c_15 => ?_)
      · refine y_iconst d_Mm_breakUp_47 (v := 0) (by decide) ?_
        refine y_iret d_Mm_breakUp_48 rfl rfl ?_
        exact fun w1 h1 => ⟨⟨_, rfl⟩, (hI.gen (t2 := t) (is := [52]) (L2 := []) h1 rfl ⟨kd_52.mpr ⟨_, rfl⟩, trivial⟩ (by decide) (by decide) (fun _ h => nomatch h) (fun _ h => nomatch h) (fun _ _ _ => rfl) (fun h => h) rfl)⟩
      · exact absurd c_15 (by decide)
theorem d_Mm_alloy_22 : decode prog_14_method_80_code 22 = .ok (.aload_n 0, 1) := zo_42 (zd_b zq_prog_14_method_80_code_0 22 rfl rfl rfl)
theorem d_Mm_alloy_23 : decode prog_14_method_80_code 23 = .ok (.getfield 78, 3) := zo_180 (d := 0) (e := 78) (zd_b zq_prog_14_method_80_code_0 23 rfl rfl rfl) (zd_b zq_prog_14_method_80_code_0 24 rfl rfl rfl) (zd_b zq_prog_14_method_80_code_0 25 rfl rfl rfl)
theorem d_Mm_alloy_26 : decode prog_14_method_80_code 26 = .ok (.iload_n 1, 1) := zo_27 (zd_b zq_prog_14_method_80_code_0 26 rfl rfl rfl)
theorem d_Mm_alloy_27 : decode prog_14_method_80_code 27 = .ok (.invokevirtual 211, 3) := zo_182 (d := 0) (e := 211) (zd_b zq_prog_14_method_80_code_0 27 rfl rfl rfl) (zd_b zq_prog_14_method_80_code_0 28 rfl rfl rfl) (zd_b zq_prog_14_method_80_code_0 29 rfl rfl rfl)
theorem ok_Mm_alloy_AL_get : z_ok M_Mm_alloy M_AL_get 1 := ⟨z_mj2 (i := 180) rfl (by decide +kernel), rfl, ⟨by decide +kernel, by decide +kernel, by decide +kernel⟩, ⟨by decide, by decide⟩, z_mj1 (i := 13) rfl (by decide +kernel), rfl⟩
theorem d_Mm_alloy_30 : decode prog_14_method_80_code 30 = .ok (.checkcast 215, 3) := zo_192 (d := 0) (e := 215) (zd_b zq_prog_14_method_80_code_0 30 rfl rfl rfl) (zd_b zq_prog_14_method_80_code_0 31 rfl rfl rfl) (zd_b zq_prog_14_method_80_code_1 0 rfl rfl rfl)
theorem d_Mm_alloy_33 : decode prog_14_method_80_code 33 = .ok (.iconst 4, 1) := zo_7 (zd_b zq_prog_14_method_80_code_1 1 rfl rfl rfl)
theorem d_Mm_alloy_34 : decode prog_14_method_80_code 34 = .ok (.iaload, 1) := zo_46 (zd_b zq_prog_14_method_80_code_1 2 rfl rfl rfl)
theorem d_Mm_alloy_35 : decode prog_14_method_80_code 35 = .ok (.iconst 1, 1) := zo_4 (zd_b zq_prog_14_method_80_code_1 3 rfl rfl rfl)
theorem d_Mm_alloy_36 : decode prog_14_method_80_code 36 = .ok (.if_icmp .ne 8, 3) := zo_160 (d := 0) (e := 8) (zd_b zq_prog_14_method_80_code_1 4 rfl rfl rfl) (zd_b zq_prog_14_method_80_code_1 5 rfl rfl rfl) (zd_b zq_prog_14_method_80_code_1 6 rfl rfl rfl) (by decide +kernel)
theorem d_Mm_alloy_44 : decode prog_14_method_80_code 44 = .ok (.bipush 103, 2) := zo_16 (d := 103) (zd_b zq_prog_14_method_80_code_1 12 rfl rfl rfl) (zd_b zq_prog_14_method_80_code_1 13 rfl rfl rfl) (by decide +kernel)
theorem d_Mm_alloy_39 : decode prog_14_method_80_code 39 = .ok (.bipush 100, 2) := zo_16 (d := 100) (zd_b zq_prog_14_method_80_code_1 7 rfl rfl rfl) (zd_b zq_prog_14_method_80_code_1 8 rfl rfl rfl) (by decide +kernel)
theorem d_Mm_alloy_41 : decode prog_14_method_80_code 41 = .ok (.goto 5, 3) := zo_167 (d := 0) (e := 5) (zd_b zq_prog_14_method_80_code_1 9 rfl rfl rfl) (zd_b zq_prog_14_method_80_code_1 10 rfl rfl rfl) (zd_b zq_prog_14_method_80_code_1 11 rfl rfl rfl) (by decide +kernel)
theorem d_Mm_faults_22 : decode prog_14_method_81_code 22 = .ok (.aload_n 0, 1) := zo_42 (zd_b zq_prog_14_method_81_code_0 22 rfl rfl rfl)
theorem d_Mm_faults_23 : decode prog_14_method_81_code 23 = .ok (.getfield 78, 3) := zo_180 (d := 0) (e := 78) (zd_b zq_prog_14_method_81_code_0 23 rfl rfl rfl) (zd_b zq_prog_14_method_81_code_0 24 rfl rfl rfl) (zd_b zq_prog_14_method_81_code_0 25 rfl rfl rfl)
theorem d_Mm_faults_26 : decode prog_14_method_81_code 26 = .ok (.iload_n 1, 1) := zo_27 (zd_b zq_prog_14_method_81_code_0 26 rfl rfl rfl)
theorem d_Mm_faults_27 : decode prog_14_method_81_code 27 = .ok (.invokevirtual 211, 3) := zo_182 (d := 0) (e := 211) (zd_b zq_prog_14_method_81_code_0 27 rfl rfl rfl) (zd_b zq_prog_14_method_81_code_0 28 rfl rfl rfl) (zd_b zq_prog_14_method_81_code_0 29 rfl rfl rfl)
theorem ok_Mm_faults_AL_get : z_ok M_Mm_faults M_AL_get 1 := ⟨z_mj2 (i := 180) rfl (by decide +kernel), rfl, ⟨by decide +kernel, by decide +kernel, by decide +kernel⟩, ⟨by decide, by decide⟩, z_mj1 (i := 13) rfl (by decide +kernel), rfl⟩
theorem d_Mm_faults_30 : decode prog_14_method_81_code 30 = .ok (.checkcast 215, 3) := zo_192 (d := 0) (e := 215) (zd_b zq_prog_14_method_81_code_0 30 rfl rfl rfl) (zd_b zq_prog_14_method_81_code_0 31 rfl rfl rfl) (zd_b zq_prog_14_method_81_code_1 0 rfl rfl rfl)
theorem d_Mm_faults_33 : decode prog_14_method_81_code 33 = .ok (.iconst 2, 1) := zo_5 (zd_b zq_prog_14_method_81_code_1 1 rfl rfl rfl)
theorem d_Mm_faults_34 : decode prog_14_method_81_code 34 = .ok (.iaload, 1) := zo_46 (zd_b zq_prog_14_method_81_code_1 2 rfl rfl rfl)
set_option maxHeartbeats 4000000 in
set_option maxRecDepth 100000 in
theorem Q_Mm_faultsN {g : zG} {ad : Nat → Nat} {t : zTT} {u : zNN} {w : zW} (hI : IV g ad t u w) (k : Nat) (hk : k < u.1 5) : zMB g M_Mm_faults [.ref (ad 52), .int (nI k)] w (fun o w1 => (∃ v : Int32, o = .inl (some (.int v))) ∧ IV g ad t u w1) 0 0 := by
  obtain ⟨e_m, wf_m, k_m⟩ := hI.1.2 52 (by decide)
  obtain ⟨v_m_th, rfl⟩ := kd_52.mp k_m
  refine y_of (by decide) rfl (Nat.le_of_ble_eq_true rfl) (y_base (cs := [((ad 52), .inr (12, [.int v_m_th, .ref (ad 53), .int (nI ((t.1 52).2.2 0)), .ref (ad 54), .ref (ad 55), .ref (ad 56), .ref (ad 57), .ref (ad 58), .ref (ad 59), .ref (ad 60), .ref (ad 61), .int ((t.1 52).1 0), .int ((t.1 52).1 1), .int ((t.1 52).1 2), .int ((t.1 52).1 3), .int ((t.1 52).1 4), .int ((t.1 52).1 5), .ref (ad 62), .ref (ad 63), .ref (ad 64), .int ((t.1 52).1 6), .int ((t.1 52).1 7), .int ((t.1 52).1 8), .int ((t.1 52).1 9), .int ((t.1 52).1 10), .ref (ad 65), .ref (ad 66), .ref (ad 67), .ref (ad 68), .long ((t.1 52).2.1 0), .long ((t.1 52).2.1 1)]))]) (hI.1.I [52] _ rfl (by decide) (by decide) (List.forall_mem_cons.mpr ⟨wf_m, (fun _ h => nomatch h)⟩)) ?_)
  refine y_lvE (lv2 := [(0, .ref (ad 52)), (1, .int (nI k))]) rfl ?_
  refine y_aload_n d_Mm_faults_0 rfl 0 rfl ?_
  refine y_iconst d_Mm_faults_1 (v := 0) (by decide) ?_
  refine y_put fp_Mm_84 d_Mm_faults_2 (fun h => nomatch h) rfl rfl (q0 := 0) rfl (Nat.le_of_ble_eq_true rfl) (cs' := [((ad 52), .inr (12, [.int 0, .ref (ad 53), .int (nI ((t.1 52).2.2 0)), .ref (ad 54), .ref (ad 55), .ref (ad 56), .ref (ad 57), .ref (ad 58), .ref (ad 59), .ref (ad 60), .ref (ad 61), .int ((t.1 52).1 0), .int ((t.1 52).1 1), .int ((t.1 52).1 2), .int ((t.1 52).1 3), .int ((t.1 52).1 4), .int ((t.1 52).1 5), .ref (ad 62), .ref (ad 63), .ref (ad 64), .int ((t.1 52).1 6), .int ((t.1 52).1 7), .int ((t.1 52).1 8), .int ((t.1 52).1 9), .int ((t.1 52).1 10), .ref (ad 65), .ref (ad 66), .ref (ad 67), .ref (ad 68), .long ((t.1 52).2.1 0), .long ((t.1 52).2.1 1)]))]) rfl ?_
  refine y_aload_n d_Mm_faults_5 rfl 0 rfl ?_
  refine y_aload_n d_Mm_faults_6 rfl 0 rfl ?_
  refine y_iload_n d_Mm_faults_7 rfl 1 rfl ?_
  refine yw_callV (As := [.int (nI k)]) (rest := [.ref (ad 52)]) (q0 := 0) rfl rfl ln_Mm_301 w_im_Mm_noCasting w_se_Mm_noCasting ok_Mm_faults_Mm_noCasting d_Mm_faults_8 (fun wA hA => Q_noCasting0 (hI.gen (t2 := t) (is := [52]) (L2 := []) hA rfl ⟨kd_52.mpr ⟨_, rfl⟩, trivial⟩ (by decide) (by decide) (fun _ h => nomatch h) (fun _ h => nomatch h) (fun _ _ _ => rfl) (fun h => h) rfl) (nI k) ⟨k, hk, rfl⟩) rfl rfl (Nat.le_of_ble_eq_true rfl) (by omega) (by omega) (fun wA8 hA8 E wB8 hx => ?_) (fun wA8 hA8 v wB8 hx => ?_)
  · exact absurd hx.1 (by simp)
  · obtain ⟨e1, e2⟩ := hx
    cases e1
    refine yw_st (st2 := [.int 0, .ref (ad 52)]) rfl ?_
    subst e2
    refine y_go hA8 ?_
    refine y_iconst d_Mm_faults_11 (v := 1) (by decide) ?_
    refine y_callV (As := [.int 0, .int 1]) (rest := []) (csC := [((ad 52), .inr (12, [.int 0, .ref (ad 53), .int (nI ((t.1 52).2.2 0)), .ref (ad 54), .ref (ad 55), .ref (ad 56), .ref (ad 57), .ref (ad 58), .ref (ad 59), .ref (ad 60), .ref (ad 61), .int ((t.1 52).1 0), .int ((t.1 52).1 1), .int ((t.1 52).1 2), .int ((t.1 52).1 3), .int ((t.1 52).1 4), .int ((t.1 52).1 5), .ref (ad 62), .ref (ad 63), .ref (ad 64), .int ((t.1 52).1 6), .int ((t.1 52).1 7), .int ((t.1 52).1 8), .int ((t.1 52).1 9), .int ((t.1 52).1 10), .ref (ad 65), .ref (ad 66), .ref (ad 67), .ref (ad 68), .long ((t.1 52).2.1 0), .long ((t.1 52).2.1 1)]))]) (is := [0]) (q0 := 0) rfl rfl ln_Mm_103 w_im_Mm_fails w_se_Mm_fails ok_Mm_faults_Mm_fails d_Mm_faults_12 (C_Mm_fails0 g (ad 52) (ad 53) (ad 54) (ad 55) (ad 56) (ad 57) (ad 58) (ad 59) (ad 60) (ad 61) (ad 62) (ad 63) (ad 64) (ad 65) (ad 66) (ad 67) (ad 68) 0 (nI ((t.1 52).2.2 0)) ((t.1 52).1 0) ((t.1 52).1 1) ((t.1 52).1 2) ((t.1 52).1 3) ((t.1 52).1 4) ((t.1 52).1 5) ((t.1 52).1 6) ((t.1 52).1 7) ((t.1 52).1 8) ((t.1 52).1 9) ((t.1 52).1 10) ((t.1 52).2.1 0) ((t.1 52).2.1 1) 1) rfl rfl (Nat.le_of_ble_eq_true rfl) rfl (by decide) (by omega) (by omega) (fun E cs1 hx => ?_) (fun v cs1 hx => ?_)
    · exact absurd hx.1 (by simp)
    · obtain ⟨e1, rfl⟩ := hx
      cases e1
      refine ⟨rfl, ?_⟩
      refine y_st (st2 := [.int 0]) rfl ?_
      refine y_cs (cs2 := [((ad 52), .inr (12, [.int 0, .ref (ad 53), .int (nI ((t.1 52).2.2 0)), .ref (ad 54), .ref (ad 55), .ref (ad 56), .ref (ad 57), .ref (ad 58), .ref (ad 59), .ref (ad 60), .ref (ad 61), .int ((t.1 52).1 0), .int ((t.1 52).1 1), .int ((t.1 52).1 2), .int ((t.1 52).1 3), .int ((t.1 52).1 4), .int ((t.1 52).1 5), .ref (ad 62), .ref (ad 63), .ref (ad 64), .int ((t.1 52).1 6), .int ((t.1 52).1 7), .int ((t.1 52).1 8), .int ((t.1 52).1 9), .int ((t.1 52).1 10), .ref (ad 65), .ref (ad 66), .ref (ad 67), .ref (ad 68), .long ((t.1 52).2.1 0), .long ((t.1 52).2.1 1)]))]) rfl ?_
      refine y_if_eq (tgt := 22) d_Mm_faults_15 (by decide) (fun c_15 => ?_) (fun c_15 => ?_)
      · refine y_aload_n d_Mm_faults_22 rfl 0 rfl ?_
        refine y_get fs_Mm_78 d_Mm_faults_23 (q0 := 0) rfl rfl ?_
        refine y_iload_n d_Mm_faults_26 rfl 1 rfl ?_
        refine yw_callVL (As := [.int (nI k)]) (rest := []) (ci := 13) rfl (fun wA hA => ((hI.gen (t2 := t) (is := [52]) (L2 := []) hA rfl ⟨kd_52.mpr ⟨_, rfl⟩, trivial⟩ (by decide) (by decide) (fun _ h => nomatch h) (fun _ h => nomatch h) (fun _ _ _ => rfl) (fun h => h) rfl).2.1.1 5 (by decide)).ob) ln_Mm_211 w_im_AL_get w_se_AL_get ok_Mm_faults_AL_get d_Mm_faults_27 (fun wA hA => Q_get ((hI.gen (t2 := t) (is := [52]) (L2 := []) hA rfl ⟨kd_52.mpr ⟨_, rfl⟩, trivial⟩ (by decide) (by decide) (fun _ h => nomatch h) (fun _ h => nomatch h) (fun _ _ _ => rfl) (fun h => h) rfl).2.1.1 5 (by decide)) hk) rfl rfl (Nat.le_of_ble_eq_true rfl) (by omega) (by omega) (fun wA27 hA27 E wB27 hx => ?_) (fun wA27 hA27 v wB27 hx => ?_)
        · exact absurd hx.1 (by simp)
        · obtain ⟨e1, e2⟩ := hx
          cases e1
          refine yw_st (st2 := [.ref (u.2.2 5 k)]) rfl ?_
          subst e2
          refine y_go hA27 ?_
          refine y_end (fun wC1 hC1 => ?_)
          have hI9 := (hI.gen (t2 := t) (is := [52]) (L2 := []) hC1 rfl ⟨kd_52.mpr ⟨_, rfl⟩, trivial⟩ (by decide) (by decide) (fun _ h => nomatch h) (fun _ h => nomatch h) (fun _ _ _ => rfl) (fun h => h) rfl)
          have hI := hI9
          obtain ⟨nf_c, hw_c, h0_c⟩ := hI.2.1.2.1 5 (by decide) k hk
          refine y_base (cs := [((ad 52), .inr (12, [.int 0, .ref (ad 53), .int (nI ((t.1 52).2.2 0)), .ref (ad 54), .ref (ad 55), .ref (ad 56), .ref (ad 57), .ref (ad 58), .ref (ad 59), .ref (ad 60), .ref (ad 61), .int ((t.1 52).1 0), .int ((t.1 52).1 1), .int ((t.1 52).1 2), .int ((t.1 52).1 3), .int ((t.1 52).1 4), .int ((t.1 52).1 5), .ref (ad 62), .ref (ad 63), .ref (ad 64), .int ((t.1 52).1 6), .int ((t.1 52).1 7), .int ((t.1 52).1 8), .int ((t.1 52).1 9), .int ((t.1 52).1 10), .ref (ad 65), .ref (ad 66), .ref (ad 67), .ref (ad 68), .long ((t.1 52).2.1 0), .long ((t.1 52).2.1 1)])), ((u.2.2 5 k), .inl (0, 6, .inl ((t.2 5 k).2.1)))]) (z_I.kd (List.forall_mem_cons.mpr ⟨hC1.at (q0 := 0) rfl, (List.forall_mem_cons.mpr ⟨hw_c, (fun _ h => nomatch h)⟩)⟩) (by simp [z_kd])) ?_
          refine y_castA (t := 0) (by decide) lk_Mm_215 d_Mm_faults_30 (q0 := 1) rfl ?_
          refine y_iconst d_Mm_faults_33 (v := 2) (by decide) ?_
          refine y_iald d_Mm_faults_34 (q0 := 1) rfl (fun q => q.elim (by decide) (by decide)) (v := ((t.2 5 k).2.1) 2) rfl ?_
          refine y_iret d_Mm_faults_35 rfl rfl ?_
          exact fun w1 h1 => ⟨⟨_, rfl⟩, (hI.gen (t2 := t) (is := [52]) (L2 := [(u.2.2 5 k)]) h1 rfl ⟨kd_52.mpr ⟨_, rfl⟩, trivial⟩ (by decide) (by decide) (List.forall_mem_cons.mpr ⟨nf_c, (fun _ h => nomatch h)⟩) (List.forall_mem_cons.mpr ⟨⟨_, hw_c, h1.at (q0 := 1) rfl⟩, (fun _ h => nomatch h)⟩) (fun _ _ _ => rfl) (fun h => h) rfl)⟩
      · exact absurd c_15 (by decide)
theorem d_Mm_shrunkIn_22 : decode prog_14_method_82_code 22 = .ok (.aload_n 0, 1) := zo_42 (zd_b zq_prog_14_method_82_code_0 22 rfl rfl rfl)
theorem d_Mm_shrunkIn_23 : decode prog_14_method_82_code 23 = .ok (.getfield 78, 3) := zo_180 (d := 0) (e := 78) (zd_b zq_prog_14_method_82_code_0 23 rfl rfl rfl) (zd_b zq_prog_14_method_82_code_0 24 rfl rfl rfl) (zd_b zq_prog_14_method_82_code_0 25 rfl rfl rfl)
theorem d_Mm_shrunkIn_26 : decode prog_14_method_82_code 26 = .ok (.iload_n 1, 1) := zo_27 (zd_b zq_prog_14_method_82_code_0 26 rfl rfl rfl)
theorem d_Mm_shrunkIn_27 : decode prog_14_method_82_code 27 = .ok (.invokevirtual 211, 3) := zo_182 (d := 0) (e := 211) (zd_b zq_prog_14_method_82_code_0 27 rfl rfl rfl) (zd_b zq_prog_14_method_82_code_0 28 rfl rfl rfl) (zd_b zq_prog_14_method_82_code_0 29 rfl rfl rfl)
theorem ok_Mm_shrunkIn_AL_get : z_ok M_Mm_shrunkIn M_AL_get 1 := ⟨z_mj2 (i := 180) rfl (by decide +kernel), rfl, ⟨by decide +kernel, by decide +kernel, by decide +kernel⟩, ⟨by decide, by decide⟩, z_mj1 (i := 13) rfl (by decide +kernel), rfl⟩
theorem d_Mm_shrunkIn_30 : decode prog_14_method_82_code 30 = .ok (.checkcast 215, 3) := zo_192 (d := 0) (e := 215) (zd_b zq_prog_14_method_82_code_0 30 rfl rfl rfl) (zd_b zq_prog_14_method_82_code_0 31 rfl rfl rfl) (zd_b zq_prog_14_method_82_code_1 0 rfl rfl rfl)
theorem d_Mm_shrunkIn_33 : decode prog_14_method_82_code 33 = .ok (.iconst 3, 1) := zo_6 (zd_b zq_prog_14_method_82_code_1 1 rfl rfl rfl)
theorem d_Mm_shrunkIn_34 : decode prog_14_method_82_code 34 = .ok (.iaload, 1) := zo_46 (zd_b zq_prog_14_method_82_code_1 2 rfl rfl rfl)
set_option maxHeartbeats 4000000 in
set_option maxRecDepth 100000 in
theorem Q_Mm_shrunkInN {g : zG} {ad : Nat → Nat} {t : zTT} {u : zNN} {w : zW} (hI : IV g ad t u w) (k : Nat) (hk : k < u.1 5) : zMB g M_Mm_shrunkIn [.ref (ad 52), .int (nI k)] w (fun o w1 => (∃ v : Int32, o = .inl (some (.int v))) ∧ IV g ad t u w1) 0 0 := by
  obtain ⟨e_m, wf_m, k_m⟩ := hI.1.2 52 (by decide)
  obtain ⟨v_m_th, rfl⟩ := kd_52.mp k_m
  refine y_of (by decide) rfl (Nat.le_of_ble_eq_true rfl) (y_base (cs := [((ad 52), .inr (12, [.int v_m_th, .ref (ad 53), .int (nI ((t.1 52).2.2 0)), .ref (ad 54), .ref (ad 55), .ref (ad 56), .ref (ad 57), .ref (ad 58), .ref (ad 59), .ref (ad 60), .ref (ad 61), .int ((t.1 52).1 0), .int ((t.1 52).1 1), .int ((t.1 52).1 2), .int ((t.1 52).1 3), .int ((t.1 52).1 4), .int ((t.1 52).1 5), .ref (ad 62), .ref (ad 63), .ref (ad 64), .int ((t.1 52).1 6), .int ((t.1 52).1 7), .int ((t.1 52).1 8), .int ((t.1 52).1 9), .int ((t.1 52).1 10), .ref (ad 65), .ref (ad 66), .ref (ad 67), .ref (ad 68), .long ((t.1 52).2.1 0), .long ((t.1 52).2.1 1)]))]) (hI.1.I [52] _ rfl (by decide) (by decide) (List.forall_mem_cons.mpr ⟨wf_m, (fun _ h => nomatch h)⟩)) ?_)
  refine y_lvE (lv2 := [(0, .ref (ad 52)), (1, .int (nI k))]) rfl ?_
  refine y_aload_n d_Mm_shrunkIn_0 rfl 0 rfl ?_
  refine y_iconst d_Mm_shrunkIn_1 (v := 0) (by decide) ?_
  refine y_put fp_Mm_84 d_Mm_shrunkIn_2 (fun h => nomatch h) rfl rfl (q0 := 0) rfl (Nat.le_of_ble_eq_true rfl) (cs' := [((ad 52), .inr (12, [.int 0, .ref (ad 53), .int (nI ((t.1 52).2.2 0)), .ref (ad 54), .ref (ad 55), .ref (ad 56), .ref (ad 57), .ref (ad 58), .ref (ad 59), .ref (ad 60), .ref (ad 61), .int ((t.1 52).1 0), .int ((t.1 52).1 1), .int ((t.1 52).1 2), .int ((t.1 52).1 3), .int ((t.1 52).1 4), .int ((t.1 52).1 5), .ref (ad 62), .ref (ad 63), .ref (ad 64), .int ((t.1 52).1 6), .int ((t.1 52).1 7), .int ((t.1 52).1 8), .int ((t.1 52).1 9), .int ((t.1 52).1 10), .ref (ad 65), .ref (ad 66), .ref (ad 67), .ref (ad 68), .long ((t.1 52).2.1 0), .long ((t.1 52).2.1 1)]))]) rfl ?_
  refine y_aload_n d_Mm_shrunkIn_5 rfl 0 rfl ?_
  refine y_aload_n d_Mm_shrunkIn_6 rfl 0 rfl ?_
  refine y_iload_n d_Mm_shrunkIn_7 rfl 1 rfl ?_
  refine yw_callV (As := [.int (nI k)]) (rest := [.ref (ad 52)]) (q0 := 0) rfl rfl ln_Mm_301 w_im_Mm_noCasting w_se_Mm_noCasting ok_Mm_shrunkIn_Mm_noCasting d_Mm_shrunkIn_8 (fun wA hA => Q_noCasting0 (hI.gen (t2 := t) (is := [52]) (L2 := []) hA rfl ⟨kd_52.mpr ⟨_, rfl⟩, trivial⟩ (by decide) (by decide) (fun _ h => nomatch h) (fun _ h => nomatch h) (fun _ _ _ => rfl) (fun h => h) rfl) (nI k) ⟨k, hk, rfl⟩) rfl rfl (Nat.le_of_ble_eq_true rfl) (by omega) (by omega) (fun wA8 hA8 E wB8 hx => ?_) (fun wA8 hA8 v wB8 hx => ?_)
  · exact absurd hx.1 (by simp)
  · obtain ⟨e1, e2⟩ := hx
    cases e1
    refine yw_st (st2 := [.int 0, .ref (ad 52)]) rfl ?_
    subst e2
    refine y_go hA8 ?_
    refine y_iconst d_Mm_shrunkIn_11 (v := 1) (by decide) ?_
    refine y_callV (As := [.int 0, .int 1]) (rest := []) (csC := [((ad 52), .inr (12, [.int 0, .ref (ad 53), .int (nI ((t.1 52).2.2 0)), .ref (ad 54), .ref (ad 55), .ref (ad 56), .ref (ad 57), .ref (ad 58), .ref (ad 59), .ref (ad 60), .ref (ad 61), .int ((t.1 52).1 0), .int ((t.1 52).1 1), .int ((t.1 52).1 2), .int ((t.1 52).1 3), .int ((t.1 52).1 4), .int ((t.1 52).1 5), .ref (ad 62), .ref (ad 63), .ref (ad 64), .int ((t.1 52).1 6), .int ((t.1 52).1 7), .int ((t.1 52).1 8), .int ((t.1 52).1 9), .int ((t.1 52).1 10), .ref (ad 65), .ref (ad 66), .ref (ad 67), .ref (ad 68), .long ((t.1 52).2.1 0), .long ((t.1 52).2.1 1)]))]) (is := [0]) (q0 := 0) rfl rfl ln_Mm_103 w_im_Mm_fails w_se_Mm_fails ok_Mm_shrunkIn_Mm_fails d_Mm_shrunkIn_12 (C_Mm_fails0 g (ad 52) (ad 53) (ad 54) (ad 55) (ad 56) (ad 57) (ad 58) (ad 59) (ad 60) (ad 61) (ad 62) (ad 63) (ad 64) (ad 65) (ad 66) (ad 67) (ad 68) 0 (nI ((t.1 52).2.2 0)) ((t.1 52).1 0) ((t.1 52).1 1) ((t.1 52).1 2) ((t.1 52).1 3) ((t.1 52).1 4) ((t.1 52).1 5) ((t.1 52).1 6) ((t.1 52).1 7) ((t.1 52).1 8) ((t.1 52).1 9) ((t.1 52).1 10) ((t.1 52).2.1 0) ((t.1 52).2.1 1) 1) rfl rfl (Nat.le_of_ble_eq_true rfl) rfl (by decide) (by omega) (by omega) (fun E cs1 hx => ?_) (fun v cs1 hx => ?_)
    · exact absurd hx.1 (by simp)
    · obtain ⟨e1, rfl⟩ := hx
      cases e1
      refine ⟨rfl, ?_⟩
      refine y_st (st2 := [.int 0]) rfl ?_
      refine y_cs (cs2 := [((ad 52), .inr (12, [.int 0, .ref (ad 53), .int (nI ((t.1 52).2.2 0)), .ref (ad 54), .ref (ad 55), .ref (ad 56), .ref (ad 57), .ref (ad 58), .ref (ad 59), .ref (ad 60), .ref (ad 61), .int ((t.1 52).1 0), .int ((t.1 52).1 1), .int ((t.1 52).1 2), .int ((t.1 52).1 3), .int ((t.1 52).1 4), .int ((t.1 52).1 5), .ref (ad 62), .ref (ad 63), .ref (ad 64), .int ((t.1 52).1 6), .int ((t.1 52).1 7), .int ((t.1 52).1 8), .int ((t.1 52).1 9), .int ((t.1 52).1 10), .ref (ad 65), .ref (ad 66), .ref (ad 67), .ref (ad 68), .long ((t.1 52).2.1 0), .long ((t.1 52).2.1 1)]))]) rfl ?_
      refine y_if_eq (tgt := 22) d_Mm_shrunkIn_15 (by decide) (fun c_15 => ?_) (fun c_15 => ?_)
      · refine y_aload_n d_Mm_shrunkIn_22 rfl 0 rfl ?_
        refine y_get fs_Mm_78 d_Mm_shrunkIn_23 (q0 := 0) rfl rfl ?_
        refine y_iload_n d_Mm_shrunkIn_26 rfl 1 rfl ?_
        refine yw_callVL (As := [.int (nI k)]) (rest := []) (ci := 13) rfl (fun wA hA => ((hI.gen (t2 := t) (is := [52]) (L2 := []) hA rfl ⟨kd_52.mpr ⟨_, rfl⟩, trivial⟩ (by decide) (by decide) (fun _ h => nomatch h) (fun _ h => nomatch h) (fun _ _ _ => rfl) (fun h => h) rfl).2.1.1 5 (by decide)).ob) ln_Mm_211 w_im_AL_get w_se_AL_get ok_Mm_shrunkIn_AL_get d_Mm_shrunkIn_27 (fun wA hA => Q_get ((hI.gen (t2 := t) (is := [52]) (L2 := []) hA rfl ⟨kd_52.mpr ⟨_, rfl⟩, trivial⟩ (by decide) (by decide) (fun _ h => nomatch h) (fun _ h => nomatch h) (fun _ _ _ => rfl) (fun h => h) rfl).2.1.1 5 (by decide)) hk) rfl rfl (Nat.le_of_ble_eq_true rfl) (by omega) (by omega) (fun wA27 hA27 E wB27 hx => ?_) (fun wA27 hA27 v wB27 hx => ?_)
        · exact absurd hx.1 (by simp)
        · obtain ⟨e1, e2⟩ := hx
          cases e1
          refine yw_st (st2 := [.ref (u.2.2 5 k)]) rfl ?_
          subst e2
          refine y_go hA27 ?_
          refine y_end (fun wC1 hC1 => ?_)
          have hI9 := (hI.gen (t2 := t) (is := [52]) (L2 := []) hC1 rfl ⟨kd_52.mpr ⟨_, rfl⟩, trivial⟩ (by decide) (by decide) (fun _ h => nomatch h) (fun _ h => nomatch h) (fun _ _ _ => rfl) (fun h => h) rfl)
          have hI := hI9
          obtain ⟨nf_c, hw_c, h0_c⟩ := hI.2.1.2.1 5 (by decide) k hk
          refine y_base (cs := [((ad 52), .inr (12, [.int 0, .ref (ad 53), .int (nI ((t.1 52).2.2 0)), .ref (ad 54), .ref (ad 55), .ref (ad 56), .ref (ad 57), .ref (ad 58), .ref (ad 59), .ref (ad 60), .ref (ad 61), .int ((t.1 52).1 0), .int ((t.1 52).1 1), .int ((t.1 52).1 2), .int ((t.1 52).1 3), .int ((t.1 52).1 4), .int ((t.1 52).1 5), .ref (ad 62), .ref (ad 63), .ref (ad 64), .int ((t.1 52).1 6), .int ((t.1 52).1 7), .int ((t.1 52).1 8), .int ((t.1 52).1 9), .int ((t.1 52).1 10), .ref (ad 65), .ref (ad 66), .ref (ad 67), .ref (ad 68), .long ((t.1 52).2.1 0), .long ((t.1 52).2.1 1)])), ((u.2.2 5 k), .inl (0, 6, .inl ((t.2 5 k).2.1)))]) (z_I.kd (List.forall_mem_cons.mpr ⟨hC1.at (q0 := 0) rfl, (List.forall_mem_cons.mpr ⟨hw_c, (fun _ h => nomatch h)⟩)⟩) (by simp [z_kd])) ?_
          refine y_castA (t := 0) (by decide) lk_Mm_215 d_Mm_shrunkIn_30 (q0 := 1) rfl ?_
          refine y_iconst d_Mm_shrunkIn_33 (v := 3) (by decide) ?_
          refine y_iald d_Mm_shrunkIn_34 (q0 := 1) rfl (fun q => q.elim (by decide) (by decide)) (v := ((t.2 5 k).2.1) 3) rfl ?_
          refine y_iret d_Mm_shrunkIn_35 rfl rfl ?_
          exact fun w1 h1 => ⟨⟨_, rfl⟩, (hI.gen (t2 := t) (is := [52]) (L2 := [(u.2.2 5 k)]) h1 rfl ⟨kd_52.mpr ⟨_, rfl⟩, trivial⟩ (by decide) (by decide) (List.forall_mem_cons.mpr ⟨nf_c, (fun _ h => nomatch h)⟩) (List.forall_mem_cons.mpr ⟨⟨_, hw_c, h1.at (q0 := 1) rfl⟩, (fun _ h => nomatch h)⟩) (fun _ _ _ => rfl) (fun h => h) rfl)⟩
      · exact absurd c_15 (by decide)
abbrev M_Mm_hasElement : zM := (⟨"IronpourModel", "hasElement", "(II)I"⟩, prog_14_method_83_code, 3, (Option.some FieldType.int), 4, 84, [])
theorem d_Mm_hasElement_0 : decode prog_14_method_83_code 0 = .ok (.aload_n 0, 1) := zo_42 (zd_b zq_prog_14_method_83_code_0 0 rfl rfl rfl)
theorem d_Mm_hasElement_1 : decode prog_14_method_83_code 1 = .ok (.getfield 81, 3) := zo_180 (d := 0) (e := 81) (zd_b zq_prog_14_method_83_code_0 1 rfl rfl rfl) (zd_b zq_prog_14_method_83_code_0 2 rfl rfl rfl) (zd_b zq_prog_14_method_83_code_0 3 rfl rfl rfl)
theorem fs_Mm_81 : z_fs "IronpourModel" 81 12 28 := ⟨R_Mm, "IronpourModel", F_Mm, 31, rfl, u_Mm, by decide, Or.inl ⟨z_mj7 (i := 111) rfl (by decide +kernel), Or.inl rfl⟩⟩
theorem d_Mm_hasElement_4 : decode prog_14_method_83_code 4 = .ok (.iload_n 1, 1) := zo_27 (zd_b zq_prog_14_method_83_code_0 4 rfl rfl rfl)
theorem d_Mm_hasElement_5 : decode prog_14_method_83_code 5 = .ok (.invokevirtual 211, 3) := zo_182 (d := 0) (e := 211) (zd_b zq_prog_14_method_83_code_0 5 rfl rfl rfl) (zd_b zq_prog_14_method_83_code_0 6 rfl rfl rfl) (zd_b zq_prog_14_method_83_code_0 7 rfl rfl rfl)
theorem ok_Mm_hasElement_AL_get : z_ok M_Mm_hasElement M_AL_get 1 := ⟨z_mj2 (i := 180) rfl (by decide +kernel), rfl, ⟨by decide +kernel, by decide +kernel, by decide +kernel⟩, ⟨by decide, by decide⟩, z_mj1 (i := 13) rfl (by decide +kernel), rfl⟩
theorem d_Mm_hasElement_8 : decode prog_14_method_83_code 8 = .ok (.checkcast 304, 3) := zo_192 (d := 1) (e := 48) (zd_b zq_prog_14_method_83_code_0 8 rfl rfl rfl) (zd_b zq_prog_14_method_83_code_0 9 rfl rfl rfl) (zd_b zq_prog_14_method_83_code_0 10 rfl rfl rfl)
theorem lk_Mm_304 : Cond.classLink "IronpourModel" 304 (z_an 3) ∈ z_gw := z_mj9 (i := 34) rfl (by decide +kernel)
theorem d_Mm_hasElement_11 : decode prog_14_method_83_code 11 = .ok (.iload_n 2, 1) := zo_28 (zd_b zq_prog_14_method_83_code_0 11 rfl rfl rfl)
theorem d_Mm_hasElement_12 : decode prog_14_method_83_code 12 = .ok (.laload, 1) := zo_47 (zd_b zq_prog_14_method_83_code_0 12 rfl rfl rfl)
theorem d_Mm_hasElement_13 : decode prog_14_method_83_code 13 = .ok (.ldc2_w 244, 3) := zo_20 (d := 0) (e := 244) (zd_b zq_prog_14_method_83_code_0 13 rfl rfl rfl) (zd_b zq_prog_14_method_83_code_0 14 rfl rfl rfl) (zd_b zq_prog_14_method_83_code_0 15 rfl rfl rfl)
theorem d_Mm_hasElement_16 : decode prog_14_method_83_code 16 = .ok (.lmul, 1) := zo_105 (zd_b zq_prog_14_method_83_code_0 16 rfl rfl rfl)
theorem d_Mm_hasElement_17 : decode prog_14_method_83_code 17 = .ok (.aload_n 0, 1) := zo_42 (zd_b zq_prog_14_method_83_code_0 17 rfl rfl rfl)
theorem d_Mm_hasElement_18 : decode prog_14_method_83_code 18 = .ok (.getfield 78, 3) := zo_180 (d := 0) (e := 78) (zd_b zq_prog_14_method_83_code_0 18 rfl rfl rfl) (zd_b zq_prog_14_method_83_code_0 19 rfl rfl rfl) (zd_b zq_prog_14_method_83_code_0 20 rfl rfl rfl)
theorem d_Mm_hasElement_21 : decode prog_14_method_83_code 21 = .ok (.iload_n 1, 1) := zo_27 (zd_b zq_prog_14_method_83_code_0 21 rfl rfl rfl)
theorem d_Mm_hasElement_22 : decode prog_14_method_83_code 22 = .ok (.invokevirtual 211, 3) := zo_182 (d := 0) (e := 211) (zd_b zq_prog_14_method_83_code_0 22 rfl rfl rfl) (zd_b zq_prog_14_method_83_code_0 23 rfl rfl rfl) (zd_b zq_prog_14_method_83_code_0 24 rfl rfl rfl)
theorem d_Mm_hasElement_25 : decode prog_14_method_83_code 25 = .ok (.checkcast 215, 3) := zo_192 (d := 0) (e := 215) (zd_b zq_prog_14_method_83_code_0 25 rfl rfl rfl) (zd_b zq_prog_14_method_83_code_0 26 rfl rfl rfl) (zd_b zq_prog_14_method_83_code_0 27 rfl rfl rfl)
theorem d_Mm_hasElement_28 : decode prog_14_method_83_code 28 = .ok (.iconst 0, 1) := zo_3 (zd_b zq_prog_14_method_83_code_0 28 rfl rfl rfl)
theorem d_Mm_hasElement_29 : decode prog_14_method_83_code 29 = .ok (.iaload, 1) := zo_46 (zd_b zq_prog_14_method_83_code_0 29 rfl rfl rfl)
theorem d_Mm_hasElement_30 : decode prog_14_method_83_code 30 = .ok (.i2l, 1) := zo_133 (zd_b zq_prog_14_method_83_code_0 30 rfl rfl rfl)
theorem d_Mm_hasElement_31 : decode prog_14_method_83_code 31 = .ok (.ldiv, 1) := zo_109 (zd_b zq_prog_14_method_83_code_0 31 rfl rfl rfl)
theorem d_Mm_hasElement_32 : decode prog_14_method_83_code 32 = .ok (.l2i, 1) := zo_136 (zd_b zq_prog_14_method_83_code_1 0 rfl rfl rfl)
theorem d_Mm_hasElement_33 : decode prog_14_method_83_code 33 = .ok (.ireturn, 1) := zo_172 (zd_b zq_prog_14_method_83_code_1 1 rfl rfl rfl)
set_option maxHeartbeats 4000000 in
set_option maxRecDepth 100000 in
theorem Q_hasElement {g : zG} {ad : Nat → Nat} {t : zTT} {u : zNN} {w : zW} (hI : IV g ad t u w) (k e : Nat) (hk : k < u.1 5) (he : e < 4) : zMB g M_Mm_hasElement [.ref (ad 52), .int (nI k), .int (nI e)] w (fun o w1 => (∃ v : Int32, o = .inl (some (.int v))) ∧ w1 = w) 0 0 := by
  obtain ⟨e_m, wf_m, k_m⟩ := hI.1.2 52 (by decide)
  obtain ⟨v_m_th, rfl⟩ := kd_52.mp k_m
  have hJ := hI.1.I [52] [((ad 52), .inr (12, [.int v_m_th, .ref (ad 53), .int (nI ((t.1 52).2.2 0)), .ref (ad 54), .ref (ad 55), .ref (ad 56), .ref (ad 57), .ref (ad 58), .ref (ad 59), .ref (ad 60), .ref (ad 61), .int ((t.1 52).1 0), .int ((t.1 52).1 1), .int ((t.1 52).1 2), .int ((t.1 52).1 3), .int ((t.1 52).1 4), .int ((t.1 52).1 5), .ref (ad 62), .ref (ad 63), .ref (ad 64), .int ((t.1 52).1 6), .int ((t.1 52).1 7), .int ((t.1 52).1 8), .int ((t.1 52).1 9), .int ((t.1 52).1 10), .ref (ad 65), .ref (ad 66), .ref (ad 67), .ref (ad 68), .long ((t.1 52).2.1 0), .long ((t.1 52).2.1 1)]))] rfl (by decide) (by decide) (List.forall_mem_cons.mpr ⟨wf_m, (fun _ h => nomatch h)⟩)
  refine y_of (by decide) rfl (Nat.le_of_ble_eq_true rfl) (y_base (cs := [((ad 52), .inr (12, [.int v_m_th, .ref (ad 53), .int (nI ((t.1 52).2.2 0)), .ref (ad 54), .ref (ad 55), .ref (ad 56), .ref (ad 57), .ref (ad 58), .ref (ad 59), .ref (ad 60), .ref (ad 61), .int ((t.1 52).1 0), .int ((t.1 52).1 1), .int ((t.1 52).1 2), .int ((t.1 52).1 3), .int ((t.1 52).1 4), .int ((t.1 52).1 5), .ref (ad 62), .ref (ad 63), .ref (ad 64), .int ((t.1 52).1 6), .int ((t.1 52).1 7), .int ((t.1 52).1 8), .int ((t.1 52).1 9), .int ((t.1 52).1 10), .ref (ad 65), .ref (ad 66), .ref (ad 67), .ref (ad 68), .long ((t.1 52).2.1 0), .long ((t.1 52).2.1 1)]))]) hJ ?_)
  refine y_lvE (lv2 := [(0, .ref (ad 52)), (1, .int (nI k)), (2, .int (nI e))]) rfl ?_
  refine y_aload_n d_Mm_hasElement_0 rfl 0 rfl ?_
  refine y_get fs_Mm_81 d_Mm_hasElement_1 (q0 := 0) rfl rfl ?_
  refine y_iload_n d_Mm_hasElement_4 rfl 1 rfl ?_
  refine yw_callVL (As := [.int (nI k)]) (rest := []) (ci := 13) rfl (fun wA hA => ((hI.gen (t2 := t) (is := [52]) (L2 := []) hA rfl ⟨kd_52.mpr ⟨_, rfl⟩, trivial⟩ (by decide) (by decide) (fun _ h => nomatch h) (fun _ h => nomatch h) (fun _ _ _ => rfl) (fun h => h) rfl).2.1.1 6 (by decide)).ob) ln_Mm_211 w_im_AL_get w_se_AL_get ok_Mm_hasElement_AL_get d_Mm_hasElement_5 (fun wA hA => Q_get ((hI.gen (t2 := t) (is := [52]) (L2 := []) hA rfl ⟨kd_52.mpr ⟨_, rfl⟩, trivial⟩ (by decide) (by decide) (fun _ h => nomatch h) (fun _ h => nomatch h) (fun _ _ _ => rfl) (fun h => h) rfl).2.1.1 6 (by decide)) (by rw [hI.c56]; exact hk)) rfl rfl (Nat.le_of_ble_eq_true rfl) (by omega) (by omega) (fun wA5 hA5 E wB5 hx => ?_) (fun wA5 hA5 v wB5 hx => ?_)
  · exact absurd hx.1 (by simp)
  · obtain ⟨e1, e2⟩ := hx
    cases e1
    refine yw_st (st2 := [.ref (u.2.2 6 k)]) rfl ?_
    subst e2
    refine y_go hA5 ?_
    refine y_end (fun wC1 hC1 => ?_)
    obtain rfl := z_I.same hJ hC1
    obtain ⟨nf_g, hw_g⟩ := hI.2.1.2.1 6 (by decide) k (by rw [hI.c56]; exact hk)
    have hJ := z_I.kd (cs := [((ad 52), .inr (12, [.int v_m_th, .ref (ad 53), .int (nI ((t.1 52).2.2 0)), .ref (ad 54), .ref (ad 55), .ref (ad 56), .ref (ad 57), .ref (ad 58), .ref (ad 59), .ref (ad 60), .ref (ad 61), .int ((t.1 52).1 0), .int ((t.1 52).1 1), .int ((t.1 52).1 2), .int ((t.1 52).1 3), .int ((t.1 52).1 4), .int ((t.1 52).1 5), .ref (ad 62), .ref (ad 63), .ref (ad 64), .int ((t.1 52).1 6), .int ((t.1 52).1 7), .int ((t.1 52).1 8), .int ((t.1 52).1 9), .int ((t.1 52).1 10), .ref (ad 65), .ref (ad 66), .ref (ad 67), .ref (ad 68), .long ((t.1 52).2.1 0), .long ((t.1 52).2.1 1)])), ((u.2.2 6 k), .inl (3, 4, .inr (.inl ((t.2 6 k).2.2.1))))]) (List.forall_mem_cons.mpr ⟨wf_m, (List.forall_mem_cons.mpr ⟨hw_g, (fun _ h => nomatch h)⟩)⟩) (by simp [z_kd])
    refine y_base hJ ?_
    refine y_castA (t := 3) (by decide) lk_Mm_304 d_Mm_hasElement_8 (q0 := 1) rfl ?_
    refine y_iload_n d_Mm_hasElement_11 rfl 2 rfl ?_
    refine y_lald d_Mm_hasElement_12 (q0 := 1) rfl (vp_in_nI (by omega) (by omega)) (v := ((t.2 6 k).2.2.1) e) (by rw [nI_clamp (by omega)]) ?_
    refine y_ldc2 ct_Mm_244 d_Mm_hasElement_13 ?_
    refine y_lmul d_Mm_hasElement_16 (v := (((t.2 6 k).2.2.1) e) * 10) rfl ?_
    refine y_aload_n d_Mm_hasElement_17 rfl 0 rfl ?_
    refine y_get fs_Mm_78 d_Mm_hasElement_18 (q0 := 0) rfl rfl ?_
    refine y_iload_n d_Mm_hasElement_21 rfl 1 rfl ?_
    refine yw_callVL (As := [.int (nI k)]) (rest := [.long ((((t.2 6 k).2.2.1) e) * 10)]) (ci := 13) rfl (fun wA hA => ((hI.gen (t2 := t) (is := [52]) (L2 := [(u.2.2 6 k)]) hA rfl ⟨kd_52.mpr ⟨_, rfl⟩, trivial⟩ (by decide) (by decide) (List.forall_mem_cons.mpr ⟨nf_g, (fun _ h => nomatch h)⟩) (List.forall_mem_cons.mpr ⟨⟨_, hw_g, hA.at (q0 := 1) rfl⟩, (fun _ h => nomatch h)⟩) (fun _ _ _ => rfl) (fun h => h) rfl).2.1.1 5 (by decide)).ob) ln_Mm_211 w_im_AL_get w_se_AL_get ok_Mm_hasElement_AL_get d_Mm_hasElement_22 (fun wA hA => Q_get ((hI.gen (t2 := t) (is := [52]) (L2 := [(u.2.2 6 k)]) hA rfl ⟨kd_52.mpr ⟨_, rfl⟩, trivial⟩ (by decide) (by decide) (List.forall_mem_cons.mpr ⟨nf_g, (fun _ h => nomatch h)⟩) (List.forall_mem_cons.mpr ⟨⟨_, hw_g, hA.at (q0 := 1) rfl⟩, (fun _ h => nomatch h)⟩) (fun _ _ _ => rfl) (fun h => h) rfl).2.1.1 5 (by decide)) hk) rfl rfl (Nat.le_of_ble_eq_true rfl) (by omega) (by omega) (fun wA22 hA22 E wB22 hx => ?_) (fun wA22 hA22 v wB22 hx => ?_)
    · exact absurd hx.1 (by simp)
    · obtain ⟨e1, e2⟩ := hx
      cases e1
      refine yw_st (st2 := [.ref (u.2.2 5 k), .long ((((t.2 6 k).2.2.1) e) * 10)]) rfl ?_
      subst e2
      refine y_go hA22 ?_
      refine y_end (fun wC2 hC2 => ?_)
      obtain rfl := z_I.same hJ hC2
      obtain ⟨nf_c, hw_c, h0_c⟩ := hI.2.1.2.1 5 (by decide) k hk
      have hJ := z_I.kd (cs := [((ad 52), .inr (12, [.int v_m_th, .ref (ad 53), .int (nI ((t.1 52).2.2 0)), .ref (ad 54), .ref (ad 55), .ref (ad 56), .ref (ad 57), .ref (ad 58), .ref (ad 59), .ref (ad 60), .ref (ad 61), .int ((t.1 52).1 0), .int ((t.1 52).1 1), .int ((t.1 52).1 2), .int ((t.1 52).1 3), .int ((t.1 52).1 4), .int ((t.1 52).1 5), .ref (ad 62), .ref (ad 63), .ref (ad 64), .int ((t.1 52).1 6), .int ((t.1 52).1 7), .int ((t.1 52).1 8), .int ((t.1 52).1 9), .int ((t.1 52).1 10), .ref (ad 65), .ref (ad 66), .ref (ad 67), .ref (ad 68), .long ((t.1 52).2.1 0), .long ((t.1 52).2.1 1)])), ((u.2.2 6 k), .inl (3, 4, .inr (.inl ((t.2 6 k).2.2.1)))), ((u.2.2 5 k), .inl (0, 6, .inl ((t.2 5 k).2.1)))]) (List.forall_mem_cons.mpr ⟨wf_m, (List.forall_mem_cons.mpr ⟨hw_g, (List.forall_mem_cons.mpr ⟨hw_c, (fun _ h => nomatch h)⟩)⟩)⟩) (by simp [z_kd])
      refine y_base hJ ?_
      refine y_castA (t := 0) (by decide) lk_Mm_215 d_Mm_hasElement_25 (q0 := 2) rfl ?_
      refine y_iconst d_Mm_hasElement_28 (v := 0) (by decide) ?_
      refine y_iald d_Mm_hasElement_29 (q0 := 2) rfl (fun q => q.elim (by decide) (by decide)) (v := ((t.2 5 k).2.1) 0) rfl ?_
      refine y_i2l d_Mm_hasElement_30 (v := (((t.2 5 k).2.1) 0).toInt64) rfl ?_
      refine y_ldiv d_Mm_hasElement_31 (v := ((((t.2 6 k).2.2.1) e) * 10) / ((((t.2 5 k).2.1) 0).toInt64)) (z_l0 h0_c) rfl ?_
      refine y_l2i d_Mm_hasElement_32 (v := (((((t.2 6 k).2.2.1) e) * 10) / ((((t.2 5 k).2.1) 0).toInt64)).toInt32) rfl ?_
      refine y_iret d_Mm_hasElement_33 rfl rfl ?_
      exact fun w1 h1 => ⟨⟨_, rfl⟩, z_I.same hJ h1⟩
