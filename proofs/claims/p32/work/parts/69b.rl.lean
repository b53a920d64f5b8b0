section
theorem z_idx {x : Int32} {n : Nat} (hn : n ≤ 33) : (0 ≤ x ∧ x ≤ nI n - 1) ↔ ∃ k, k < n ∧ x = nI k := by
  constructor
  · intro ⟨h1, h2⟩
    cases n with
    | zero => exact absurd (Int32.le_trans h1 h2) (by decide)
    | succ m =>
      rw [nI_prd] at h2
      obtain ⟨a, ha, e⟩ := z_in20 (b := m) (by omega) ⟨h1, h2⟩
      exact ⟨a, by omega, e⟩
  · intro ⟨k, hk, e⟩
    subst e
    cases n with
    | zero => omega
    | succ m =>
      rw [nI_prd]
      exact ⟨Int32.not_lt.mp (nI_nneg (by omega)), (nI_leI (by omega) (by omega)).mpr (by omega)⟩
theorem IV.n5 {g : zG} {ad : Nat → Nat} {t : zTT} {u : zNN} {w : zW} (h : IV g ad t u w) (L : Nat) (hL : L < 7) : u.1 L ≤ 33 := (h.2.1.1 L hL).n33
theorem IV.c56 {g : zG} {ad : Nat → Nat} {t : zTT} {u : zNN} {w : zW} (h : IV g ad t u w) : u.1 6 = u.1 5 := h.2.1.2.2.2.2.2.2.2.2.2
theorem IV.c34 {g : zG} {ad : Nat → Nat} {t : zTT} {u : zNN} {w : zW} (h : IV g ad t u w) : u.1 4 = u.1 3 := h.2.1.2.2.2.2.2.2.2.1
set_option maxHeartbeats 4000000 in
set_option maxRecDepth 100000 in
theorem Q_noCasting1 {g : zG} {ad : Nat → Nat} {t : zTT} {u : zNN} {w : zW} (hI : IV g ad t u w) (x : Int32) (hx : ¬ ∃ k, k < u.1 5 ∧ x = nI k) : zMB g M_Mm_noCasting [.ref (ad 52), .int x] w (fun o w1 => o = .inl (some (.int 1)) ∧ w1 = w) 0 0 := by
  obtain ⟨e_m, wf_m, k_m⟩ := hI.1.2 52 (by decide)
  obtain ⟨v_m_th, rfl⟩ := kd_52.mp k_m
  have hJ := hI.1.I [52] [((ad 52), .inr (12, [.int v_m_th, .ref (ad 53), .int (nI ((t.1 52).2.2 0)), .ref (ad 54), .ref (ad 55), .ref (ad 56), .ref (ad 57), .ref (ad 58), .ref (ad 59), .ref (ad 60), .ref (ad 61), .int ((t.1 52).1 0), .int ((t.1 52).1 1), .int ((t.1 52).1 2), .int ((t.1 52).1 3), .int ((t.1 52).1 4), .int ((t.1 52).1 5), .ref (ad 62), .ref (ad 63), .ref (ad 64), .int ((t.1 52).1 6), .int ((t.1 52).1 7), .int ((t.1 52).1 8), .int ((t.1 52).1 9), .int ((t.1 52).1 10), .ref (ad 65), .ref (ad 66), .ref (ad 67), .ref (ad 68), .long ((t.1 52).2.1 0), .long ((t.1 52).2.1 1)]))] rfl (by decide) (by decide) (List.forall_mem_cons.mpr ⟨wf_m, (fun _ h => nomatch h)⟩)
  refine y_of (by decide) rfl (Nat.le_of_ble_eq_true rfl) (y_base (cs := [((ad 52), .inr (12, [.int v_m_th, .ref (ad 53), .int (nI ((t.1 52).2.2 0)), .ref (ad 54), .ref (ad 55), .ref (ad 56), .ref (ad 57), .ref (ad 58), .ref (ad 59), .ref (ad 60), .ref (ad 61), .int ((t.1 52).1 0), .int ((t.1 52).1 1), .int ((t.1 52).1 2), .int ((t.1 52).1 3), .int ((t.1 52).1 4), .int ((t.1 52).1 5), .ref (ad 62), .ref (ad 63), .ref (ad 64), .int ((t.1 52).1 6), .int ((t.1 52).1 7), .int ((t.1 52).1 8), .int ((t.1 52).1 9), .int ((t.1 52).1 10), .ref (ad 65), .ref (ad 66), .ref (ad 67), .ref (ad 68), .long ((t.1 52).2.1 0), .long ((t.1 52).2.1 1)]))]) hJ ?_)
  refine y_lvE (lv2 := [(0, .ref (ad 52)), (1, .int x)]) rfl ?_
  refine y_iload_n d_Mm_noCasting_0 rfl 1 rfl ?_
  refine y_iconst d_Mm_noCasting_1 (v := 0) (by decide) ?_
  refine y_aload_n d_Mm_noCasting_2 rfl 0 rfl ?_
  refine y_get fs_Mm_78 d_Mm_noCasting_3 (q0 := 0) rfl rfl ?_
  refine yw_callVL (As := []) (rest := [.int 0, .int x]) (ci := 13) rfl (fun wA hA => ((hI.gen (t2 := t) (is := [52]) (L2 := []) hA rfl ⟨kd_52.mpr ⟨_, rfl⟩, trivial⟩ (by decide) (by decide) (fun _ h => nomatch h) (fun _ h => nomatch h) (fun _ _ _ => rfl) (fun h => h) rfl).2.1.1 5 (by decide)).ob) ln_Mm_208 w_im_AL_size w_se_AL_size ok_Mm_noCasting_AL_size d_Mm_noCasting_6 (fun wA hA => Q_size ((hI.gen (t2 := t) (is := [52]) (L2 := []) hA rfl ⟨kd_52.mpr ⟨_, rfl⟩, trivial⟩ (by decide) (by decide) (fun _ h => nomatch h) (fun _ h => nomatch h) (fun _ _ _ => rfl) (fun h => h) rfl).2.1.1 5 (by decide))) rfl rfl (Nat.le_of_ble_eq_true rfl) (by omega) (by omega) (fun wA6 hA6 E wB6 hx => ?_) (fun wA6 hA6 v wB6 hx => ?_)
  · exact absurd hx.1 (by simp)
  · obtain ⟨e1, e2⟩ := hx
    cases e1
    refine yw_st (st2 := [.int (nI (u.1 5)), .int 0, .int x]) rfl ?_
    subst e2
    refine y_go hA6 ?_
    refine y_iconst d_Mm_noCasting_9 (v := 1) (by decide) ?_
    refine y_isub d_Mm_noCasting_10 (v := nI (u.1 5) - 1) rfl ?_
    refine y_callS (As := [.int x, .int 0, .int (nI (u.1 5) - 1)]) (rest := []) (csC := []) (is := []) ln_Mm_87 w_st_Mm_in ok_Mm_noCasting_Mm_in d_Mm_noCasting_11 (C_Mm_in g x 0 (nI (u.1 5) - 1)) rfl rfl (Nat.le_of_ble_eq_true rfl) rfl (by decide) (by omega) (by omega) (fun E cs1 hx => ?_) (fun v cs1 hx => ?_)
    · exact absurd hx.1 (by simp)
    · obtain ⟨e1, rfl⟩ := hx
      rw [if_neg (fun q => hx ((z_idx (hI.n5 5 (by decide))).mp q))] at e1
      cases e1
      refine ⟨rfl, ?_⟩
      refine y_st (st2 := [.int 0]) rfl ?_
      refine y_cs (cs2 := [((ad 52), .inr (12, [.int v_m_th, .ref (ad 53), .int (nI ((t.1 52).2.2 0)), .ref (ad 54), .ref (ad 55), .ref (ad 56), .ref (ad 57), .ref (ad 58), .ref (ad 59), .ref (ad 60), .ref (ad 61), .int ((t.1 52).1 0), .int ((t.1 52).1 1), .int ((t.1 52).1 2), .int ((t.1 52).1 3), .int ((t.1 52).1 4), .int ((t.1 52).1 5), .ref (ad 62), .ref (ad 63), .ref (ad 64), .int ((t.1 52).1 6), .int ((t.1 52).1 7), .int ((t.1 52).1 8), .int ((t.1 52).1 9), .int ((t.1 52).1 10), .ref (ad 65), .ref (ad 66), .ref (ad 67), .ref (ad 68), .long ((t.1 52).2.1 0), .long ((t.1 52).2.1 1)]))]) rfl ?_
      refine y_if_ne (tgt := 21) d_Mm_noCasting_14 (by decide) (fun c_14 => ?_) (fun c_14 => ?_)
      · exact absurd c_14 (by decide)
      · refine y_iconst d_Mm_noCasting_17 (v := 1) (by decide) ?_
        refine y_goto (tgt := 22) d_Mm_noCasting_18 (by decide) ?_
        refine y_iret d_Mm_noCasting_22 rfl rfl ?_
        exact fun w1 h1 => ⟨rfl, z_I.same hJ h1⟩
theorem d_Mm_noCasting_21 : decode prog_14_method_79_code 21 = .ok (.iconst 0, 1) := zo_3 (zd_b zq_prog_14_method_79_code_0 21 rfl rfl rfl)
set_option maxHeartbeats 4000000 in
set_option maxRecDepth 100000 in
theorem Q_noCasting0 {g : zG} {ad : Nat → Nat} {t : zTT} {u : zNN} {w : zW} (hI : IV g ad t u w) (x : Int32) (hx : ∃ k, k < u.1 5 ∧ x = nI k) : zMB g M_Mm_noCasting [.ref (ad 52), .int x] w (fun o w1 => o = .inl (some (.int 0)) ∧ w1 = w) 0 0 := by
  obtain ⟨e_m, wf_m, k_m⟩ := hI.1.2 52 (by decide)
  obtain ⟨v_m_th, rfl⟩ := kd_52.mp k_m
  have hJ := hI.1.I [52] [((ad 52), .inr (12, [.int v_m_th, .ref (ad 53), .int (nI ((t.1 52).2.2 0)), .ref (ad 54), .ref (ad 55), .ref (ad 56), .ref (ad 57), .ref (ad 58), .ref (ad 59), .ref (ad 60), .ref (ad 61), .int ((t.1 52).1 0), .int ((t.1 52).1 1), .int ((t.1 52).1 2), .int ((t.1 52).1 3), .int ((t.1 52).1 4), .int ((t.1 52).1 5), .ref (ad 62), .ref (ad 63), .ref (ad 64), .int ((t.1 52).1 6), .int ((t.1 52).1 7), .int ((t.1 52).1 8), .int ((t.1 52).1 9), .int ((t.1 52).1 10), .ref (ad 65), .ref (ad 66), .ref (ad 67), .ref (ad 68), .long ((t.1 52).2.1 0), .long ((t.1 52).2.1 1)]))] rfl (by decide) (by decide) (List.forall_mem_cons.mpr ⟨wf_m, (fun _ h => nomatch h)⟩)
  refine y_of (by decide) rfl (Nat.le_of_ble_eq_true rfl) (y_base (cs := [((ad 52), .inr (12, [.int v_m_th, .ref (ad 53), .int (nI ((t.1 52).2.2 0)), .ref (ad 54), .ref (ad 55), .ref (ad 56), .ref (ad 57), .ref (ad 58), .ref (ad 59), .ref (ad 60), .ref (ad 61), .int ((t.1 52).1 0), .int ((t.1 52).1 1), .int ((t.1 52).1 2), .int ((t.1 52).1 3), .int ((t.1 52).1 4), .int ((t.1 52).1 5), .ref (ad 62), .ref (ad 63), .ref (ad 64), .int ((t.1 52).1 6), .int ((t.1 52).1 7), .int ((t.1 52).1 8), .int ((t.1 52).1 9), .int ((t.1 52).1 10), .ref (ad 65), .ref (ad 66), .ref (ad 67), .ref (ad 68), .long ((t.1 52).2.1 0), .long ((t.1 52).2.1 1)]))]) hJ ?_)
  refine y_lvE (lv2 := [(0, .ref (ad 52)), (1, .int x)]) rfl ?_
  refine y_iload_n d_Mm_noCasting_0 rfl 1 rfl ?_
  refine y_iconst d_Mm_noCasting_1 (v := 0) (by decide) ?_
  refine y_aload_n d_Mm_noCasting_2 rfl 0 rfl ?_
  refine y_get fs_Mm_78 d_Mm_noCasting_3 (q0 := 0) rfl rfl ?_
  refine yw_callVL (As := []) (rest := [.int 0, .int x]) (ci := 13) rfl (fun wA hA => ((hI.gen (t2 := t) (is := [52]) (L2 := []) hA rfl ⟨kd_52.mpr ⟨_, rfl⟩, trivial⟩ (by decide) (by decide) (fun _ h => nomatch h) (fun _ h => nomatch h) (fun _ _ _ => rfl) (fun h => h) rfl).2.1.1 5 (by decide)).ob) ln_Mm_208 w_im_AL_size w_se_AL_size ok_Mm_noCasting_AL_size d_Mm_noCasting_6 (fun wA hA => Q_size ((hI.gen (t2 := t) (is := [52]) (L2 := []) hA rfl ⟨kd_52.mpr ⟨_, rfl⟩, trivial⟩ (by decide) (by decide) (fun _ h => nomatch h) (fun _ h => nomatch h) (fun _ _ _ => rfl) (fun h => h) rfl).2.1.1 5 (by decide))) rfl rfl (Nat.le_of_ble_eq_true rfl) (by omega) (by omega) (fun wA6 hA6 E wB6 hx => ?_) (fun wA6 hA6 v wB6 hx => ?_)
  · exact absurd hx.1 (by simp)
  · obtain ⟨e1, e2⟩ := hx
    cases e1
    refine yw_st (st2 := [.int (nI (u.1 5)), .int 0, .int x]) rfl ?_
    subst e2
    refine y_go hA6 ?_
    refine y_iconst d_Mm_noCasting_9 (v := 1) (by decide) ?_
    refine y_isub d_Mm_noCasting_10 (v := nI (u.1 5) - 1) rfl ?_
    refine y_callS (As := [.int x, .int 0, .int (nI (u.1 5) - 1)]) (rest := []) (csC := []) (is := []) ln_Mm_87 w_st_Mm_in ok_Mm_noCasting_Mm_in d_Mm_noCasting_11 (C_Mm_in g x 0 (nI (u.1 5) - 1)) rfl rfl (Nat.le_of_ble_eq_true rfl) rfl (by decide) (by omega) (by omega) (fun E cs1 hx => ?_) (fun v cs1 hx => ?_)
    · exact absurd hx.1 (by simp)
    · obtain ⟨e1, rfl⟩ := hx
      rw [if_pos ((z_idx (hI.n5 5 (by decide))).mpr hx)] at e1
      cases e1
      refine ⟨rfl, ?_⟩
      refine y_st (st2 := [.int 1]) rfl ?_
      refine y_cs (cs2 := [((ad 52), .inr (12, [.int v_m_th, .ref (ad 53), .int (nI ((t.1 52).2.2 0)), .ref (ad 54), .ref (ad 55), .ref (ad 56), .ref (ad 57), .ref (ad 58), .ref (ad 59), .ref (ad 60), .ref (ad 61), .int ((t.1 52).1 0), .int ((t.1 52).1 1), .int ((t.1 52).1 2), .int ((t.1 52).1 3), .int ((t.1 52).1 4), .int ((t.1 52).1 5), .ref (ad 62), .ref (ad 63), .ref (ad 64), .int ((t.1 52).1 6), .int ((t.1 52).1 7), .int ((t.1 52).1 8), .int ((t.1 52).1 9), .int ((t.1 52).1 10), .ref (ad 65), .ref (ad 66), .ref (ad 67), .ref (ad 68), .long ((t.1 52).2.1 0), .long ((t.1 52).2.1 1)]))]) rfl ?_
      refine y_if_ne (tgt := 21) d_Mm_noCasting_14 (by decide) (fun c_14 => ?_) (fun c_14 => ?_)
      · refine y_iconst d_Mm_noCasting_21 (v := 0) (by decide) ?_
        refine y_iret d_Mm_noCasting_22 rfl rfl ?_
        exact fun w1 h1 => ⟨rfl, z_I.same hJ h1⟩
      · exact absurd c_14 (by decide)
set_option maxHeartbeats 4000000 in
set_option maxRecDepth 100000 in
theorem Q_Mm_alloyE {g : zG} {ad : Nat → Nat} {t : zTT} {u : zNN} {w : zW} (hI : IV g ad t u w) (x : Int32) (hx : ¬ ∃ k, k < u.1 5 ∧ x = nI k) : zMB g M_Mm_alloy [.ref (ad 52), .int x] w (fun o w1 => (∃ v : Int32, o = .inl (some (.int v))) ∧ IV g ad t u w1) 0 0 := by
  obtain ⟨e_m, wf_m, k_m⟩ := hI.1.2 52 (by decide)
  obtain ⟨v_m_th, rfl⟩ := kd_52.mp k_m
  refine y_of (by decide) rfl (Nat.le_of_ble_eq_true rfl) (y_base (cs := [((ad 52), .inr (12, [.int v_m_th, .ref (ad 53), .int (nI ((t.1 52).2.2 0)), .ref (ad 54), .ref (ad 55), .ref (ad 56), .ref (ad 57), .ref (ad 58), .ref (ad 59), .ref (ad 60), .ref (ad 61), .int ((t.1 52).1 0), .int ((t.1 52).1 1), .int ((t.1 52).1 2), .int ((t.1 52).1 3), .int ((t.1 52).1 4), .int ((t.1 52).1 5), .ref (ad 62), .ref (ad 63), .ref (ad 64), .int ((t.1 52).1 6), .int ((t.1 52).1 7), .int ((t.1 52).1 8), .int ((t.1 52).1 9), .int ((t.1 52).1 10), .ref (ad 65), .ref (ad 66), .ref (ad 67), .ref (ad 68), .long ((t.1 52).2.1 0), .long ((t.1 52).2.1 1)]))]) (hI.1.I [52] _ rfl (by decide) (by decide) (List.forall_mem_cons.mpr ⟨wf_m, (fun _ h => nomatch h)⟩)) ?_)
  refine y_lvE (lv2 := [(0, .ref (ad 52)), (1, .int x)]) rfl ?_
  refine y_aload_n d_Mm_alloy_0 rfl 0 rfl ?_
  refine y_iconst d_Mm_alloy_1 (v := 0) (by decide) ?_
  refine y_put fp_Mm_84 d_Mm_alloy_2 (fun h => nomatch h) rfl rfl (q0 := 0) rfl (Nat.le_of_ble_eq_true rfl) (cs' := [((ad 52), .inr (12, [.int 0, .ref (ad 53), .int (nI ((t.1 52).2.2 0)), .ref (ad 54), .ref (ad 55), .ref (ad 56), .ref (ad 57), .ref (ad 58), .ref (ad 59), .ref (ad 60), .ref (ad 61), .int ((t.1 52).1 0), .int ((t.1 52).1 1), .int ((t.1 52).1 2), .int ((t.1 52).1 3), .int ((t.1 52).1 4), .int ((t.1 52).1 5), .ref (ad 62), .ref (ad 63), .ref (ad 64), .int ((t.1 52).1 6), .int ((t.1 52).1 7), .int ((t.1 52).1 8), .int ((t.1 52).1 9), .int ((t.1 52).1 10), .ref (ad 65), .ref (ad 66), .ref (ad 67), .ref (ad 68), .long ((t.1 52).2.1 0), .long ((t.1 52).2.1 1)]))]) rfl ?_
  refine y_aload_n d_Mm_alloy_5 rfl 0 rfl ?_
  refine y_aload_n d_Mm_alloy_6 rfl 0 rfl ?_
  refine y_iload_n d_Mm_alloy_7 rfl 1 rfl ?_
  refine yw_callV (As := [.int x]) (rest := [.ref (ad 52)]) (q0 := 0) rfl rfl ln_Mm_301 w_im_Mm_noCasting w_se_Mm_noCasting ok_Mm_alloy_Mm_noCasting d_Mm_alloy_8 (fun wA hA => Q_noCasting1 (hI.gen (t2 := t) (is := [52]) (L2 := []) hA rfl ⟨kd_52.mpr ⟨_, rfl⟩, trivial⟩ (by decide) (by decide) (fun _ h => nomatch h) (fun _ h => nomatch h) (fun _ _ _ => rfl) (fun h => h) rfl) x hx) rfl rfl (Nat.le_of_ble_eq_true rfl) (by omega) (by omega) (fun wA8 hA8 E wB8 hx => ?_) (fun wA8 hA8 v wB8 hx => ?_)
  · exact absurd hx.1 (by simp)
  · obtain ⟨e1, e2⟩ := hx
    cases e1
    refine yw_st (st2 := [.int 1, .ref (ad 52)]) rfl ?_
    subst e2
    refine y_go hA8 ?_
    refine y_iconst d_Mm_alloy_11 (v := 1) (by decide) ?_
    refine y_callV (As := [.int 1, .int 1]) (rest := []) (csC := [((ad 52), .inr (12, [.int 0, .ref (ad 53), .int (nI ((t.1 52).2.2 0)), .ref (ad 54), .ref (ad 55), .ref (ad 56), .ref (ad 57), .ref (ad 58), .ref (ad 59), .ref (ad 60), .ref (ad 61), .int ((t.1 52).1 0), .int ((t.1 52).1 1), .int ((t.1 52).1 2), .int ((t.1 52).1 3), .int ((t.1 52).1 4), .int ((t.1 52).1 5), .ref (ad 62), .ref (ad 63), .ref (ad 64), .int ((t.1 52).1 6), .int ((t.1 52).1 7), .int ((t.1 52).1 8), .int ((t.1 52).1 9), .int ((t.1 52).1 10), .ref (ad 65), .ref (ad 66), .ref (ad 67), .ref (ad 68), .long ((t.1 52).2.1 0), .long ((t.1 52).2.1 1)]))]) (is := [0]) (q0 := 0) rfl rfl ln_Mm_103 w_im_Mm_fails w_se_Mm_fails ok_Mm_alloy_Mm_fails d_Mm_alloy_12 (C_Mm_fails1 g (ad 52) (ad 53) (ad 54) (ad 55) (ad 56) (ad 57) (ad 58) (ad 59) (ad 60) (ad 61) (ad 62) (ad 63) (ad 64) (ad 65) (ad 66) (ad 67) (ad 68) 0 (nI ((t.1 52).2.2 0)) ((t.1 52).1 0) ((t.1 52).1 1) ((t.1 52).1 2) ((t.1 52).1 3) ((t.1 52).1 4) ((t.1 52).1 5) ((t.1 52).1 6) ((t.1 52).1 7) ((t.1 52).1 8) ((t.1 52).1 9) ((t.1 52).1 10) ((t.1 52).2.1 0) ((t.1 52).2.1 1)) rfl rfl (Nat.le_of_ble_eq_true rfl) rfl (by decide) (by omega) (by omega) (fun E cs1 hx => ?_) (fun v cs1 hx => ?_)
    · exact absurd hx.1 (by simp)
    · obtain ⟨e1, rfl⟩ := hx
      cases e1
      refine ⟨rfl, ?_⟩
      refine y_st (st2 := [.int 1]) rfl ?_
      refine y_cs (cs2 := [((ad 52), .inr (12, [.int 1, .ref (ad 53), .int (nI ((t.1 52).2.2 0)), .ref (ad 54), .ref (ad 55), .ref (ad 56), .ref (ad 57), .ref (ad 58), .ref (ad 59), .ref (ad 60), .ref (ad 61), .int ((t.1 52).1 0), .int ((t.1 52).1 1), .int ((t.1 52).1 2), .int ((t.1 52).1 3), .int ((t.1 52).1 4), .int ((t.1 52).1 5), .ref (ad 62), .ref (ad 63), .ref (ad 64), .int ((t.1 52).1 6), .int ((t.1 52).1 7), .int ((t.1 52).1 8), .int ((t.1 52).1 9), .int ((t.1 52).1 10), .ref (ad 65), .ref (ad 66), .ref (ad 67), .ref (ad 68), .long ((t.1 52).2.1 0), .long ((t.1 52).2.1 1)]))]) rfl ?_
      refine y_if_eq (tgt := 22) d_Mm_alloy_15 (by decide) (fun c_15 => ?_) (fun c_15 => ?_)
      · exact absurd c_15 (by decide)
      · refine y_iconst d_Mm_alloy_18 (v := 0) (by decide) ?_
        refine y_goto (tgt := 46) d_Mm_alloy_19 (by decide) ?_
        refine y_iret d_Mm_alloy_46 rfl rfl ?_
        exact fun w1 h1 => ⟨⟨_, rfl⟩, (hI.gen (t2 := t) (is := [52]) (L2 := []) h1 rfl ⟨kd_52.mpr ⟨_, rfl⟩, trivial⟩ (by decide) (by decide) (fun _ h => nomatch h) (fun _ h => nomatch h) (fun _ _ _ => rfl) (fun h => h) rfl)⟩
set_option maxHeartbeats 4000000 in
set_option maxRecDepth 100000 in
theorem Q_Mm_faultsE {g : zG} {ad : Nat → Nat} {t : zTT} {u : zNN} {w : zW} (hI : IV g ad t u w) (x : Int32) (hx : ¬ ∃ k, k < u.1 5 ∧ x = nI k) : zMB g M_Mm_faults [.ref (ad 52), .int x] w (fun o w1 => (∃ v : Int32, o = .inl (some (.int v))) ∧ IV g ad t u w1) 0 0 := by
  obtain ⟨e_m, wf_m, k_m⟩ := hI.1.2 52 (by decide)
  obtain ⟨v_m_th, rfl⟩ := kd_52.mp k_m
  refine y_of (by decide) rfl (Nat.le_of_ble_eq_true rfl) (y_base (cs := [((ad 52), .inr (12, [.int v_m_th, .ref (ad 53), .int (nI ((t.1 52).2.2 0)), .ref (ad 54), .ref (ad 55), .ref (ad 56), .ref (ad 57), .ref (ad 58), .ref (ad 59), .ref (ad 60), .ref (ad 61), .int ((t.1 52).1 0), .int ((t.1 52).1 1), .int ((t.1 52).1 2), .int ((t.1 52).1 3), .int ((t.1 52).1 4), .int ((t.1 52).1 5), .ref (ad 62), .ref (ad 63), .ref (ad 64), .int ((t.1 52).1 6), .int ((t.1 52).1 7), .int ((t.1 52).1 8), .int ((t.1 52).1 9), .int ((t.1 52).1 10), .ref (ad 65), .ref (ad 66), .ref (ad 67), .ref (ad 68), .long ((t.1 52).2.1 0), .long ((t.1 52).2.1 1)]))]) (hI.1.I [52] _ rfl (by decide) (by decide) (List.forall_mem_cons.mpr ⟨wf_m, (fun _ h => nomatch h)⟩)) ?_)
  refine y_lvE (lv2 := [(0, .ref (ad 52)), (1, .int x)]) rfl ?_
  refine y_aload_n d_Mm_faults_0 rfl 0 rfl ?_
  refine y_iconst d_Mm_faults_1 (v := 0) (by decide) ?_
  refine y_put fp_Mm_84 d_Mm_faults_2 (fun h => nomatch h) rfl rfl (q0 := 0) rfl (Nat.le_of_ble_eq_true rfl) (cs' := [((ad 52), .inr (12, [.int 0, .ref (ad 53), .int (nI ((t.1 52).2.2 0)), .ref (ad 54), .ref (ad 55), .ref (ad 56), .ref (ad 57), .ref (ad 58), .ref (ad 59), .ref (ad 60), .ref (ad 61), .int ((t.1 52).1 0), .int ((t.1 52).1 1), .int ((t.1 52).1 2), .int ((t.1 52).1 3), .int ((t.1 52).1 4), .int ((t.1 52).1 5), .ref (ad 62), .ref (ad 63), .ref (ad 64), .int ((t.1 52).1 6), .int ((t.1 52).1 7), .int ((t.1 52).1 8), .int ((t.1 52).1 9), .int ((t.1 52).1 10), .ref (ad 65), .ref (ad 66), .ref (ad 67), .ref (ad 68), .long ((t.1 52).2.1 0), .long ((t.1 52).2.1 1)]))]) rfl ?_
  refine y_aload_n d_Mm_faults_5 rfl 0 rfl ?_
  refine y_aload_n d_Mm_faults_6 rfl 0 rfl ?_
  refine y_iload_n d_Mm_faults_7 rfl 1 rfl ?_
  refine yw_callV (As := [.int x]) (rest := [.ref (ad 52)]) (q0 := 0) rfl rfl ln_Mm_301 w_im_Mm_noCasting w_se_Mm_noCasting ok_Mm_faults_Mm_noCasting d_Mm_faults_8 (fun wA hA => Q_noCasting1 (hI.gen (t2 := t) (is := [52]) (L2 := []) hA rfl ⟨kd_52.mpr ⟨_, rfl⟩, trivial⟩ (by decide) (by decide) (fun _ h => nomatch h) (fun _ h => nomatch h) (fun _ _ _ => rfl) (fun h => h) rfl) x hx) rfl rfl (Nat.le_of_ble_eq_true rfl) (by omega) (by omega) (fun wA8 hA8 E wB8 hx => ?_) (fun wA8 hA8 v wB8 hx => ?_)
  · exact absurd hx.1 (by simp)
  · obtain ⟨e1, e2⟩ := hx
    cases e1
    refine yw_st (st2 := [.int 1, .ref (ad 52)]) rfl ?_
    subst e2
    refine y_go hA8 ?_
    refine y_iconst d_Mm_faults_11 (v := 1) (by decide) ?_
    refine y_callV (As := [.int 1, .int 1]) (rest := []) (csC := [((ad 52), .inr (12, [.int 0, .ref (ad 53), .int (nI ((t.1 52).2.2 0)), .ref (ad 54), .ref (ad 55), .ref (ad 56), .ref (ad 57), .ref (ad 58), .ref (ad 59), .ref (ad 60), .ref (ad 61), .int ((t.1 52).1 0), .int ((t.1 52).1 1), .int ((t.1 52).1 2), .int ((t.1 52).1 3), .int ((t.1 52).1 4), .int ((t.1 52).1 5), .ref (ad 62), .ref (ad 63), .ref (ad 64), .int ((t.1 52).1 6), .int ((t.1 52).1 7), .int ((t.1 52).1 8), .int ((t.1 52).1 9), .int ((t.1 52).1 10), .ref (ad 65), .ref (ad 66), .ref (ad 67), .ref (ad 68), .long ((t.1 52).2.1 0), .long ((t.1 52).2.1 1)]))]) (is := [0]) (q0 := 0) rfl rfl ln_Mm_103 w_im_Mm_fails w_se_Mm_fails ok_Mm_faults_Mm_fails d_Mm_faults_12 (C_Mm_fails1 g (ad 52) (ad 53) (ad 54) (ad 55) (ad 56) (ad 57) (ad 58) (ad 59) (ad 60) (ad 61) (ad 62) (ad 63) (ad 64) (ad 65) (ad 66) (ad 67) (ad 68) 0 (nI ((t.1 52).2.2 0)) ((t.1 52).1 0) ((t.1 52).1 1) ((t.1 52).1 2) ((t.1 52).1 3) ((t.1 52).1 4) ((t.1 52).1 5) ((t.1 52).1 6) ((t.1 52).1 7) ((t.1 52).1 8) ((t.1 52).1 9) ((t.1 52).1 10) ((t.1 52).2.1 0) ((t.1 52).2.1 1)) rfl rfl (Nat.le_of_ble_eq_true rfl) rfl (by decide) (by omega) (by omega) (fun E cs1 hx => ?_) (fun v cs1 hx => ?_)
    · exact absurd hx.1 (by simp)
    · obtain ⟨e1, rfl⟩ := hx
      cases e1
      refine ⟨rfl, ?_⟩
      refine y_st (st2 := [.int 1]) rfl ?_
      refine y_cs (cs2 := [((ad 52), .inr (12, [.int 1, .ref (ad 53), .int (nI ((t.1 52).2.2 0)), .ref (ad 54), .ref (ad 55), .ref (ad 56), .ref (ad 57), .ref (ad 58), .ref (ad 59), .ref (ad 60), .ref (ad 61), .int ((t.1 52).1 0), .int ((t.1 52).1 1), .int ((t.1 52).1 2), .int ((t.1 52).1 3), .int ((t.1 52).1 4), .int ((t.1 52).1 5), .ref (ad 62), .ref (ad 63), .ref (ad 64), .int ((t.1 52).1 6), .int ((t.1 52).1 7), .int ((t.1 52).1 8), .int ((t.1 52).1 9), .int ((t.1 52).1 10), .ref (ad 65), .ref (ad 66), .ref (ad 67), .ref (ad 68), .long ((t.1 52).2.1 0), .long ((t.1 52).2.1 1)]))]) rfl ?_
      refine y_if_eq (tgt := 22) d_Mm_faults_15 (by decide) (fun c_15 => ?_) (fun c_15 => ?_)
      · exact absurd c_15 (by decide)
      · refine y_iconst d_Mm_faults_18 (v := 0) (by decide) ?_
        refine y_goto (tgt := 35) d_Mm_faults_19 (by decide) ?_
        refine y_iret d_Mm_faults_35 rfl rfl ?_
        exact fun w1 h1 => ⟨⟨_, rfl⟩, (hI.gen (t2 := t) (is := [52]) (L2 := []) h1 rfl ⟨kd_52.mpr ⟨_, rfl⟩, trivial⟩ (by decide) (by decide) (fun _ h => nomatch h) (fun _ h => nomatch h) (fun _ _ _ => rfl) (fun h => h) rfl)⟩
set_option maxHeartbeats 4000000 in
set_option maxRecDepth 100000 in
theorem Q_Mm_shrunkInE {g : zG} {ad : Nat → Nat} {t : zTT} {u : zNN} {w : zW} (hI : IV g ad t u w) (x : Int32) (hx : ¬ ∃ k, k < u.1 5 ∧ x = nI k) : zMB g M_Mm_shrunkIn [.ref (ad 52), .int x] w (fun o w1 => (∃ v : Int32, o = .inl (some (.int v))) ∧ IV g ad t u w1) 0 0 := by
  obtain ⟨e_m, wf_m, k_m⟩ := hI.1.2 52 (by decide)
  obtain ⟨v_m_th, rfl⟩ := kd_52.mp k_m
  refine y_of (by decide) rfl (Nat.le_of_ble_eq_true rfl) (y_base (cs := [((ad 52), .inr (12, [.int v_m_th, .ref (ad 53), .int (nI ((t.1 52).2.2 0)), .ref (ad 54), .ref (ad 55), .ref (ad 56), .ref (ad 57), .ref (ad 58), .ref (ad 59), .ref (ad 60), .ref (ad 61), .int ((t.1 52).1 0), .int ((t.1 52).1 1), .int ((t.1 52).1 2), .int ((t.1 52).1 3), .int ((t.1 52).1 4), .int ((t.1 52).1 5), .ref (ad 62), .ref (ad 63), .ref (ad 64), .int ((t.1 52).1 6), .int ((t.1 52).1 7), .int ((t.1 52).1 8), .int ((t.1 52).1 9), .int ((t.1 52).1 10), .ref (ad 65), .ref (ad 66), .ref (ad 67), .ref (ad 68), .long ((t.1 52).2.1 0), .long ((t.1 52).2.1 1)]))]) (hI.1.I [52] _ rfl (by decide) (by decide) (List.forall_mem_cons.mpr ⟨wf_m, (fun _ h => nomatch h)⟩)) ?_)
  refine y_lvE (lv2 := [(0, .ref (ad 52)), (1, .int x)]) rfl ?_
  refine y_aload_n d_Mm_shrunkIn_0 rfl 0 rfl ?_
  refine y_iconst d_Mm_shrunkIn_1 (v := 0) (by decide) ?_
  refine y_put fp_Mm_84 d_Mm_shrunkIn_2 (fun h => nomatch h) rfl rfl (q0 := 0) rfl (Nat.le_of_ble_eq_true rfl) (cs' := [((ad 52), .inr (12, [.int 0, .ref (ad 53), .int (nI ((t.1 52).2.2 0)), .ref (ad 54), .ref (ad 55), .ref (ad 56), .ref (ad 57), .ref (ad 58), .ref (ad 59), .ref (ad 60), .ref (ad 61), .int ((t.1 52).1 0), .int ((t.1 52).1 1), .int ((t.1 52).1 2), .int ((t.1 52).1 3), .int ((t.1 52).1 4), .int ((t.1 52).1 5), .ref (ad 62), .ref (ad 63), .ref (ad 64), .int ((t.1 52).1 6), .int ((t.1 52).1 7), .int ((t.1 52).1 8), .int ((t.1 52).1 9), .int ((t.1 52).1 10), .ref (ad 65), .ref (ad 66), .ref (ad 67), .ref (ad 68), .long ((t.1 52).2.1 0), .long ((t.1 52).2.1 1)]))]) rfl ?_
  refine y_aload_n d_Mm_shrunkIn_5 rfl 0 rfl ?_
  refine y_aload_n d_Mm_shrunkIn_6 rfl 0 rfl ?_
  refine y_iload_n d_Mm_shrunkIn_7 rfl 1 rfl ?_
  refine yw_callV (As := [.int x]) (rest := [.ref (ad 52)]) (q0 := 0) rfl rfl ln_Mm_301 w_im_Mm_noCasting w_se_Mm_noCasting ok_Mm_shrunkIn_Mm_noCasting d_Mm_shrunkIn_8 (fun wA hA => Q_noCasting1 (hI.gen (t2 := t) (is := [52]) (L2 := []) hA rfl ⟨kd_52.mpr ⟨_, rfl⟩, trivial⟩ (by decide) (by decide) (fun _ h => nomatch h) (fun _ h => nomatch h) (fun _ _ _ => rfl) (fun h => h) rfl) x hx) rfl rfl (Nat.le_of_ble_eq_true rfl) (by omega) (by omega) (fun wA8 hA8 E wB8 hx => ?_) (fun wA8 hA8 v wB8 hx => ?_)
  · exact absurd hx.1 (by simp)
  · obtain ⟨e1, e2⟩ := hx
    cases e1
    refine yw_st (st2 := [.int 1, .ref (ad 52)]) rfl ?_
    subst e2
    refine y_go hA8 ?_
    refine y_iconst d_Mm_shrunkIn_11 (v := 1) (by decide) ?_
    refine y_callV (As := [.int 1, .int 1]) (rest := []) (csC := [((ad 52), .inr (12, [.int 0, .ref (ad 53), .int (nI ((t.1 52).2.2 0)), .ref (ad 54), .ref (ad 55), .ref (ad 56), .ref (ad 57), .ref (ad 58), .ref (ad 59), .ref (ad 60), .ref (ad 61), .int ((t.1 52).1 0), .int ((t.1 52).1 1), .int ((t.1 52).1 2), .int ((t.1 52).1 3), .int ((t.1 52).1 4), .int ((t.1 52).1 5), .ref (ad 62), .ref (ad 63), .ref (ad 64), .int ((t.1 52).1 6), .int ((t.1 52).1 7), .int ((t.1 52).1 8), .int ((t.1 52).1 9), .int ((t.1 52).1 10), .ref (ad 65), .ref (ad 66), .ref (ad 67), .ref (ad 68), .long ((t.1 52).2.1 0), .long ((t.1 52).2.1 1)]))]) (is := [0]) (q0 := 0) rfl rfl ln_Mm_103 w_im_Mm_fails w_se_Mm_fails ok_Mm_shrunkIn_Mm_fails d_Mm_shrunkIn_12 (C_Mm_fails1 g (ad 52) (ad 53) (ad 54) (ad 55) (ad 56) (ad 57) (ad 58) (ad 59) (ad 60) (ad 61) (ad 62) (ad 63) (ad 64) (ad 65) (ad 66) (ad 67) (ad 68) 0 (nI ((t.1 52).2.2 0)) ((t.1 52).1 0) ((t.1 52).1 1) ((t.1 52).1 2) ((t.1 52).1 3) ((t.1 52).1 4) ((t.1 52).1 5) ((t.1 52).1 6) ((t.1 52).1 7) ((t.1 52).1 8) ((t.1 52).1 9) ((t.1 52).1 10) ((t.1 52).2.1 0) ((t.1 52).2.1 1)) rfl rfl (Nat.le_of_ble_eq_true rfl) rfl (by decide) (by omega) (by omega) (fun E cs1 hx => ?_) (fun v cs1 hx => ?_)
    · exact absurd hx.1 (by simp)
    · obtain ⟨e1, rfl⟩ := hx
      cases e1
      refine ⟨rfl, ?_⟩
      refine y_st (st2 := [.int 1]) rfl ?_
      refine y_cs (cs2 := [((ad 52), .inr (12, [.int 1, .ref (ad 53), .int (nI ((t.1 52).2.2 0)), .ref (ad 54), .ref (ad 55), .ref (ad 56), .ref (ad 57), .ref (ad 58), .ref (ad 59), .ref (ad 60), .ref (ad 61), .int ((t.1 52).1 0), .int ((t.1 52).1 1), .int ((t.1 52).1 2), .int ((t.1 52).1 3), .int ((t.1 52).1 4), .int ((t.1 52).1 5), .ref (ad 62), .ref (ad 63), .ref (ad 64), .int ((t.1 52).1 6), .int ((t.1 52).1 7), .int ((t.1 52).1 8), .int ((t.1 52).1 9), .int ((t.1 52).1 10), .ref (ad 65), .ref (ad 66), .ref (ad 67), .ref (ad 68), .long ((t.1 52).2.1 0), .long ((t.1 52).2.1 1)]))]) rfl ?_
      refine y_if_eq (tgt := 22) d_Mm_shrunkIn_15 (by decide) (fun c_15 => ?_) (fun c_15 => ?_)
      · exact absurd c_15 (by decide)
      · refine y_iconst d_Mm_shrunkIn_18 (v := 0) (by decide) ?_
        refine y_goto (tgt := 35) d_Mm_shrunkIn_19 (by decide) ?_
        refine y_iret d_Mm_shrunkIn_35 rfl rfl ?_
        exact fun w1 h1 => ⟨⟨_, rfl⟩, (hI.gen (t2 := t) (is := [52]) (L2 := []) h1 rfl ⟨kd_52.mpr ⟨_, rfl⟩, trivial⟩ (by decide) (by decide) (fun _ h => nomatch h) (fun _ h => nomatch h) (fun _ _ _ => rfl) (fun h => h) rfl)⟩
set_option maxHeartbeats 4000000 in
set_option maxRecDepth 100000 in
theorem Q_Mm_hasE {g : zG} {ad : Nat → Nat} {t : zTT} {u : zNN} {w : zW} (hI : IV g ad t u w) (x : Int32) (hx : ¬ ∃ k, k < u.1 5 ∧ x = nI k) (c : Int32) : zMB g M_Mm_has_1 [.ref (ad 52), .int x, .int c] w (fun o w1 => (∃ v : Int32, o = .inl (some (.int v))) ∧ IV g ad t u w1) 0 0 := by
  obtain ⟨e_m, wf_m, k_m⟩ := hI.1.2 52 (by decide)
  obtain ⟨v_m_th, rfl⟩ := kd_52.mp k_m
  refine y_of (by decide) rfl (Nat.le_of_ble_eq_true rfl) (y_base (cs := [((ad 52), .inr (12, [.int v_m_th, .ref (ad 53), .int (nI ((t.1 52).2.2 0)), .ref (ad 54), .ref (ad 55), .ref (ad 56), .ref (ad 57), .ref (ad 58), .ref (ad 59), .ref (ad 60), .ref (ad 61), .int ((t.1 52).1 0), .int ((t.1 52).1 1), .int ((t.1 52).1 2), .int ((t.1 52).1 3), .int ((t.1 52).1 4), .int ((t.1 52).1 5), .ref (ad 62), .ref (ad 63), .ref (ad 64), .int ((t.1 52).1 6), .int ((t.1 52).1 7), .int ((t.1 52).1 8), .int ((t.1 52).1 9), .int ((t.1 52).1 10), .ref (ad 65), .ref (ad 66), .ref (ad 67), .ref (ad 68), .long ((t.1 52).2.1 0), .long ((t.1 52).2.1 1)]))]) (hI.1.I [52] _ rfl (by decide) (by decide) (List.forall_mem_cons.mpr ⟨wf_m, (fun _ h => nomatch h)⟩)) ?_)
  refine y_lvE (lv2 := [(0, .ref (ad 52)), (1, .int x), (2, .int c)]) rfl ?_
  refine y_aload_n d_Mm_has_1_0 rfl 0 rfl ?_
  refine y_iconst d_Mm_has_1_1 (v := 0) (by decide) ?_
  refine y_put fp_Mm_84 d_Mm_has_1_2 (fun h => nomatch h) rfl rfl (q0 := 0) rfl (Nat.le_of_ble_eq_true rfl) (cs' := [((ad 52), .inr (12, [.int 0, .ref (ad 53), .int (nI ((t.1 52).2.2 0)), .ref (ad 54), .ref (ad 55), .ref (ad 56), .ref (ad 57), .ref (ad 58), .ref (ad 59), .ref (ad 60), .ref (ad 61), .int ((t.1 52).1 0), .int ((t.1 52).1 1), .int ((t.1 52).1 2), .int ((t.1 52).1 3), .int ((t.1 52).1 4), .int ((t.1 52).1 5), .ref (ad 62), .ref (ad 63), .ref (ad 64), .int ((t.1 52).1 6), .int ((t.1 52).1 7), .int ((t.1 52).1 8), .int ((t.1 52).1 9), .int ((t.1 52).1 10), .ref (ad 65), .ref (ad 66), .ref (ad 67), .ref (ad 68), .long ((t.1 52).2.1 0), .long ((t.1 52).2.1 1)]))]) rfl ?_
  refine y_aload_n d_Mm_has_1_5 rfl 0 rfl ?_
  refine y_aload_n d_Mm_has_1_6 rfl 0 rfl ?_
  refine y_iload_n d_Mm_has_1_7 rfl 1 rfl ?_
  refine yw_callV (As := [.int x]) (rest := [.ref (ad 52)]) (q0 := 0) rfl rfl ln_Mm_301 w_im_Mm_noCasting w_se_Mm_noCasting ok_Mm_has_1_Mm_noCasting d_Mm_has_1_8 (fun wA hA => Q_noCasting1 (hI.gen (t2 := t) (is := [52]) (L2 := []) hA rfl ⟨kd_52.mpr ⟨_, rfl⟩, trivial⟩ (by decide) (by decide) (fun _ h => nomatch h) (fun _ h => nomatch h) (fun _ _ _ => rfl) (fun h => h) rfl) x hx) rfl rfl (Nat.le_of_ble_eq_true rfl) (by omega) (by omega) (fun wA8 hA8 E wB8 hx => ?_) (fun wA8 hA8 v wB8 hx => ?_)
  · exact absurd hx.1 (by simp)
  · obtain ⟨e1, e2⟩ := hx
    cases e1
    refine yw_st (st2 := [.int 1, .ref (ad 52)]) rfl ?_
    subst e2
    refine y_go hA8 ?_
    refine y_iconst d_Mm_has_1_11 (v := 1) (by decide) ?_
    refine y_callV (As := [.int 1, .int 1]) (rest := []) (csC := [((ad 52), .inr (12, [.int 0, .ref (ad 53), .int (nI ((t.1 52).2.2 0)), .ref (ad 54), .ref (ad 55), .ref (ad 56), .ref (ad 57), .ref (ad 58), .ref (ad 59), .ref (ad 60), .ref (ad 61), .int ((t.1 52).1 0), .int ((t.1 52).1 1), .int ((t.1 52).1 2), .int ((t.1 52).1 3), .int ((t.1 52).1 4), .int ((t.1 52).1 5), .ref (ad 62), .ref (ad 63), .ref (ad 64), .int ((t.1 52).1 6), .int ((t.1 52).1 7), .int ((t.1 52).1 8), .int ((t.1 52).1 9), .int ((t.1 52).1 10), .ref (ad 65), .ref (ad 66), .ref (ad 67), .ref (ad 68), .long ((t.1 52).2.1 0), .long ((t.1 52).2.1 1)]))]) (is := [0]) (q0 := 0) rfl rfl ln_Mm_103 w_im_Mm_fails w_se_Mm_fails ok_Mm_has_1_Mm_fails d_Mm_has_1_12 (C_Mm_fails1 g (ad 52) (ad 53) (ad 54) (ad 55) (ad 56) (ad 57) (ad 58) (ad 59) (ad 60) (ad 61) (ad 62) (ad 63) (ad 64) (ad 65) (ad 66) (ad 67) (ad 68) 0 (nI ((t.1 52).2.2 0)) ((t.1 52).1 0) ((t.1 52).1 1) ((t.1 52).1 2) ((t.1 52).1 3) ((t.1 52).1 4) ((t.1 52).1 5) ((t.1 52).1 6) ((t.1 52).1 7) ((t.1 52).1 8) ((t.1 52).1 9) ((t.1 52).1 10) ((t.1 52).2.1 0) ((t.1 52).2.1 1)) rfl rfl (Nat.le_of_ble_eq_true rfl) rfl (by decide) (by omega) (by omega) (fun E cs1 hx => ?_) (fun v cs1 hx => ?_)
    · exact absurd hx.1 (by simp)
    · obtain ⟨e1, rfl⟩ := hx
      cases e1
      refine ⟨rfl, ?_⟩
      refine y_st (st2 := [.int 1]) rfl ?_
      refine y_cs (cs2 := [((ad 52), .inr (12, [.int 1, .ref (ad 53), .int (nI ((t.1 52).2.2 0)), .ref (ad 54), .ref (ad 55), .ref (ad 56), .ref (ad 57), .ref (ad 58), .ref (ad 59), .ref (ad 60), .ref (ad 61), .int ((t.1 52).1 0), .int ((t.1 52).1 1), .int ((t.1 52).1 2), .int ((t.1 52).1 3), .int ((t.1 52).1 4), .int ((t.1 52).1 5), .ref (ad 62), .ref (ad 63), .ref (ad 64), .int ((t.1 52).1 6), .int ((t.1 52).1 7), .int ((t.1 52).1 8), .int ((t.1 52).1 9), .int ((t.1 52).1 10), .ref (ad 65), .ref (ad 66), .ref (ad 67), .ref (ad 68), .long ((t.1 52).2.1 0), .long ((t.1 52).2.1 1)]))]) rfl ?_
      refine y_if_ne (tgt := 38) d_Mm_has_1_15 (by decide) (fun c_15 => ?_) (fun c_15 => ?_)
      · refine y_iconst d_Mm_has_1_38 (v := 0) (by decide) ?_
        refine y_goto (tgt := 51) d_Mm_has_1_39 (by decide) ?_
        refine y_iret d_Mm_has_1_51 rfl rfl ?_
        exact fun w1 h1 => ⟨⟨_, rfl⟩, (hI.gen (t2 := t) (is := [52]) (L2 := []) h1 rfl ⟨kd_52.mpr ⟨_, rfl⟩, trivial⟩ (by decide) (by decide) (fun _ h => nomatch h) (fun _ h => nomatch h) (fun _ _ _ => rfl) (fun h => h) rfl)⟩
      · exact absurd c_15 (by decide)
set_option maxHeartbeats 4000000 in
set_option maxRecDepth 100000 in
theorem Q_Mm_barE {g : zG} {ad : Nat → Nat} {t : zTT} {u : zNN} {w : zW} (hI : IV g ad t u w) (x : Int32) (hx : ¬ ∃ k, k < u.1 5 ∧ x = nI k) : zMB g M_Mm_bar [.ref (ad 52), .int x] w (fun o w1 => (∃ v : Int32, o = .inl (some (.int v))) ∧ IV g ad t u w1) 0 0 := by
  obtain ⟨e_m, wf_m, k_m⟩ := hI.1.2 52 (by decide)
  obtain ⟨v_m_th, rfl⟩ := kd_52.mp k_m
  refine y_of (by decide) rfl (Nat.le_of_ble_eq_true rfl) (y_base (cs := [((ad 52), .inr (12, [.int v_m_th, .ref (ad 53), .int (nI ((t.1 52).2.2 0)), .ref (ad 54), .ref (ad 55), .ref (ad 56), .ref (ad 57), .ref (ad 58), .ref (ad 59), .ref (ad 60), .ref (ad 61), .int ((t.1 52).1 0), .int ((t.1 52).1 1), .int ((t.1 52).1 2), .int ((t.1 52).1 3), .int ((t.1 52).1 4), .int ((t.1 52).1 5), .ref (ad 62), .ref (ad 63), .ref (ad 64), .int ((t.1 52).1 6), .int ((t.1 52).1 7), .int ((t.1 52).1 8), .int ((t.1 52).1 9), .int ((t.1 52).1 10), .ref (ad 65), .ref (ad 66), .ref (ad 67), .ref (ad 68), .long ((t.1 52).2.1 0), .long ((t.1 52).2.1 1)]))]) (hI.1.I [52] _ rfl (by decide) (by decide) (List.forall_mem_cons.mpr ⟨wf_m, (fun _ h => nomatch h)⟩)) ?_)
  refine y_lvE (lv2 := [(0, .ref (ad 52)), (1, .int x)]) rfl ?_
  refine y_aload_n d_Mm_bar_0 rfl 0 rfl ?_
  refine y_iconst d_Mm_bar_1 (v := 0) (by decide) ?_
  refine y_put fp_Mm_84 d_Mm_bar_2 (fun h => nomatch h) rfl rfl (q0 := 0) rfl (Nat.le_of_ble_eq_true rfl) (cs' := [((ad 52), .inr (12, [.int 0, .ref (ad 53), .int (nI ((t.1 52).2.2 0)), .ref (ad 54), .ref (ad 55), .ref (ad 56), .ref (ad 57), .ref (ad 58), .ref (ad 59), .ref (ad 60), .ref (ad 61), .int ((t.1 52).1 0), .int ((t.1 52).1 1), .int ((t.1 52).1 2), .int ((t.1 52).1 3), .int ((t.1 52).1 4), .int ((t.1 52).1 5), .ref (ad 62), .ref (ad 63), .ref (ad 64), .int ((t.1 52).1 6), .int ((t.1 52).1 7), .int ((t.1 52).1 8), .int ((t.1 52).1 9), .int ((t.1 52).1 10), .ref (ad 65), .ref (ad 66), .ref (ad 67), .ref (ad 68), .long ((t.1 52).2.1 0), .long ((t.1 52).2.1 1)]))]) rfl ?_
  refine y_aload_n d_Mm_bar_5 rfl 0 rfl ?_
  refine y_aload_n d_Mm_bar_6 rfl 0 rfl ?_
  refine y_iload_n d_Mm_bar_7 rfl 1 rfl ?_
  refine yw_callV (As := [.int x]) (rest := [.ref (ad 52)]) (q0 := 0) rfl rfl ln_Mm_301 w_im_Mm_noCasting w_se_Mm_noCasting ok_Mm_bar_Mm_noCasting d_Mm_bar_8 (fun wA hA => Q_noCasting1 (hI.gen (t2 := t) (is := [52]) (L2 := []) hA rfl ⟨kd_52.mpr ⟨_, rfl⟩, trivial⟩ (by decide) (by decide) (fun _ h => nomatch h) (fun _ h => nomatch h) (fun _ _ _ => rfl) (fun h => h) rfl) x hx) rfl rfl (Nat.le_of_ble_eq_true rfl) (by omega) (by omega) (fun wA8 hA8 E wB8 hx => ?_) (fun wA8 hA8 v wB8 hx => ?_)
  · exact absurd hx.1 (by simp)
  · obtain ⟨e1, e2⟩ := hx
    cases e1
    refine yw_st (st2 := [.int 1, .ref (ad 52)]) rfl ?_
    subst e2
    refine y_go hA8 ?_
    refine y_iconst d_Mm_bar_11 (v := 1) (by decide) ?_
    refine y_callV (As := [.int 1, .int 1]) (rest := []) (csC := [((ad 52), .inr (12, [.int 0, .ref (ad 53), .int (nI ((t.1 52).2.2 0)), .ref (ad 54), .ref (ad 55), .ref (ad 56), .ref (ad 57), .ref (ad 58), .ref (ad 59), .ref (ad 60), .ref (ad 61), .int ((t.1 52).1 0), .int ((t.1 52).1 1), .int ((t.1 52).1 2), .int ((t.1 52).1 3), .int ((t.1 52).1 4), .int ((t.1 52).1 5), .ref (ad 62), .ref (ad 63), .ref (ad 64), .int ((t.1 52).1 6), .int ((t.1 52).1 7), .int ((t.1 52).1 8), .int ((t.1 52).1 9), .int ((t.1 52).1 10), .ref (ad 65), .ref (ad 66), .ref (ad 67), .ref (ad 68), .long ((t.1 52).2.1 0), .long ((t.1 52).2.1 1)]))]) (is := [0]) (q0 := 0) rfl rfl ln_Mm_103 w_im_Mm_fails w_se_Mm_fails ok_Mm_bar_Mm_fails d_Mm_bar_12 (C_Mm_fails1 g (ad 52) (ad 53) (ad 54) (ad 55) (ad 56) (ad 57) (ad 58) (ad 59) (ad 60) (ad 61) (ad 62) (ad 63) (ad 64) (ad 65) (ad 66) (ad 67) (ad 68) 0 (nI ((t.1 52).2.2 0)) ((t.1 52).1 0) ((t.1 52).1 1) ((t.1 52).1 2) ((t.1 52).1 3) ((t.1 52).1 4) ((t.1 52).1 5) ((t.1 52).1 6) ((t.1 52).1 7) ((t.1 52).1 8) ((t.1 52).1 9) ((t.1 52).1 10) ((t.1 52).2.1 0) ((t.1 52).2.1 1)) rfl rfl (Nat.le_of_ble_eq_true rfl) rfl (by decide) (by omega) (by omega) (fun E cs1 hx => ?_) (fun v cs1 hx => ?_)
    · exact absurd hx.1 (by simp)
    · obtain ⟨e1, rfl⟩ := hx
      cases e1
      refine ⟨rfl, ?_⟩
      refine y_st (st2 := [.int 1]) rfl ?_
      refine y_cs (cs2 := [((ad 52), .inr (12, [.int 1, .ref (ad 53), .int (nI ((t.1 52).2.2 0)), .ref (ad 54), .ref (ad 55), .ref (ad 56), .ref (ad 57), .ref (ad 58), .ref (ad 59), .ref (ad 60), .ref (ad 61), .int ((t.1 52).1 0), .int ((t.1 52).1 1), .int ((t.1 52).1 2), .int ((t.1 52).1 3), .int ((t.1 52).1 4), .int ((t.1 52).1 5), .ref (ad 62), .ref (ad 63), .ref (ad 64), .int ((t.1 52).1 6), .int ((t.1 52).1 7), .int ((t.1 52).1 8), .int ((t.1 52).1 9), .int ((t.1 52).1 10), .ref (ad 65), .ref (ad 66), .ref (ad 67), .ref (ad 68), .long ((t.1 52).2.1 0), .long ((t.1 52).2.1 1)]))]) rfl ?_
      refine y_if_eq (tgt := 22) d_Mm_bar_15 (by decide) (fun c_15 => ?_) (fun c_15 => ?_)
      · exact absurd c_15 (by decide)
      · refine y_iconst d_Mm_bar_18 (v := 0) (by decide) ?_
        refine y_goto (tgt := 27) d_Mm_bar_19 (by decide) ?_
        refine y_iret d_Mm_bar_27 rfl rfl ?_
        exact fun w1 h1 => ⟨⟨_, rfl⟩, (hI.gen (t2 := t) (is := [52]) (L2 := []) h1 rfl ⟨kd_52.mpr ⟨_, rfl⟩, trivial⟩ (by decide) (by decide) (fun _ h => nomatch h) (fun _ h => nomatch h) (fun _ _ _ => rfl) (fun h => h) rfl)⟩
set_option maxHeartbeats 4000000 in
set_option maxRecDepth 100000 in
theorem Q_Mm_weldE {g : zG} {ad : Nat → Nat} {t : zTT} {u : zNN} {w : zW} (hI : IV g ad t u w) (x : Int32) (hx : ¬ ∃ k, k < u.1 5 ∧ x = nI k) : zMB g M_Mm_weld [.ref (ad 52), .int x] w (fun o w1 => (∃ v : Int32, o = .inl (some (.int v))) ∧ IV g ad t u w1) 0 0 := by
  obtain ⟨e_m, wf_m, k_m⟩ := hI.1.2 52 (by decide)
  obtain ⟨v_m_th, rfl⟩ := kd_52.mp k_m
  refine y_of (by decide) rfl (Nat.le_of_ble_eq_true rfl) (y_base (cs := [((ad 52), .inr (12, [.int v_m_th, .ref (ad 53), .int (nI ((t.1 52).2.2 0)), .ref (ad 54), .ref (ad 55), .ref (ad 56), .ref (ad 57), .ref (ad 58), .ref (ad 59), .ref (ad 60), .ref (ad 61), .int ((t.1 52).1 0), .int ((t.1 52).1 1), .int ((t.1 52).1 2), .int ((t.1 52).1 3), .int ((t.1 52).1 4), .int ((t.1 52).1 5), .ref (ad 62), .ref (ad 63), .ref (ad 64), .int ((t.1 52).1 6), .int ((t.1 52).1 7), .int ((t.1 52).1 8), .int ((t.1 52).1 9), .int ((t.1 52).1 10), .ref (ad 65), .ref (ad 66), .ref (ad 67), .ref (ad 68), .long ((t.1 52).2.1 0), .long ((t.1 52).2.1 1)]))]) (hI.1.I [52] _ rfl (by decide) (by decide) (List.forall_mem_cons.mpr ⟨wf_m, (fun _ h => nomatch h)⟩)) ?_)
  refine y_lvE (lv2 := [(0, .ref (ad 52)), (1, .int x)]) rfl ?_
  refine y_aload_n d_Mm_weld_0 rfl 0 rfl ?_
  refine y_iconst d_Mm_weld_1 (v := 0) (by decide) ?_
  refine y_put fp_Mm_84 d_Mm_weld_2 (fun h => nomatch h) rfl rfl (q0 := 0) rfl (Nat.le_of_ble_eq_true rfl) (cs' := [((ad 52), .inr (12, [.int 0, .ref (ad 53), .int (nI ((t.1 52).2.2 0)), .ref (ad 54), .ref (ad 55), .ref (ad 56), .ref (ad 57), .ref (ad 58), .ref (ad 59), .ref (ad 60), .ref (ad 61), .int ((t.1 52).1 0), .int ((t.1 52).1 1), .int ((t.1 52).1 2), .int ((t.1 52).1 3), .int ((t.1 52).1 4), .int ((t.1 52).1 5), .ref (ad 62), .ref (ad 63), .ref (ad 64), .int ((t.1 52).1 6), .int ((t.1 52).1 7), .int ((t.1 52).1 8), .int ((t.1 52).1 9), .int ((t.1 52).1 10), .ref (ad 65), .ref (ad 66), .ref (ad 67), .ref (ad 68), .long ((t.1 52).2.1 0), .long ((t.1 52).2.1 1)]))]) rfl ?_
  refine y_aload_n d_Mm_weld_5 rfl 0 rfl ?_
  refine y_aload_n d_Mm_weld_6 rfl 0 rfl ?_
  refine y_iload_n d_Mm_weld_7 rfl 1 rfl ?_
  refine yw_callV (As := [.int x]) (rest := [.ref (ad 52)]) (q0 := 0) rfl rfl ln_Mm_301 w_im_Mm_noCasting w_se_Mm_noCasting ok_Mm_weld_Mm_noCasting d_Mm_weld_8 (fun wA hA => Q_noCasting1 (hI.gen (t2 := t) (is := [52]) (L2 := []) hA rfl ⟨kd_52.mpr ⟨_, rfl⟩, trivial⟩ (by decide) (by decide) (fun _ h => nomatch h) (fun _ h => nomatch h) (fun _ _ _ => rfl) (fun h => h) rfl) x hx) rfl rfl (Nat.le_of_ble_eq_true rfl) (by omega) (by omega) (fun wA8 hA8 E wB8 hx => ?_) (fun wA8 hA8 v wB8 hx => ?_)
  · exact absurd hx.1 (by simp)
  · obtain ⟨e1, e2⟩ := hx
    cases e1
    refine yw_st (st2 := [.int 1, .ref (ad 52)]) rfl ?_
    subst e2
    refine y_go hA8 ?_
    refine y_iconst d_Mm_weld_11 (v := 1) (by decide) ?_
    refine y_callV (As := [.int 1, .int 1]) (rest := []) (csC := [((ad 52), .inr (12, [.int 0, .ref (ad 53), .int (nI ((t.1 52).2.2 0)), .ref (ad 54), .ref (ad 55), .ref (ad 56), .ref (ad 57), .ref (ad 58), .ref (ad 59), .ref (ad 60), .ref (ad 61), .int ((t.1 52).1 0), .int ((t.1 52).1 1), .int ((t.1 52).1 2), .int ((t.1 52).1 3), .int ((t.1 52).1 4), .int ((t.1 52).1 5), .ref (ad 62), .ref (ad 63), .ref (ad 64), .int ((t.1 52).1 6), .int ((t.1 52).1 7), .int ((t.1 52).1 8), .int ((t.1 52).1 9), .int ((t.1 52).1 10), .ref (ad 65), .ref (ad 66), .ref (ad 67), .ref (ad 68), .long ((t.1 52).2.1 0), .long ((t.1 52).2.1 1)]))]) (is := [0]) (q0 := 0) rfl rfl ln_Mm_103 w_im_Mm_fails w_se_Mm_fails ok_Mm_weld_Mm_fails d_Mm_weld_12 (C_Mm_fails1 g (ad 52) (ad 53) (ad 54) (ad 55) (ad 56) (ad 57) (ad 58) (ad 59) (ad 60) (ad 61) (ad 62) (ad 63) (ad 64) (ad 65) (ad 66) (ad 67) (ad 68) 0 (nI ((t.1 52).2.2 0)) ((t.1 52).1 0) ((t.1 52).1 1) ((t.1 52).1 2) ((t.1 52).1 3) ((t.1 52).1 4) ((t.1 52).1 5) ((t.1 52).1 6) ((t.1 52).1 7) ((t.1 52).1 8) ((t.1 52).1 9) ((t.1 52).1 10) ((t.1 52).2.1 0) ((t.1 52).2.1 1)) rfl rfl (Nat.le_of_ble_eq_true rfl) rfl (by decide) (by omega) (by omega) (fun E cs1 hx => ?_) (fun v cs1 hx => ?_)
    · exact absurd hx.1 (by simp)
    · obtain ⟨e1, rfl⟩ := hx
      cases e1
      refine ⟨rfl, ?_⟩
      refine y_st (st2 := [.int 1]) rfl ?_
      refine y_cs (cs2 := [((ad 52), .inr (12, [.int 1, .ref (ad 53), .int (nI ((t.1 52).2.2 0)), .ref (ad 54), .ref (ad 55), .ref (ad 56), .ref (ad 57), .ref (ad 58), .ref (ad 59), .ref (ad 60), .ref (ad 61), .int ((t.1 52).1 0), .int ((t.1 52).1 1), .int ((t.1 52).1 2), .int ((t.1 52).1 3), .int ((t.1 52).1 4), .int ((t.1 52).1 5), .ref (ad 62), .ref (ad 63), .ref (ad 64), .int ((t.1 52).1 6), .int ((t.1 52).1 7), .int ((t.1 52).1 8), .int ((t.1 52).1 9), .int ((t.1 52).1 10), .ref (ad 65), .ref (ad 66), .ref (ad 67), .ref (ad 68), .long ((t.1 52).2.1 0), .long ((t.1 52).2.1 1)]))]) rfl ?_
      refine y_if_eq (tgt := 20) d_Mm_weld_15 (by decide) (fun c_15 => ?_) (fun c_15 => ?_)
      · exact absurd c_15 (by decide)
      · refine y_iconst d_Mm_weld_18 (v := 0) (by decide) ?_
        refine y_iret d_Mm_weld_19 rfl rfl ?_
        exact fun w1 h1 => ⟨⟨_, rfl⟩, (hI.gen (t2 := t) (is := [52]) (L2 := []) h1 rfl ⟨kd_52.mpr ⟨_, rfl⟩, trivial⟩ (by decide) (by decide) (fun _ h => nomatch h) (fun _ h => nomatch h) (fun _ _ _ => rfl) (fun h => h) rfl)⟩
set_option maxHeartbeats 4000000 in
set_option maxRecDepth 100000 in
theorem Q_Mm_deliverE {g : zG} {ad : Nat → Nat} {t : zTT} {u : zNN} {w : zW} (hI : IV g ad t u w) (x : Int32) (hx : ¬ ∃ k, k < u.1 5 ∧ x = nI k) : zMB g M_Mm_deliver [.ref (ad 52), .int x] w (fun o w1 => (∃ v : Int32, o = .inl (some (.int v))) ∧ IV g ad t u w1) 0 0 := by
  obtain ⟨e_m, wf_m, k_m⟩ := hI.1.2 52 (by decide)
  obtain ⟨v_m_th, rfl⟩ := kd_52.mp k_m
  refine y_of (by decide) rfl (Nat.le_of_ble_eq_true rfl) (y_base (cs := [((ad 52), .inr (12, [.int v_m_th, .ref (ad 53), .int (nI ((t.1 52).2.2 0)), .ref (ad 54), .ref (ad 55), .ref (ad 56), .ref (ad 57), .ref (ad 58), .ref (ad 59), .ref (ad 60), .ref (ad 61), .int ((t.1 52).1 0), .int ((t.1 52).1 1), .int ((t.1 52).1 2), .int ((t.1 52).1 3), .int ((t.1 52).1 4), .int ((t.1 52).1 5), .ref (ad 62), .ref (ad 63), .ref (ad 64), .int ((t.1 52).1 6), .int ((t.1 52).1 7), .int ((t.1 52).1 8), .int ((t.1 52).1 9), .int ((t.1 52).1 10), .ref (ad 65), .ref (ad 66), .ref (ad 67), .ref (ad 68), .long ((t.1 52).2.1 0), .long ((t.1 52).2.1 1)]))]) (hI.1.I [52] _ rfl (by decide) (by decide) (List.forall_mem_cons.mpr ⟨wf_m, (fun _ h => nomatch h)⟩)) ?_)
  refine y_lvE (lv2 := [(0, .ref (ad 52)), (1, .int x)]) rfl ?_
  refine y_aload_n d_Mm_deliver_0 rfl 0 rfl ?_
  refine y_iconst d_Mm_deliver_1 (v := 0) (by decide) ?_
  refine y_put fp_Mm_84 d_Mm_deliver_2 (fun h => nomatch h) rfl rfl (q0 := 0) rfl (Nat.le_of_ble_eq_true rfl) (cs' := [((ad 52), .inr (12, [.int 0, .ref (ad 53), .int (nI ((t.1 52).2.2 0)), .ref (ad 54), .ref (ad 55), .ref (ad 56), .ref (ad 57), .ref (ad 58), .ref (ad 59), .ref (ad 60), .ref (ad 61), .int ((t.1 52).1 0), .int ((t.1 52).1 1), .int ((t.1 52).1 2), .int ((t.1 52).1 3), .int ((t.1 52).1 4), .int ((t.1 52).1 5), .ref (ad 62), .ref (ad 63), .ref (ad 64), .int ((t.1 52).1 6), .int ((t.1 52).1 7), .int ((t.1 52).1 8), .int ((t.1 52).1 9), .int ((t.1 52).1 10), .ref (ad 65), .ref (ad 66), .ref (ad 67), .ref (ad 68), .long ((t.1 52).2.1 0), .long ((t.1 52).2.1 1)]))]) rfl ?_
  refine y_aload_n d_Mm_deliver_5 rfl 0 rfl ?_
  refine y_aload_n d_Mm_deliver_6 rfl 0 rfl ?_
  refine y_iload_n d_Mm_deliver_7 rfl 1 rfl ?_
  refine yw_callV (As := [.int x]) (rest := [.ref (ad 52)]) (q0 := 0) rfl rfl ln_Mm_301 w_im_Mm_noCasting w_se_Mm_noCasting ok_Mm_deliver_Mm_noCasting d_Mm_deliver_8 (fun wA hA => Q_noCasting1 (hI.gen (t2 := t) (is := [52]) (L2 := []) hA rfl ⟨kd_52.mpr ⟨_, rfl⟩, trivial⟩ (by decide) (by decide) (fun _ h => nomatch h) (fun _ h => nomatch h) (fun _ _ _ => rfl) (fun h => h) rfl) x hx) rfl rfl (Nat.le_of_ble_eq_true rfl) (by omega) (by omega) (fun wA8 hA8 E wB8 hx => ?_) (fun wA8 hA8 v wB8 hx => ?_)
  · exact absurd hx.1 (by simp)
  · obtain ⟨e1, e2⟩ := hx
    cases e1
    refine yw_st (st2 := [.int 1, .ref (ad 52)]) rfl ?_
    subst e2
    refine y_go hA8 ?_
    refine y_iconst d_Mm_deliver_11 (v := 1) (by decide) ?_
    refine y_callV (As := [.int 1, .int 1]) (rest := []) (csC := [((ad 52), .inr (12, [.int 0, .ref (ad 53), .int (nI ((t.1 52).2.2 0)), .ref (ad 54), .ref (ad 55), .ref (ad 56), .ref (ad 57), .ref (ad 58), .ref (ad 59), .ref (ad 60), .ref (ad 61), .int ((t.1 52).1 0), .int ((t.1 52).1 1), .int ((t.1 52).1 2), .int ((t.1 52).1 3), .int ((t.1 52).1 4), .int ((t.1 52).1 5), .ref (ad 62), .ref (ad 63), .ref (ad 64), .int ((t.1 52).1 6), .int ((t.1 52).1 7), .int ((t.1 52).1 8), .int ((t.1 52).1 9), .int ((t.1 52).1 10), .ref (ad 65), .ref (ad 66), .ref (ad 67), .ref (ad 68), .long ((t.1 52).2.1 0), .long ((t.1 52).2.1 1)]))]) (is := [0]) (q0 := 0) rfl rfl ln_Mm_103 w_im_Mm_fails w_se_Mm_fails ok_Mm_deliver_Mm_fails d_Mm_deliver_12 (C_Mm_fails1 g (ad 52) (ad 53) (ad 54) (ad 55) (ad 56) (ad 57) (ad 58) (ad 59) (ad 60) (ad 61) (ad 62) (ad 63) (ad 64) (ad 65) (ad 66) (ad 67) (ad 68) 0 (nI ((t.1 52).2.2 0)) ((t.1 52).1 0) ((t.1 52).1 1) ((t.1 52).1 2) ((t.1 52).1 3) ((t.1 52).1 4) ((t.1 52).1 5) ((t.1 52).1 6) ((t.1 52).1 7) ((t.1 52).1 8) ((t.1 52).1 9) ((t.1 52).1 10) ((t.1 52).2.1 0) ((t.1 52).2.1 1)) rfl rfl (Nat.le_of_ble_eq_true rfl) rfl (by decide) (by omega) (by omega) (fun E cs1 hx => ?_) (fun v cs1 hx => ?_)
    · exact absurd hx.1 (by simp)
    · obtain ⟨e1, rfl⟩ := hx
      cases e1
      refine ⟨rfl, ?_⟩
      refine y_st (st2 := [.int 1]) rfl ?_
      refine y_cs (cs2 := [((ad 52), .inr (12, [.int 1, .ref (ad 53), .int (nI ((t.1 52).2.2 0)), .ref (ad 54), .ref (ad 55), .ref (ad 56), .ref (ad 57), .ref (ad 58), .ref (ad 59), .ref (ad 60), .ref (ad 61), .int ((t.1 52).1 0), .int ((t.1 52).1 1), .int ((t.1 52).1 2), .int ((t.1 52).1 3), .int ((t.1 52).1 4), .int ((t.1 52).1 5), .ref (ad 62), .ref (ad 63), .ref (ad 64), .int ((t.1 52).1 6), .int ((t.1 52).1 7), .int ((t.1 52).1 8), .int ((t.1 52).1 9), .int ((t.1 52).1 10), .ref (ad 65), .ref (ad 66), .ref (ad 67), .ref (ad 68), .long ((t.1 52).2.1 0), .long ((t.1 52).2.1 1)]))]) rfl ?_
      refine y_if_ne (tgt := 47) d_Mm_deliver_15 (by decide) (fun c_15 => ?_) (fun c_15 => ?_)
      · refine y_iconst d_Mm_deliver_47 (v := 0) (by decide) ?_
        refine y_iret d_Mm_deliver_48 rfl rfl ?_
        exact fun w1 h1 => ⟨⟨_, rfl⟩, (hI.gen (t2 := t) (is := [52]) (L2 := []) h1 rfl ⟨kd_52.mpr ⟨_, rfl⟩, trivial⟩ (by decide) (by decide) (fun _ h => nomatch h) (fun _ h => nomatch h) (fun _ _ _ => rfl) (fun h => h) rfl)⟩
      · exact absurd c_15 (by decide)
set_option maxHeartbeats 4000000 in
set_option maxRecDepth 100000 in
theorem Q_Mm_breakUpE {g : zG} {ad : Nat → Nat} {t : zTT} {u : zNN} {w : zW} (hI : IV g ad t u w) (x : Int32) (hx : ¬ ∃ k, k < u.1 5 ∧ x = nI k) : zMB g M_Mm_breakUp [.ref (ad 52), .int x] w (fun o w1 => (∃ v : Int32, o = .inl (some (.int v))) ∧ IV g ad t u w1) 0 0 := by
  obtain ⟨e_m, wf_m, k_m⟩ := hI.1.2 52 (by decide)
  obtain ⟨v_m_th, rfl⟩ := kd_52.mp k_m
  refine y_of (by decide) rfl (Nat.le_of_ble_eq_true rfl) (y_base (cs := [((ad 52), .inr (12, [.int v_m_th, .ref (ad 53), .int (nI ((t.1 52).2.2 0)), .ref (ad 54), .ref (ad 55), .ref (ad 56), .ref (ad 57), .ref (ad 58), .ref (ad 59), .ref (ad 60), .ref (ad 61), .int ((t.1 52).1 0), .int ((t.1 52).1 1), .int ((t.1 52).1 2), .int ((t.1 52).1 3), .int ((t.1 52).1 4), .int ((t.1 52).1 5), .ref (ad 62), .ref (ad 63), .ref (ad 64), .int ((t.1 52).1 6), .int ((t.1 52).1 7), .int ((t.1 52).1 8), .int ((t.1 52).1 9), .int ((t.1 52).1 10), .ref (ad 65), .ref (ad 66), .ref (ad 67), .ref (ad 68), .long ((t.1 52).2.1 0), .long ((t.1 52).2.1 1)]))]) (hI.1.I [52] _ rfl (by decide) (by decide) (List.forall_mem_cons.mpr ⟨wf_m, (fun _ h => nomatch h)⟩)) ?_)
  refine y_lvE (lv2 := [(0, .ref (ad 52)), (1, .int x)]) rfl ?_
  refine y_aload_n d_Mm_breakUp_0 rfl 0 rfl ?_
  refine y_iconst d_Mm_breakUp_1 (v := 0) (by decide) ?_
  refine y_put fp_Mm_84 d_Mm_breakUp_2 (fun h => nomatch h) rfl rfl (q0 := 0) rfl (Nat.le_of_ble_eq_true rfl) (cs' := [((ad 52), .inr (12, [.int 0, .ref (ad 53), .int (nI ((t.1 52).2.2 0)), .ref (ad 54), .ref (ad 55), .ref (ad 56), .ref (ad 57), .ref (ad 58), .ref (ad 59), .ref (ad 60), .ref (ad 61), .int ((t.1 52).1 0), .int ((t.1 52).1 1), .int ((t.1 52).1 2), .int ((t.1 52).1 3), .int ((t.1 52).1 4), .int ((t.1 52).1 5), .ref (ad 62), .ref (ad 63), .ref (ad 64), .int ((t.1 52).1 6), .int ((t.1 52).1 7), .int ((t.1 52).1 8), .int ((t.1 52).1 9), .int ((t.1 52).1 10), .ref (ad 65), .ref (ad 66), .ref (ad 67), .ref (ad 68), .long ((t.1 52).2.1 0), .long ((t.1 52).2.1 1)]))]) rfl ?_
  refine y_aload_n d_Mm_breakUp_5 rfl 0 rfl ?_
  refine y_aload_n d_Mm_breakUp_6 rfl 0 rfl ?_
  refine y_iload_n d_Mm_breakUp_7 rfl 1 rfl ?_
  refine yw_callV (As := [.int x]) (rest := [.ref (ad 52)]) (q0 := 0) rfl rfl ln_Mm_301 w_im_Mm_noCasting w_se_Mm_noCasting ok_Mm_breakUp_Mm_noCasting d_Mm_breakUp_8 (fun wA hA => Q_noCasting1 (hI.gen (t2 := t) (is := [52]) (L2 := []) hA rfl ⟨kd_52.mpr ⟨_, rfl⟩, trivial⟩ (by decide) (by decide) (fun _ h => nomatch h) (fun _ h => nomatch h) (fun _ _ _ => rfl) (fun h => h) rfl) x hx) rfl rfl (Nat.le_of_ble_eq_true rfl) (by omega) (by omega) (fun wA8 hA8 E wB8 hx => ?_) (fun wA8 hA8 v wB8 hx => ?_)
  · exact absurd hx.1 (by simp)
  · obtain ⟨e1, e2⟩ := hx
    cases e1
    refine yw_st (st2 := [.int 1, .ref (ad 52)]) rfl ?_
    subst e2
    refine y_go hA8 ?_
    refine y_iconst d_Mm_breakUp_11 (v := 1) (by decide) ?_
    refine y_callV (As := [.int 1, .int 1]) (rest := []) (csC := [((ad 52), .inr (12, [.int 0, .ref (ad 53), .int (nI ((t.1 52).2.2 0)), .ref (ad 54), .ref (ad 55), .ref (ad 56), .ref (ad 57), .ref (ad 58), .ref (ad 59), .ref (ad 60), .ref (ad 61), .int ((t.1 52).1 0), .int ((t.1 52).1 1), .int ((t.1 52).1 2), .int ((t.1 52).1 3), .int ((t.1 52).1 4), .int ((t.1 52).1 5), .ref (ad 62), .ref (ad 63), .ref (ad 64), .int ((t.1 52).1 6), .int ((t.1 52).1 7), .int ((t.1 52).1 8), .int ((t.1 52).1 9), .int ((t.1 52).1 10), .ref (ad 65), .ref (ad 66), .ref (ad 67), .ref (ad 68), .long ((t.1 52).2.1 0), .long ((t.1 52).2.1 1)]))]) (is := [0]) (q0 := 0) rfl rfl ln_Mm_103 w_im_Mm_fails w_se_Mm_fails ok_Mm_breakUp_Mm_fails d_Mm_breakUp_12 (C_Mm_fails1 g (ad 52) (ad 53) (ad 54) (ad 55) (ad 56) (ad 57) (ad 58) (ad 59) (ad 60) (ad 61) (ad 62) (ad 63) (ad 64) (ad 65) (ad 66) (ad 67) (ad 68) 0 (nI ((t.1 52).2.2 0)) ((t.1 52).1 0) ((t.1 52).1 1) ((t.1 52).1 2) ((t.1 52).1 3) ((t.1 52).1 4) ((t.1 52).1 5) ((t.1 52).1 6) ((t.1 52).1 7) ((t.1 52).1 8) ((t.1 52).1 9) ((t.1 52).1 10) ((t.1 52).2.1 0) ((t.1 52).2.1 1)) rfl rfl (Nat.le_of_ble_eq_true rfl) rfl (by decide) (by omega) (by omega) (fun E cs1 hx => ?_) (fun v cs1 hx => ?_)
    · exact absurd hx.1 (by simp)
    · obtain ⟨e1, rfl⟩ := hx
      cases e1
      refine ⟨rfl, ?_⟩
      refine y_st (st2 := [.int 1]) rfl ?_
      refine y_cs (cs2 := [((ad 52), .inr (12, [.int 1, .ref (ad 53), .int (nI ((t.1 52).2.2 0)), .ref (ad 54), .ref (ad 55), .ref (ad 56), .ref (ad 57), .ref (ad 58), .ref (ad 59), .ref (ad 60), .ref (ad 61), .int ((t.1 52).1 0), .int ((t.1 52).1 1), .int ((t.1 52).1 2), .int ((t.1 52).1 3), .int ((t.1 52).1 4), .int ((t.1 52).1 5), .ref (ad 62), .ref (ad 63), .ref (ad 64), .int ((t.1 52).1 6), .int ((t.1 52).1 7), .int ((t.1 52).1 8), .int ((t.1 52).1 9), .int ((t.1 52).1 10), .ref (ad 65), .ref (ad 66), .ref (ad 67), .ref (ad 68), .long ((t.1 52).2.1 0), .long ((t.1 52).2.1 1)]))]) rfl ?_
      refine y_if_ne (tgt := 47) d_Mm_breakUp_15 (by decide) (fun c_15 => ?_) (fun c_15 => ?_)
      · refine y_iconst d_Mm_breakUp_47 (v := 0) (by decide) ?_
        refine y_iret d_Mm_breakUp_48 rfl rfl ?_
        exact fun w1 h1 => ⟨⟨_, rfl⟩, (hI.gen (t2 := t) (is := [52]) (L2 := []) h1 rfl ⟨kd_52.mpr ⟨_, rfl⟩, trivial⟩ (by decide) (by decide) (fun _ h => nomatch h) (fun _ h => nomatch h) (fun _ _ _ => rfl) (fun h => h) rfl)⟩
      · exact absurd c_15 (by decide)
theorem d_Mm_alloy_22 : decode prog_14_method_80_code 22 = .ok (.aload_n 0, 1) := zo_42 (zd_b zq_prog_14_method_80_code_0 22 rfl rfl rfl)
theorem d_Mm_alloy_23 : decode prog_14_method_80_code 23 = .ok (.getfield 78, 3) := zo_180 (d := 0) (e := 78) (zd_b zq_prog_14_method_80_code_0 23 rfl rfl rfl) (zd_b zq_prog_14_method_80_code_0 24 rfl rfl rfl) (zd_b zq_prog_14_method_80_code_0 25 rfl rfl rfl)
theorem d_Mm_alloy_26 : decode prog_14_method_80_code 26 = .ok (.iload_n 1, 1) := zo_27 (zd_b zq_prog_14_method_80_code_0 26 rfl rfl rfl)
theorem d_Mm_alloy_27 : decode prog_14_method_80_code 27 = .ok (.invokevirtual 211, 3) := zo_182 (d := 0) (e := 211) (zd_b zq_prog_14_method_80_code_0 27 rfl rfl rfl) (zd_b zq_prog_14_method_80_code_0 28 rfl rfl rfl) (zd_b zq_prog_14_method_80_code_0 29 rfl rfl rfl)
theorem ok_Mm_alloy_AL_get : z_ok M_Mm_alloy M_AL_get 1 := ⟨z_mj2 (i := 180) rfl (by decide +kernel), rfl, ⟨by decide +kernel, by decide +kernel, by decide +kernel⟩, ⟨by decide, by decide⟩, z_mj1 (i := 13) rfl (by decide +kernel), rfl⟩
theorem d_Mm_alloy_30 : decode prog_14_method_80_code 30 = .ok (.checkcast 215, 3) := zo_192 (d := 0) (e := 215) (zd_b zq_prog_14_method_80_code_0 30 rfl rfl rfl) (zd_b zq_prog_14_method_80_code_0 31 rfl rfl rfl) (zd_b zq_prog_14_method_80_code_1 0 rfl rfl rfl)
theorem d_Mm_alloy_33 : decode prog_14_method_80_code 33 = .ok (.iconst 4, 1) := zo_7 (zd_b zq_prog_14_method_80_code_1 1 rfl rfl rfl)
theorem d_Mm_alloy_34 : decode prog_14_method_80_code 34 = .ok (.iaload, 1) := zo_46 (zd_b zq_prog_14_method_80_code_1 2 rfl rfl rfl)
theorem d_Mm_alloy_35 : decode prog_14_method_80_code 35 = .ok (.iconst 1, 1) := zo_4 (zd_b zq_prog_14_method_80_code_1 3 rfl rfl rfl)
theorem d_Mm_alloy_36 : decode prog_14_method_80_code 36 = .ok (.if_icmp .ne 8, 3) := zo_160 (d := 0) (e := 8) (zd_b zq_prog_14_method_80_code_1 4 rfl rfl rfl) (zd_b zq_prog_14_method_80_code_1 5 rfl rfl rfl) (zd_b zq_prog_14_method_80_code_1 6 rfl rfl rfl) (by decide +kernel)
theorem d_Mm_alloy_44 : decode prog_14_method_80_code 44 = .ok (.bipush 103, 2) := zo_16 (d := 103) (zd_b zq_prog_14_method_80_code_1 12 rfl rfl rfl) (zd_b zq_prog_14_method_80_code_1 13 rfl rfl rfl) (by decide +kernel)
theorem d_Mm_alloy_39 : decode prog_14_method_80_code 39 = .ok (.bipush 100, 2) := zo_16 (d := 100) (zd_b zq_prog_14_method_80_code_1 7 rfl rfl rfl) (zd_b zq_prog_14_method_80_code_1 8 rfl rfl rfl) (by decide +kernel)
theorem d_Mm_alloy_41 : decode prog_14_method_80_code 41 = .ok (.goto 5, 3) := zo_167 (d := 0) (e := 5) (zd_b zq_prog_14_method_80_code_1 9 rfl rfl rfl) (zd_b zq_prog_14_method_80_code_1 10 rfl rfl rfl) (zd_b zq_prog_14_method_80_code_1 11 rfl rfl rfl) (by decide +kernel)
set_option maxHeartbeats 4000000 in
set_option maxRecDepth 100000 in
theorem Q_Mm_alloyN {g : zG} {ad : Nat → Nat} {t : zTT} {u : zNN} {w : zW} (hI : IV g ad t u w) (k : Nat) (hk : k < u.1 5) : zMB g M_Mm_alloy [.ref (ad 52), .int (nI k)] w (fun o w1 => (∃ v : Int32, o = .inl (some (.int v))) ∧ IV g ad t u w1) 0 0 := by
  obtain ⟨e_m, wf_m, k_m⟩ := hI.1.2 52 (by decide)
  obtain ⟨v_m_th, rfl⟩ := kd_52.mp k_m
  refine y_of (by decide) rfl (Nat.le_of_ble_eq_true rfl) (y_base (cs := [((ad 52), .inr (12, [.int v_m_th, .ref (ad 53), .int (nI ((t.1 52).2.2 0)), .ref (ad 54), .ref (ad 55), .ref (ad 56), .ref (ad 57), .ref (ad 58), .ref (ad 59), .ref (ad 60), .ref (ad 61), .int ((t.1 52).1 0), .int ((t.1 52).1 1), .int ((t.1 52).1 2), .int ((t.1 52).1 3), .int ((t.1 52).1 4), .int ((t.1 52).1 5), .ref (ad 62), .ref (ad 63), .ref (ad 64), .int ((t.1 52).1 6), .int ((t.1 52).1 7), .int ((t.1 52).1 8), .int ((t.1 52).1 9), .int ((t.1 52).1 10), .ref (ad 65), .ref (ad 66), .ref (ad 67), .ref (ad 68), .long ((t.1 52).2.1 0), .long ((t.1 52).2.1 1)]))]) (hI.1.I [52] _ rfl (by decide) (by decide) (List.forall_mem_cons.mpr ⟨wf_m, (fun _ h => nomatch h)⟩)) ?_)
  refine y_lvE (lv2 := [(0, .ref (ad 52)), (1, .int (nI k))]) rfl ?_
  refine y_aload_n d_Mm_alloy_0 rfl 0 rfl ?_
  refine y_iconst d_Mm_alloy_1 (v := 0) (by decide) ?_
  refine y_put fp_Mm_84 d_Mm_alloy_2 (fun h => nomatch h) rfl rfl (q0 := 0) rfl (Nat.le_of_ble_eq_true rfl) (cs' := [((ad 52), .inr (12, [.int 0, .ref (ad 53), .int (nI ((t.1 52).2.2 0)), .ref (ad 54), .ref (ad 55), .ref (ad 56), .ref (ad 57), .ref (ad 58), .ref (ad 59), .ref (ad 60), .ref (ad 61), .int ((t.1 52).1 0), .int ((t.1 52).1 1), .int ((t.1 52).1 2), .int ((t.1 52).1 3), .int ((t.1 52).1 4), .int ((t.1 52).1 5), .ref (ad 62), .ref (ad 63), .ref (ad 64), .int ((t.1 52).1 6), .int ((t.1 52).1 7), .int ((t.1 52).1 8), .int ((t.1 52).1 9), .int ((t.1 52).1 10), .ref (ad 65), .ref (ad 66), .ref (ad 67), .ref (ad 68), .long ((t.1 52).2.1 0), .long ((t.1 52).2.1 1)]))]) rfl ?_
  refine y_aload_n d_Mm_alloy_5 rfl 0 rfl ?_
  refine y_aload_n d_Mm_alloy_6 rfl 0 rfl ?_
  refine y_iload_n d_Mm_alloy_7 rfl 1 rfl ?_
  refine yw_callV (As := [.int (nI k)]) (rest := [.ref (ad 52)]) (q0 := 0) rfl rfl ln_Mm_301 w_im_Mm_noCasting w_se_Mm_noCasting ok_Mm_alloy_Mm_noCasting d_Mm_alloy_8 (fun wA hA => Q_noCasting0 (hI.gen (t2 := t) (is := [52]) (L2 := []) hA rfl ⟨kd_52.mpr ⟨_, rfl⟩, trivial⟩ (by decide) (by decide) (fun _ h => nomatch h) (fun _ h => nomatch h) (fun _ _ _ => rfl) (fun h => h) rfl) (nI k) ⟨k, hk, rfl⟩) rfl rfl (Nat.le_of_ble_eq_true rfl) (by omega) (by omega) (fun wA8 hA8 E wB8 hx => ?_) (fun wA8 hA8 v wB8 hx => ?_)
  · exact absurd hx.1 (by simp)
  · obtain ⟨e1, e2⟩ := hx
    cases e1
    refine yw_st (st2 := [.int 0, .ref (ad 52)]) rfl ?_
    subst e2
    refine y_go hA8 ?_
    refine y_iconst d_Mm_alloy_11 (v := 1) (by decide) ?_
    refine y_callV (As := [.int 0, .int 1]) (rest := []) (csC := [((ad 52), .inr (12, [.int 0, .ref (ad 53), .int (nI ((t.1 52).2.2 0)), .ref (ad 54), .ref (ad 55), .ref (ad 56), .ref (ad 57), .ref (ad 58), .ref (ad 59), .ref (ad 60), .ref (ad 61), .int ((t.1 52).1 0), .int ((t.1 52).1 1), .int ((t.1 52).1 2), .int ((t.1 52).1 3), .int ((t.1 52).1 4), .int ((t.1 52).1 5), .ref (ad 62), .ref (ad 63), .ref (ad 64), .int ((t.1 52).1 6), .int ((t.1 52).1 7), .int ((t.1 52).1 8), .int ((t.1 52).1 9), .int ((t.1 52).1 10), .ref (ad 65), .ref (ad 66), .ref (ad 67), .ref (ad 68), .long ((t.1 52).2.1 0), .long ((t.1 52).2.1 1)]))]) (is := [0]) (q0 := 0) rfl rfl ln_Mm_103 w_im_Mm_fails w_se_Mm_fails ok_Mm_alloy_Mm_fails d_Mm_alloy_12 (C_Mm_fails0 g (ad 52) (ad 53) (ad 54) (ad 55) (ad 56) (ad 57) (ad 58) (ad 59) (ad 60) (ad 61) (ad 62) (ad 63) (ad 64) (ad 65) (ad 66) (ad 67) (ad 68) 0 (nI ((t.1 52).2.2 0)) ((t.1 52).1 0) ((t.1 52).1 1) ((t.1 52).1 2) ((t.1 52).1 3) ((t.1 52).1 4) ((t.1 52).1 5) ((t.1 52).1 6) ((t.1 52).1 7) ((t.1 52).1 8) ((t.1 52).1 9) ((t.1 52).1 10) ((t.1 52).2.1 0) ((t.1 52).2.1 1) 1) rfl rfl (Nat.le_of_ble_eq_true rfl) rfl (by decide) (by omega) (by omega) (fun E cs1 hx => ?_) (fun v cs1 hx => ?_)
    · exact absurd hx.1 (by simp)
    · obtain ⟨e1, rfl⟩ := hx
      cases e1
      refine ⟨rfl, ?_⟩
      refine y_st (st2 := [.int 0]) rfl ?_
      refine y_cs (cs2 := [((ad 52), .inr (12, [.int 0, .ref (ad 53), .int (nI ((t.1 52).2.2 0)), .ref (ad 54), .ref (ad 55), .ref (ad 56), .ref (ad 57), .ref (ad 58), .ref (ad 59), .ref (ad 60), .ref (ad 61), .int ((t.1 52).1 0), .int ((t.1 52).1 1), .int ((t.1 52).1 2), .int ((t.1 52).1 3), .int ((t.1 52).1 4), .int ((t.1 52).1 5), .ref (ad 62), .ref (ad 63), .ref (ad 64), .int ((t.1 52).1 6), .int ((t.1 52).1 7), .int ((t.1 52).1 8), .int ((t.1 52).1 9), .int ((t.1 52).1 10), .ref (ad 65), .ref (ad 66), .ref (ad 67), .ref (ad 68), .long ((t.1 52).2.1 0), .long ((t.1 52).2.1 1)]))]) rfl ?_
      refine y_if_eq (tgt := 22) d_Mm_alloy_15 (by decide) (fun c_15 => ?_) (fun c_15 => ?_)
      · refine y_aload_n d_Mm_alloy_22 rfl 0 rfl ?_
        refine y_get fs_Mm_78 d_Mm_alloy_23 (q0 := 0) rfl rfl ?_
        refine y_iload_n d_Mm_alloy_26 rfl 1 rfl ?_
        refine yw_callVL (As := [.int (nI k)]) (rest := []) (ci := 13) rfl (fun wA hA => ((hI.gen (t2 := t) (is := [52]) (L2 := []) hA rfl ⟨kd_52.mpr ⟨_, rfl⟩, trivial⟩ (by decide) (by decide) (fun _ h => nomatch h) (fun _ h => nomatch h) (fun _ _ _ => rfl) (fun h => h) rfl).2.1.1 5 (by decide)).ob) ln_Mm_211 w_im_AL_get w_se_AL_get ok_Mm_alloy_AL_get d_Mm_alloy_27 (fun wA hA => Q_get ((hI.gen (t2 := t) (is := [52]) (L2 := []) hA rfl ⟨kd_52.mpr ⟨_, rfl⟩, trivial⟩ (by decide) (by decide) (fun _ h => nomatch h) (fun _ h => nomatch h) (fun _ _ _ => rfl) (fun h => h) rfl).2.1.1 5 (by decide)) hk) rfl rfl (Nat.le_of_ble_eq_true rfl) (by omega) (by omega) (fun wA27 hA27 E wB27 hx => ?_) (fun wA27 hA27 v wB27 hx => ?_)
        · exact absurd hx.1 (by simp)
        · obtain ⟨e1, e2⟩ := hx
          cases e1
          refine yw_st (st2 := [.ref (u.2.2 5 k)]) rfl ?_
          subst e2
          refine y_go hA27 ?_
          refine y_end (fun wC1 hC1 => ?_)
          have hI9 := (hI.gen (t2 := t) (is := [52]) (L2 := []) hC1 rfl ⟨kd_52.mpr ⟨_, rfl⟩, trivial⟩ (by decide) (by decide) (fun _ h => nomatch h) (fun _ h => nomatch h) (fun _ _ _ => rfl) (fun h => h) rfl)
          have hI := hI9
          obtain ⟨nf_c, hw_c, h0_c⟩ := hI.2.1.2.1 5 (by decide) k hk
          refine y_base (cs := [((ad 52), .inr (12, [.int 0, .ref (ad 53), .int (nI ((t.1 52).2.2 0)), .ref (ad 54), .ref (ad 55), .ref (ad 56), .ref (ad 57), .ref (ad 58), .ref (ad 59), .ref (ad 60), .ref (ad 61), .int ((t.1 52).1 0), .int ((t.1 52).1 1), .int ((t.1 52).1 2), .int ((t.1 52).1 3), .int ((t.1 52).1 4), .int ((t.1 52).1 5), .ref (ad 62), .ref (ad 63), .ref (ad 64), .int ((t.1 52).1 6), .int ((t.1 52).1 7), .int ((t.1 52).1 8), .int ((t.1 52).1 9), .int ((t.1 52).1 10), .ref (ad 65), .ref (ad 66), .ref (ad 67), .ref (ad 68), .long ((t.1 52).2.1 0), .long ((t.1 52).2.1 1)])), ((u.2.2 5 k), .inl (0, 6, .inl ((t.2 5 k).2.1)))]) (z_I.kd (List.forall_mem_cons.mpr ⟨hC1.at (q0 := 0) rfl, (List.forall_mem_cons.mpr ⟨hw_c, (fun _ h => nomatch h)⟩)⟩) (by simp [z_kd])) ?_
          refine y_castA (t := 0) (by decide) lk_Mm_215 d_Mm_alloy_30 (q0 := 1) rfl ?_
          refine y_iconst d_Mm_alloy_33 (v := 4) (by decide) ?_
          refine y_iald d_Mm_alloy_34 (q0 := 1) rfl (fun q => q.elim (by decide) (by decide)) (v := ((t.2 5 k).2.1) 4) rfl ?_
          refine y_iconst d_Mm_alloy_35 (v := 1) (by decide) ?_
          refine y_icmp_ne (tgt := 44) d_Mm_alloy_36 (by decide) (fun c_36 => ?_) (fun c_36 => ?_)
          · refine y_bipush d_Mm_alloy_44 (v := 103) (by decide) ?_
            refine y_iret d_Mm_alloy_46 rfl rfl ?_
            exact fun w1 h1 => ⟨⟨_, rfl⟩, (hI.gen (t2 := t) (is := [52]) (L2 := [(u.2.2 5 k)]) h1 rfl ⟨kd_52.mpr ⟨_, rfl⟩, trivial⟩ (by decide) (by decide) (List.forall_mem_cons.mpr ⟨nf_c, (fun _ h => nomatch h)⟩) (List.forall_mem_cons.mpr ⟨⟨_, hw_c, h1.at (q0 := 1) rfl⟩, (fun _ h => nomatch h)⟩) (fun _ _ _ => rfl) (fun h => h) rfl)⟩
          · refine y_bipush d_Mm_alloy_39 (v := 100) (by decide) ?_
            refine y_goto (tgt := 46) d_Mm_alloy_41 (by decide) ?_
            refine y_iret d_Mm_alloy_46 rfl rfl ?_
            exact fun w1 h1 => ⟨⟨_, rfl⟩, (hI.gen (t2 := t) (is := [52]) (L2 := [(u.2.2 5 k)]) h1 rfl ⟨kd_52.mpr ⟨_, rfl⟩, trivial⟩ (by decide) (by decide) (List.forall_mem_cons.mpr ⟨nf_c, (fun _ h => nomatch h)⟩) (List.forall_mem_cons.mpr ⟨⟨_, hw_c, h1.at (q0 := 1) rfl⟩, (fun _ h => nomatch h)⟩) (fun _ _ _ => rfl) (fun h => h) rfl)⟩
      · exact absurd c_15 (by decide)
theorem d_Mm_faults_22 : decode prog_14_method_81_code 22 = .ok (.aload_n 0, 1) := zo_42 (zd_b zq_prog_14_method_81_code_0 22 rfl rfl rfl)
theorem d_Mm_faults_23 : decode prog_14_method_81_code 23 = .ok (.getfield 78, 3) := zo_180 (d := 0) (e := 78) (zd_b zq_prog_14_method_81_code_0 23 rfl rfl rfl) (zd_b zq_prog_14_method_81_code_0 24 rfl rfl rfl) (zd_b zq_prog_14_method_81_code_0 25 rfl rfl rfl)
theorem d_Mm_faults_26 : decode prog_14_method_81_code 26 = .ok (.iload_n 1, 1) := zo_27 (zd_b zq_prog_14_method_81_code_0 26 rfl rfl rfl)
theorem d_Mm_faults_27 : decode prog_14_method_81_code 27 = .ok (.invokevirtual 211, 3) := zo_182 (d := 0) (e := 211) (zd_b zq_prog_14_method_81_code_0 27 rfl rfl rfl) (zd_b zq_prog_14_method_81_code_0 28 rfl rfl rfl) (zd_b zq_prog_14_method_81_code_0 29 rfl rfl rfl)
theorem ok_Mm_faults_AL_get : z_ok M_Mm_faults M_AL_get 1 := ⟨z_mj2 (i := 180) rfl (by decide +kernel), rfl, ⟨by decide +kernel, by decide +kernel, by decide +kernel⟩, ⟨by decide, by decide⟩, z_mj1 (i := 13) rfl (by decide +kernel), rfl⟩
theorem d_Mm_faults_30 : decode prog_14_method_81_code 30 = .ok (.checkcast 215, 3) := zo_192 (d := 0) (e := 215) (zd_b zq_prog_14_method_81_code_0 30 rfl rfl rfl) (zd_b zq_prog_14_method_81_code_0 31 rfl rfl rfl) (zd_b zq_prog_14_method_81_code_1 0 rfl rfl rfl)
theorem d_Mm_faults_33 : decode prog_14_method_81_code 33 = .ok (.iconst 2, 1) := zo_5 (zd_b zq_prog_14_method_81_code_1 1 rfl rfl rfl)
theorem d_Mm_faults_34 : decode prog_14_method_81_code 34 = .ok (.iaload, 1) := zo_46 (zd_b zq_prog_14_method_81_code_1 2 rfl rfl rfl)
set_option maxHeartbeats 4000000 in
set_option maxRecDepth 100000 in
theorem Q_Mm_faultsN {g : zG} {ad : Nat → Nat} {t : zTT} {u : zNN} {w : zW} (hI : IV g ad t u w) (k : Nat) (hk : k < u.1 5) : zMB g M_Mm_faults [.ref (ad 52), .int (nI k)] w (fun o w1 => (∃ v : Int32, o = .inl (some (.int v))) ∧ IV g ad t u w1) 0 0 := by
  obtain ⟨e_m, wf_m, k_m⟩ := hI.1.2 52 (by decide)
  obtain ⟨v_m_th, rfl⟩ := kd_52.mp k_m
  refine y_of (by decide) rfl (Nat.le_of_ble_eq_true rfl) (y_base (cs := [((ad 52), .inr (12, [.int v_m_th, .ref (ad 53), .int (nI ((t.1 52).2.2 0)), .ref (ad 54), .ref (ad 55), .ref (ad 56), .ref (ad 57), .ref (ad 58), .ref (ad 59), .ref (ad 60), .ref (ad 61), .int ((t.1 52).1 0), .int ((t.1 52).1 1), .int ((t.1 52).1 2), .int ((t.1 52).1 3), .int ((t.1 52).1 4), .int ((t.1 52).1 5), .ref (ad 62), .ref (ad 63), .ref (ad 64), .int ((t.1 52).1 6), .int ((t.1 52).1 7), .int ((t.1 52).1 8), .int ((t.1 52).1 9), .int ((t.1 52).1 10), .ref (ad 65), .ref (ad 66), .ref (ad 67), .ref (ad 68), .long ((t.1 52).2.1 0), .long ((t.1 52).2.1 1)]))]) (hI.1.I [52] _ rfl (by decide) (by decide) (List.forall_mem_cons.mpr ⟨wf_m, (fun _ h => nomatch h)⟩)) ?_)
  refine y_lvE (lv2 := [(0, .ref (ad 52)), (1, .int (nI k))]) rfl ?_
  refine y_aload_n d_Mm_faults_0 rfl 0 rfl ?_
  refine y_iconst d_Mm_faults_1 (v := 0) (by decide) ?_
  refine y_put fp_Mm_84 d_Mm_faults_2 (fun h => nomatch h) rfl rfl (q0 := 0) rfl (Nat.le_of_ble_eq_true rfl) (cs' := [((ad 52), .inr (12, [.int 0, .ref (ad 53), .int (nI ((t.1 52).2.2 0)), .ref (ad 54), .ref (ad 55), .ref (ad 56), .ref (ad 57), .ref (ad 58), .ref (ad 59), .ref (ad 60), .ref (ad 61), .int ((t.1 52).1 0), .int ((t.1 52).1 1), .int ((t.1 52).1 2), .int ((t.1 52).1 3), .int ((t.1 52).1 4), .int ((t.1 52).1 5), .ref (ad 62), .ref (ad 63), .ref (ad 64), .int ((t.1 52).1 6), .int ((t.1 52).1 7), .int ((t.1 52).1 8), .int ((t.1 52).1 9), .int ((t.1 52).1 10), .ref (ad 65), .ref (ad 66), .ref (ad 67), .ref (ad 68), .long ((t.1 52).2.1 0), .long ((t.1 52).2.1 1)]))]) rfl ?_
  refine y_aload_n d_Mm_faults_5 rfl 0 rfl ?_
  refine y_aload_n d_Mm_faults_6 rfl 0 rfl ?_
  refine y_iload_n d_Mm_faults_7 rfl 1 rfl ?_
  refine yw_callV (As := [.int (nI k)]) (rest := [.ref (ad 52)]) (q0 := 0) rfl rfl ln_Mm_301 w_im_Mm_noCasting w_se_Mm_noCasting ok_Mm_faults_Mm_noCasting d_Mm_faults_8 (fun wA hA => Q_noCasting0 (hI.gen (t2 := t) (is := [52]) (L2 := []) hA rfl ⟨kd_52.mpr ⟨_, rfl⟩, trivial⟩ (by decide) (by decide) (fun _ h => nomatch h) (fun _ h => nomatch h) (fun _ _ _ => rfl) (fun h => h) rfl) (nI k) ⟨k, hk, rfl⟩) rfl rfl (Nat.le_of_ble_eq_true rfl) (by omega) (by omega) (fun wA8 hA8 E wB8 hx => ?_) (fun wA8 hA8 v wB8 hx => ?_)
  · exact absurd hx.1 (by simp)
  · obtain ⟨e1, e2⟩ := hx
    cases e1
    refine yw_st (st2 := [.int 0, .ref (ad 52)]) rfl ?_
    subst e2
    refine y_go hA8 ?_
    refine y_iconst d_Mm_faults_11 (v := 1) (by decide) ?_
    refine y_callV (As := [.int 0, .int 1]) (rest := []) (csC := [((ad 52), .inr (12, [.int 0, .ref (ad 53), .int (nI ((t.1 52).2.2 0)), .ref (ad 54), .ref (ad 55), .ref (ad 56), .ref (ad 57), .ref (ad 58), .ref (ad 59), .ref (ad 60), .ref (ad 61), .int ((t.1 52).1 0), .int ((t.1 52).1 1), .int ((t.1 52).1 2), .int ((t.1 52).1 3), .int ((t.1 52).1 4), .int ((t.1 52).1 5), .ref (ad 62), .ref (ad 63), .ref (ad 64), .int ((t.1 52).1 6), .int ((t.1 52).1 7), .int ((t.1 52).1 8), .int ((t.1 52).1 9), .int ((t.1 52).1 10), .ref (ad 65), .ref (ad 66), .ref (ad 67), .ref (ad 68), .long ((t.1 52).2.1 0), .long ((t.1 52).2.1 1)]))]) (is := [0]) (q0 := 0) rfl rfl ln_Mm_103 w_im_Mm_fails w_se_Mm_fails ok_Mm_faults_Mm_fails d_Mm_faults_12 (C_Mm_fails0 g (ad 52) (ad 53) (ad 54) (ad 55) (ad 56) (ad 57) (ad 58) (ad 59) (ad 60) (ad 61) (ad 62) (ad 63) (ad 64) (ad 65) (ad 66) (ad 67) (ad 68) 0 (nI ((t.1 52).2.2 0)) ((t.1 52).1 0) ((t.1 52).1 1) ((t.1 52).1 2) ((t.1 52).1 3) ((t.1 52).1 4) ((t.1 52).1 5) ((t.1 52).1 6) ((t.1 52).1 7) ((t.1 52).1 8) ((t.1 52).1 9) ((t.1 52).1 10) ((t.1 52).2.1 0) ((t.1 52).2.1 1) 1) rfl rfl (Nat.le_of_ble_eq_true rfl) rfl (by decide) (by omega) (by omega) (fun E cs1 hx => ?_) (fun v cs1 hx => ?_)
    · exact absurd hx.1 (by simp)
    · obtain ⟨e1, rfl⟩ := hx
      cases e1
      refine ⟨rfl, ?_⟩
      refine y_st (st2 := [.int 0]) rfl ?_
      refine y_cs (cs2 := [((ad 52), .inr (12, [.int 0, .ref (ad 53), .int (nI ((t.1 52).2.2 0)), .ref (ad 54), .ref (ad 55), .ref (ad 56), .ref (ad 57), .ref (ad 58), .ref (ad 59), .ref (ad 60), .ref (ad 61), .int ((t.1 52).1 0), .int ((t.1 52).1 1), .int ((t.1 52).1 2), .int ((t.1 52).1 3), .int ((t.1 52).1 4), .int ((t.1 52).1 5), .ref (ad 62), .ref (ad 63), .ref (ad 64), .int ((t.1 52).1 6), .int ((t.1 52).1 7), .int ((t.1 52).1 8), .int ((t.1 52).1 9), .int ((t.1 52).1 10), .ref (ad 65), .ref (ad 66), .ref (ad 67), .ref (ad 68), .long ((t.1 52).2.1 0), .long ((t.1 52).2.1 1)]))]) rfl ?_
      refine y_if_eq (tgt := 22) d_Mm_faults_15 (by decide) (fun c_15 => ?_) (fun c_15 => ?_)
      · refine y_aload_n d_Mm_faults_22 rfl 0 rfl ?_
        refine y_get fs_Mm_78 d_Mm_faults_23 (q0 := 0) rfl rfl ?_
        refine y_iload_n d_Mm_faults_26 rfl 1 rfl ?_
        refine yw_callVL (As := [.int (nI k)]) (rest := []) (ci := 13) rfl (fun wA hA => ((hI.gen (t2 := t) (is := [52]) (L2 := []) hA rfl ⟨kd_52.mpr ⟨_, rfl⟩, trivial⟩ (by decide) (by decide) (fun _ h => nomatch h) (fun _ h => nomatch h) (fun _ _ _ => rfl) (fun h => h) rfl).2.1.1 5 (by decide)).ob) ln_Mm_211 w_im_AL_get w_se_AL_get ok_Mm_faults_AL_get d_Mm_faults_27 (fun wA hA => Q_get ((hI.gen (t2 := t) (is := [52]) (L2 := []) hA rfl ⟨kd_52.mpr ⟨_, rfl⟩, trivial⟩ (by decide) (by decide) (fun _ h => nomatch h) (fun _ h => nomatch h) (fun _ _ _ => rfl) (fun h => h) rfl).2.1.1 5 (by decide)) hk) rfl rfl (Nat.le_of_ble_eq_true rfl) (by omega) (by omega) (fun wA27 hA27 E wB27 hx => ?_) (fun wA27 hA27 v wB27 hx => ?_)
        · exact absurd hx.1 (by simp)
        · obtain ⟨e1, e2⟩ := hx
          cases e1
          refine yw_st (st2 := [.ref (u.2.2 5 k)]) rfl ?_
          subst e2
          refine y_go hA27 ?_
          refine y_end (fun wC1 hC1 => ?_)
          have hI9 := (hI.gen (t2 := t) (is := [52]) (L2 := []) hC1 rfl ⟨kd_52.mpr ⟨_, rfl⟩, trivial⟩ (by decide) (by decide) (fun _ h => nomatch h) (fun _ h => nomatch h) (fun _ _ _ => rfl) (fun h => h) rfl)
          have hI := hI9
          obtain ⟨nf_c, hw_c, h0_c⟩ := hI.2.1.2.1 5 (by decide) k hk
          refine y_base (cs := [((ad 52), .inr (12, [.int 0, .ref (ad 53), .int (nI ((t.1 52).2.2 0)), .ref (ad 54), .ref (ad 55), .ref (ad 56), .ref (ad 57), .ref (ad 58), .ref (ad 59), .ref (ad 60), .ref (ad 61), .int ((t.1 52).1 0), .int ((t.1 52).1 1), .int ((t.1 52).1 2), .int ((t.1 52).1 3), .int ((t.1 52).1 4), .int ((t.1 52).1 5), .ref (ad 62), .ref (ad 63), .ref (ad 64), .int ((t.1 52).1 6), .int ((t.1 52).1 7), .int ((t.1 52).1 8), .int ((t.1 52).1 9), .int ((t.1 52).1 10), .ref (ad 65), .ref (ad 66), .ref (ad 67), .ref (ad 68), .long ((t.1 52).2.1 0), .long ((t.1 52).2.1 1)])), ((u.2.2 5 k), .inl (0, 6, .inl ((t.2 5 k).2.1)))]) (z_I.kd (List.forall_mem_cons.mpr ⟨hC1.at (q0 := 0) rfl, (List.forall_mem_cons.mpr ⟨hw_c, (fun _ h => nomatch h)⟩)⟩) (by simp [z_kd])) ?_
          refine y_castA (t := 0) (by decide) lk_Mm_215 d_Mm_faults_30 (q0 := 1) rfl ?_
          refine y_iconst d_Mm_faults_33 (v := 2) (by decide) ?_
          refine y_iald d_Mm_faults_34 (q0 := 1) rfl (fun q => q.elim (by decide) (by decide)) (v := ((t.2 5 k).2.1) 2) rfl ?_
          refine y_iret d_Mm_faults_35 rfl rfl ?_
          exact fun w1 h1 => ⟨⟨_, rfl⟩, (hI.gen (t2 := t) (is := [52]) (L2 := [(u.2.2 5 k)]) h1 rfl ⟨kd_52.mpr ⟨_, rfl⟩, trivial⟩ (by decide) (by decide) (List.forall_mem_cons.mpr ⟨nf_c, (fun _ h => nomatch h)⟩) (List.forall_mem_cons.mpr ⟨⟨_, hw_c, h1.at (q0 := 1) rfl⟩, (fun _ h => nomatch h)⟩) (fun _ _ _ => rfl) (fun h => h) rfl)⟩
      · exact absurd c_15 (by decide)
theorem d_Mm_shrunkIn_22 : decode prog_14_method_82_code 22 = .ok (.aload_n 0, 1) := zo_42 (zd_b zq_prog_14_method_82_code_0 22 rfl rfl rfl)
theorem d_Mm_shrunkIn_23 : decode prog_14_method_82_code 23 = .ok (.getfield 78, 3) := zo_180 (d := 0) (e := 78) (zd_b zq_prog_14_method_82_code_0 23 rfl rfl rfl) (zd_b zq_prog_14_method_82_code_0 24 rfl rfl rfl) (zd_b zq_prog_14_method_82_code_0 25 rfl rfl rfl)
theorem d_Mm_shrunkIn_26 : decode prog_14_method_82_code 26 = .ok (.iload_n 1, 1) := zo_27 (zd_b zq_prog_14_method_82_code_0 26 rfl rfl rfl)
theorem d_Mm_shrunkIn_27 : decode prog_14_method_82_code 27 = .ok (.invokevirtual 211, 3) := zo_182 (d := 0) (e := 211) (zd_b zq_prog_14_method_82_code_0 27 rfl rfl rfl) (zd_b zq_prog_14_method_82_code_0 28 rfl rfl rfl) (zd_b zq_prog_14_method_82_code_0 29 rfl rfl rfl)
theorem ok_Mm_shrunkIn_AL_get : z_ok M_Mm_shrunkIn M_AL_get 1 := ⟨z_mj2 (i := 180) rfl (by decide +kernel), rfl, ⟨by decide +kernel, by decide +kernel, by decide +kernel⟩, ⟨by decide, by decide⟩, z_mj1 (i := 13) rfl (by decide +kernel), rfl⟩
theorem d_Mm_shrunkIn_30 : decode prog_14_method_82_code 30 = .ok (.checkcast 215, 3) := zo_192 (d := 0) (e := 215) (zd_b zq_prog_14_method_82_code_0 30 rfl rfl rfl) (zd_b zq_prog_14_method_82_code_0 31 rfl rfl rfl) (zd_b zq_prog_14_method_82_code_1 0 rfl rfl rfl)
theorem d_Mm_shrunkIn_33 : decode prog_14_method_82_code 33 = .ok (.iconst 3, 1) := zo_6 (zd_b zq_prog_14_method_82_code_1 1 rfl rfl rfl)
theorem d_Mm_shrunkIn_34 : decode prog_14_method_82_code 34 = .ok (.iaload, 1) := zo_46 (zd_b zq_prog_14_method_82_code_1 2 rfl rfl rfl)
set_option maxHeartbeats 4000000 in
set_option maxRecDepth 100000 in
theorem Q_Mm_shrunkInN {g : zG} {ad : Nat → Nat} {t : zTT} {u : zNN} {w : zW} (hI : IV g ad t u w) (k : Nat) (hk : k < u.1 5) : zMB g M_Mm_shrunkIn [.ref (ad 52), .int (nI k)] w (fun o w1 => (∃ v : Int32, o = .inl (some (.int v))) ∧ IV g ad t u w1) 0 0 := by
  obtain ⟨e_m, wf_m, k_m⟩ := hI.1.2 52 (by decide)
  obtain ⟨v_m_th, rfl⟩ := kd_52.mp k_m
  refine y_of (by decide) rfl (Nat.le_of_ble_eq_true rfl) (y_base (cs := [((ad 52), .inr (12, [.int v_m_th, .ref (ad 53), .int (nI ((t.1 52).2.2 0)), .ref (ad 54), .ref (ad 55), .ref (ad 56), .ref (ad 57), .ref (ad 58), .ref (ad 59), .ref (ad 60), .ref (ad 61), .int ((t.1 52).1 0), .int ((t.1 52).1 1), .int ((t.1 52).1 2), .int ((t.1 52).1 3), .int ((t.1 52).1 4), .int ((t.1 52).1 5), .ref (ad 62), .ref (ad 63), .ref (ad 64), .int ((t.1 52).1 6), .int ((t.1 52).1 7), .int ((t.1 52).1 8), .int ((t.1 52).1 9), .int ((t.1 52).1 10), .ref (ad 65), .ref (ad 66), .ref (ad 67), .ref (ad 68), .long ((t.1 52).2.1 0), .long ((t.1 52).2.1 1)]))]) (hI.1.I [52] _ rfl (by decide) (by decide) (List.forall_mem_cons.mpr ⟨wf_m, (fun _ h => nomatch h)⟩)) ?_)
  refine y_lvE (lv2 := [(0, .ref (ad 52)), (1, .int (nI k))]) rfl ?_
  refine y_aload_n d_Mm_shrunkIn_0 rfl 0 rfl ?_
  refine y_iconst d_Mm_shrunkIn_1 (v := 0) (by decide) ?_
  refine y_put fp_Mm_84 d_Mm_shrunkIn_2 (fun h => nomatch h) rfl rfl (q0 := 0) rfl (Nat.le_of_ble_eq_true rfl) (cs' := [((ad 52), .inr (12, [.int 0, .ref (ad 53), .int (nI ((t.1 52).2.2 0)), .ref (ad 54), .ref (ad 55), .ref (ad 56), .ref (ad 57), .ref (ad 58), .ref (ad 59), .ref (ad 60), .ref (ad 61), .int ((t.1 52).1 0), .int ((t.1 52).1 1), .int ((t.1 52).1 2), .int ((t.1 52).1 3), .int ((t.1 52).1 4), .int ((t.1 52).1 5), .ref (ad 62), .ref (ad 63), .ref (ad 64), .int ((t.1 52).1 6), .int ((t.1 52).1 7), .int ((t.1 52).1 8), .int ((t.1 52).1 9), .int ((t.1 52).1 10), .ref (ad 65), .ref (ad 66), .ref (ad 67), .ref (ad 68), .long ((t.1 52).2.1 0), .long ((t.1 52).2.1 1)]))]) rfl ?_
  refine y_aload_n d_Mm_shrunkIn_5 rfl 0 rfl ?_
  refine y_aload_n d_Mm_shrunkIn_6 rfl 0 rfl ?_
  refine y_iload_n d_Mm_shrunkIn_7 rfl 1 rfl ?_
  refine yw_callV (As := [.int (nI k)]) (rest := [.ref (ad 52)]) (q0 := 0) rfl rfl ln_Mm_301 w_im_Mm_noCasting w_se_Mm_noCasting ok_Mm_shrunkIn_Mm_noCasting d_Mm_shrunkIn_8 (fun wA hA => Q_noCasting0 (hI.gen (t2 := t) (is := [52]) (L2 := []) hA rfl ⟨kd_52.mpr ⟨_, rfl⟩, trivial⟩ (by decide) (by decide) (fun _ h => nomatch h) (fun _ h => nomatch h) (fun _ _ _ => rfl) (fun h => h) rfl) (nI k) ⟨k, hk, rfl⟩) rfl rfl (Nat.le_of_ble_eq_true rfl) (by omega) (by omega) (fun wA8 hA8 E wB8 hx => ?_) (fun wA8 hA8 v wB8 hx => ?_)
  · exact absurd hx.1 (by simp)
  · obtain ⟨e1, e2⟩ := hx
    cases e1
    refine yw_st (st2 := [.int 0, .ref (ad 52)]) rfl ?_
    subst e2
    refine y_go hA8 ?_
    refine y_iconst d_Mm_shrunkIn_11 (v := 1) (by decide) ?_
    refine y_callV (As := [.int 0, .int 1]) (rest := []) (csC := [((ad 52), .inr (12, [.int 0, .ref (ad 53), .int (nI ((t.1 52).2.2 0)), .ref (ad 54), .ref (ad 55), .ref (ad 56), .ref (ad 57), .ref (ad 58), .ref (ad 59), .ref (ad 60), .ref (ad 61), .int ((t.1 52).1 0), .int ((t.1 52).1 1), .int ((t.1 52).1 2), .int ((t.1 52).1 3), .int ((t.1 52).1 4), .int ((t.1 52).1 5), .ref (ad 62), .ref (ad 63), .ref (ad 64), .int ((t.1 52).1 6), .int ((t.1 52).1 7), .int ((t.1 52).1 8), .int ((t.1 52).1 9), .int ((t.1 52).1 10), .ref (ad 65), .ref (ad 66), .ref (ad 67), .ref (ad 68), .long ((t.1 52).2.1 0), .long ((t.1 52).2.1 1)]))]) (is := [0]) (q0 := 0) rfl rfl ln_Mm_103 w_im_Mm_fails w_se_Mm_fails ok_Mm_shrunkIn_Mm_fails d_Mm_shrunkIn_12 (C_Mm_fails0 g (ad 52) (ad 53) (ad 54) (ad 55) (ad 56) (ad 57) (ad 58) (ad 59) (ad 60) (ad 61) (ad 62) (ad 63) (ad 64) (ad 65) (ad 66) (ad 67) (ad 68) 0 (nI ((t.1 52).2.2 0)) ((t.1 52).1 0) ((t.1 52).1 1) ((t.1 52).1 2) ((t.1 52).1 3) ((t.1 52).1 4) ((t.1 52).1 5) ((t.1 52).1 6) ((t.1 52).1 7) ((t.1 52).1 8) ((t.1 52).1 9) ((t.1 52).1 10) ((t.1 52).2.1 0) ((t.1 52).2.1 1) 1) rfl rfl (Nat.le_of_ble_eq_true rfl) rfl (by decide) (by omega) (by omega) (fun E cs1 hx => ?_) (fun v cs1 hx => ?_)
    · exact absurd hx.1 (by simp)
    · obtain ⟨e1, rfl⟩ := hx
      cases e1
      refine ⟨rfl, ?_⟩
      refine y_st (st2 := [.int 0]) rfl ?_
      refine y_cs (cs2 := [((ad 52), .inr (12, [.int 0, .ref (ad 53), .int (nI ((t.1 52).2.2 0)), .ref (ad 54), .ref (ad 55), .ref (ad 56), .ref (ad 57), .ref (ad 58), .ref (ad 59), .ref (ad 60), .ref (ad 61), .int ((t.1 52).1 0), .int ((t.1 52).1 1), .int ((t.1 52).1 2), .int ((t.1 52).1 3), .int ((t.1 52).1 4), .int ((t.1 52).1 5), .ref (ad 62), .ref (ad 63), .ref (ad 64), .int ((t.1 52).1 6), .int ((t.1 52).1 7), .int ((t.1 52).1 8), .int ((t.1 52).1 9), .int ((t.1 52).1 10), .ref (ad 65), .ref (ad 66), .ref (ad 67), .ref (ad 68), .long ((t.1 52).2.1 0), .long ((t.1 52).2.1 1)]))]) rfl ?_
      refine y_if_eq (tgt := 22) d_Mm_shrunkIn_15 (by decide) (fun c_15 => ?_) (fun c_15 => ?_)
      · refine y_aload_n d_Mm_shrunkIn_22 rfl 0 rfl ?_
        refine y_get fs_Mm_78 d_Mm_shrunkIn_23 (q0 := 0) rfl rfl ?_
        refine y_iload_n d_Mm_shrunkIn_26 rfl 1 rfl ?_
        refine yw_callVL (As := [.int (nI k)]) (rest := []) (ci := 13) rfl (fun wA hA => ((hI.gen (t2 := t) (is := [52]) (L2 := []) hA rfl ⟨kd_52.mpr ⟨_, rfl⟩, trivial⟩ (by decide) (by decide) (fun _ h => nomatch h) (fun _ h => nomatch h) (fun _ _ _ => rfl) (fun h => h) rfl).2.1.1 5 (by decide)).ob) ln_Mm_211 w_im_AL_get w_se_AL_get ok_Mm_shrunkIn_AL_get d_Mm_shrunkIn_27 (fun wA hA => Q_get ((hI.gen (t2 := t) (is := [52]) (L2 := []) hA rfl ⟨kd_52.mpr ⟨_, rfl⟩, trivial⟩ (by decide) (by decide) (fun _ h => nomatch h) (fun _ h => nomatch h) (fun _ _ _ => rfl) (fun h => h) rfl).2.1.1 5 (by decide)) hk) rfl rfl (Nat.le_of_ble_eq_true rfl) (by omega) (by omega) (fun wA27 hA27 E wB27 hx => ?_) (fun wA27 hA27 v wB27 hx => ?_)
        · exact absurd hx.1 (by simp)
        · obtain ⟨e1, e2⟩ := hx
          cases e1
          refine yw_st (st2 := [.ref (u.2.2 5 k)]) rfl ?_
          subst e2
          refine y_go hA27 ?_
          refine y_end (fun wC1 hC1 => ?_)
          have hI9 := (hI.gen (t2 := t) (is := [52]) (L2 := []) hC1 rfl ⟨kd_52.mpr ⟨_, rfl⟩, trivial⟩ (by decide) (by decide) (fun _ h => nomatch h) (fun _ h => nomatch h) (fun _ _ _ => rfl) (fun h => h) rfl)
          have hI := hI9
          obtain ⟨nf_c, hw_c, h0_c⟩ := hI.2.1.2.1 5 (by decide) k hk
          refine y_base (cs := [((ad 52), .inr (12, [.int 0, .ref (ad 53), .int (nI ((t.1 52).2.2 0)), .ref (ad 54), .ref (ad 55), .ref (ad 56), .ref (ad 57), .ref (ad 58), .ref (ad 59), .ref (ad 60), .ref (ad 61), .int ((t.1 52).1 0), .int ((t.1 52).1 1), .int ((t.1 52).1 2), .int ((t.1 52).1 3), .int ((t.1 52).1 4), .int ((t.1 52).1 5), .ref (ad 62), .ref (ad 63), .ref (ad 64), .int ((t.1 52).1 6), .int ((t.1 52).1 7), .int ((t.1 52).1 8), .int ((t.1 52).1 9), .int ((t.1 52).1 10), .ref (ad 65), .ref (ad 66), .ref (ad 67), .ref (ad 68), .long ((t.1 52).2.1 0), .long ((t.1 52).2.1 1)])), ((u.2.2 5 k), .inl (0, 6, .inl ((t.2 5 k).2.1)))]) (z_I.kd (List.forall_mem_cons.mpr ⟨hC1.at (q0 := 0) rfl, (List.forall_mem_cons.mpr ⟨hw_c, (fun _ h => nomatch h)⟩)⟩) (by simp [z_kd])) ?_
          refine y_castA (t := 0) (by decide) lk_Mm_215 d_Mm_shrunkIn_30 (q0 := 1) rfl ?_
          refine y_iconst d_Mm_shrunkIn_33 (v := 3) (by decide) ?_
          refine y_iald d_Mm_shrunkIn_34 (q0 := 1) rfl (fun q => q.elim (by decide) (by decide)) (v := ((t.2 5 k).2.1) 3) rfl ?_
          refine y_iret d_Mm_shrunkIn_35 rfl rfl ?_
          exact fun w1 h1 => ⟨⟨_, rfl⟩, (hI.gen (t2 := t) (is := [52]) (L2 := [(u.2.2 5 k)]) h1 rfl ⟨kd_52.mpr ⟨_, rfl⟩, trivial⟩ (by decide) (by decide) (List.forall_mem_cons.mpr ⟨nf_c, (fun _ h => nomatch h)⟩) (List.forall_mem_cons.mpr ⟨⟨_, hw_c, h1.at (q0 := 1) rfl⟩, (fun _ h => nomatch h)⟩) (fun _ _ _ => rfl) (fun h => h) rfl)⟩
      · exact absurd c_15 (by decide)
abbrev M_Mm_hasElement : zM := (⟨"IronpourModel", "hasElement", "(II)I"⟩, prog_14_method_83_code, 3, (Option.some FieldType.int), 4, 84, [])
theorem d_Mm_hasElement_0 : decode prog_14_method_83_code 0 = .ok (.aload_n 0, 1) := zo_42 (zd_b zq_prog_14_method_83_code_0 0 rfl rfl rfl)
theorem d_Mm_hasElement_1 : decode prog_14_method_83_code 1 = .ok (.getfield 81, 3) := zo_180 (d := 0) (e := 81) (zd_b zq_prog_14_method_83_code_0 1 rfl rfl rfl) (zd_b zq_prog_14_method_83_code_0 2 rfl rfl rfl) (zd_b zq_prog_14_method_83_code_0 3 rfl rfl rfl)
theorem fs_Mm_81 : z_fs "IronpourModel" 81 12 28 := ⟨R_Mm, "IronpourModel", F_Mm, 31, rfl, u_Mm, by decide, Or.inl ⟨z_mj7 (i := 111) rfl (by decide +kernel), Or.inl rfl⟩⟩
theorem d_Mm_hasElement_4 : decode prog_14_method_83_code 4 = .ok (.iload_n 1, 1) := zo_27 (zd_b zq_prog_14_method_83_code_0 4 rfl rfl rfl)
theorem d_Mm_hasElement_5 : decode prog_14_method_83_code 5 = .ok (.invokevirtual 211, 3) := zo_182 (d := 0) (e := 211) (zd_b zq_prog_14_method_83_code_0 5 rfl rfl rfl) (zd_b zq_prog_14_method_83_code_0 6 rfl rfl rfl) (zd_b zq_prog_14_method_83_code_0 7 rfl rfl rfl)
theorem ok_Mm_hasElement_AL_get : z_ok M_Mm_hasElement M_AL_get 1 := ⟨z_mj2 (i := 180) rfl (by decide +kernel), rfl, ⟨by decide +kernel, by decide +kernel, by decide +kernel⟩, ⟨by decide, by decide⟩, z_mj1 (i := 13) rfl (by decide +kernel), rfl⟩
theorem d_Mm_hasElement_8 : decode prog_14_method_83_code 8 = .ok (.checkcast 304, 3) := zo_192 (d := 1) (e := 48) (zd_b zq_prog_14_method_83_code_0 8 rfl rfl rfl) (zd_b zq_prog_14_method_83_code_0 9 rfl rfl rfl) (zd_b zq_prog_14_method_83_code_0 10 rfl rfl rfl)
theorem lk_Mm_304 : Cond.classLink "IronpourModel" 304 (z_an 3) ∈ z_gw := z_mj9 (i := 34) rfl (by decide +kernel)
theorem d_Mm_hasElement_11 : decode prog_14_method_83_code 11 = .ok (.iload_n 2, 1) := zo_28 (zd_b zq_prog_14_method_83_code_0 11 rfl rfl rfl)
theorem d_Mm_hasElement_12 : decode prog_14_method_83_code 12 = .ok (.laload, 1) := zo_47 (zd_b zq_prog_14_method_83_code_0 12 rfl rfl rfl)
theorem d_Mm_hasElement_13 : decode prog_14_method_83_code 13 = .ok (.ldc2_w 244, 3) := zo_20 (d := 0) (e := 244) (zd_b zq_prog_14_method_83_code_0 13 rfl rfl rfl) (zd_b zq_prog_14_method_83_code_0 14 rfl rfl rfl) (zd_b zq_prog_14_method_83_code_0 15 rfl rfl rfl)
theorem d_Mm_hasElement_16 : decode prog_14_method_83_code 16 = .ok (.lmul, 1) := zo_105 (zd_b zq_prog_14_method_83_code_0 16 rfl rfl rfl)
theorem d_Mm_hasElement_17 : decode prog_14_method_83_code 17 = .ok (.aload_n 0, 1) := zo_42 (zd_b zq_prog_14_method_83_code_0 17 rfl rfl rfl)
theorem d_Mm_hasElement_18 : decode prog_14_method_83_code 18 = .ok (.getfield 78, 3) := zo_180 (d := 0) (e := 78) (zd_b zq_prog_14_method_83_code_0 18 rfl rfl rfl) (zd_b zq_prog_14_method_83_code_0 19 rfl rfl rfl) (zd_b zq_prog_14_method_83_code_0 20 rfl rfl rfl)
theorem d_Mm_hasElement_21 : decode prog_14_method_83_code 21 = .ok (.iload_n 1, 1) := zo_27 (zd_b zq_prog_14_method_83_code_0 21 rfl rfl rfl)
theorem d_Mm_hasElement_22 : decode prog_14_method_83_code 22 = .ok (.invokevirtual 211, 3) := zo_182 (d := 0) (e := 211) (zd_b zq_prog_14_method_83_code_0 22 rfl rfl rfl) (zd_b zq_prog_14_method_83_code_0 23 rfl rfl rfl) (zd_b zq_prog_14_method_83_code_0 24 rfl rfl rfl)
theorem d_Mm_hasElement_25 : decode prog_14_method_83_code 25 = .ok (.checkcast 215, 3) := zo_192 (d := 0) (e := 215) (zd_b zq_prog_14_method_83_code_0 25 rfl rfl rfl) (zd_b zq_prog_14_method_83_code_0 26 rfl rfl rfl) (zd_b zq_prog_14_method_83_code_0 27 rfl rfl rfl)
theorem d_Mm_hasElement_28 : decode prog_14_method_83_code 28 = .ok (.iconst 0, 1) := zo_3 (zd_b zq_prog_14_method_83_code_0 28 rfl rfl rfl)
theorem d_Mm_hasElement_29 : decode prog_14_method_83_code 29 = .ok (.iaload, 1) := zo_46 (zd_b zq_prog_14_method_83_code_0 29 rfl rfl rfl)
theorem d_Mm_hasElement_30 : decode prog_14_method_83_code 30 = .ok (.i2l, 1) := zo_133 (zd_b zq_prog_14_method_83_code_0 30 rfl rfl rfl)
theorem d_Mm_hasElement_31 : decode prog_14_method_83_code 31 = .ok (.ldiv, 1) := zo_109 (zd_b zq_prog_14_method_83_code_0 31 rfl rfl rfl)
theorem d_Mm_hasElement_32 : decode prog_14_method_83_code 32 = .ok (.l2i, 1) := zo_136 (zd_b zq_prog_14_method_83_code_1 0 rfl rfl rfl)
theorem d_Mm_hasElement_33 : decode prog_14_method_83_code 33 = .ok (.ireturn, 1) := zo_172 (zd_b zq_prog_14_method_83_code_1 1 rfl rfl rfl)
set_option maxHeartbeats 4000000 in
set_option maxRecDepth 100000 in
theorem Q_hasElement {g : zG} {ad : Nat → Nat} {t : zTT} {u : zNN} {w : zW} (hI : IV g ad t u w) (k e : Nat) (hk : k < u.1 5) (he : e < 4) : zMB g M_Mm_hasElement [.ref (ad 52), .int (nI k), .int (nI e)] w (fun o w1 => (∃ v : Int32, o = .inl (some (.int v))) ∧ w1 = w) 0 0 := by
  obtain ⟨e_m, wf_m, k_m⟩ := hI.1.2 52 (by decide)
  obtain ⟨v_m_th, rfl⟩ := kd_52.mp k_m
  have hJ := hI.1.I [52] [((ad 52), .inr (12, [.int v_m_th, .ref (ad 53), .int (nI ((t.1 52).2.2 0)), .ref (ad 54), .ref (ad 55), .ref (ad 56), .ref (ad 57), .ref (ad 58), .ref (ad 59), .ref (ad 60), .ref (ad 61), .int ((t.1 52).1 0), .int ((t.1 52).1 1), .int ((t.1 52).1 2), .int ((t.1 52).1 3), .int ((t.1 52).1 4), .int ((t.1 52).1 5), .ref (ad 62), .ref (ad 63), .ref (ad 64), .int ((t.1 52).1 6), .int ((t.1 52).1 7), .int ((t.1 52).1 8), .int ((t.1 52).1 9), .int ((t.1 52).1 10), .ref (ad 65), .ref (ad 66), .ref (ad 67), .ref (ad 68), .long ((t.1 52).2.1 0), .long ((t.1 52).2.1 1)]))] rfl (by decide) (by decide) (List.forall_mem_cons.mpr ⟨wf_m, (fun _ h => nomatch h)⟩)
  refine y_of (by decide) rfl (Nat.le_of_ble_eq_true rfl) (y_base (cs := [((ad 52), .inr (12, [.int v_m_th, .ref (ad 53), .int (nI ((t.1 52).2.2 0)), .ref (ad 54), .ref (ad 55), .ref (ad 56), .ref (ad 57), .ref (ad 58), .ref (ad 59), .ref (ad 60), .ref (ad 61), .int ((t.1 52).1 0), .int ((t.1 52).1 1), .int ((t.1 52).1 2), .int ((t.1 52).1 3), .int ((t.1 52).1 4), .int ((t.1 52).1 5), .ref (ad 62), .ref (ad 63), .ref (ad 64), .int ((t.1 52).1 6), .int ((t.1 52).1 7), .int ((t.1 52).1 8), .int ((t.1 52).1 9), .int ((t.1 52).1 10), .ref (ad 65), .ref (ad 66), .ref (ad 67), .ref (ad 68), .long ((t.1 52).2.1 0), .long ((t.1 52).2.1 1)]))]) hJ ?_)
  refine y_lvE (lv2 := [(0, .ref (ad 52)), (1, .int (nI k)), (2, .int (nI e))]) rfl ?_
  refine y_aload_n d_Mm_hasElement_0 rfl 0 rfl ?_
  refine y_get fs_Mm_81 d_Mm_hasElement_1 (q0 := 0) rfl rfl ?_
  refine y_iload_n d_Mm_hasElement_4 rfl 1 rfl ?_
  refine yw_callVL (As := [.int (nI k)]) (rest := []) (ci := 13) rfl (fun wA hA => ((hI.gen (t2 := t) (is := [52]) (L2 := []) hA rfl ⟨kd_52.mpr ⟨_, rfl⟩, trivial⟩ (by decide) (by decide) (fun _ h => nomatch h) (fun _ h => nomatch h) (fun _ _ _ => rfl) (fun h => h) rfl).2.1.1 6 (by decide)).ob) ln_Mm_211 w_im_AL_get w_se_AL_get ok_Mm_hasElement_AL_get d_Mm_hasElement_5 (fun wA hA => Q_get ((hI.gen (t2 := t) (is := [52]) (L2 := []) hA rfl ⟨kd_52.mpr ⟨_, rfl⟩, trivial⟩ (by decide) (by decide) (fun _ h => nomatch h) (fun _ h => nomatch h) (fun _ _ _ => rfl) (fun h => h) rfl).2.1.1 6 (by decide)) (by rw [hI.c56]; exact hk)) rfl rfl (Nat.le_of_ble_eq_true rfl) (by omega) (by omega) (fun wA5 hA5 E wB5 hx => ?_) (fun wA5 hA5 v wB5 hx => ?_)
  · exact absurd hx.1 (by simp)
  · obtain ⟨e1, e2⟩ := hx
    cases e1
    refine yw_st (st2 := [.ref (u.2.2 6 k)]) rfl ?_
    subst e2
    refine y_go hA5 ?_
    refine y_end (fun wC1 hC1 => ?_)
    obtain rfl := z_I.same hJ hC1
    obtain ⟨nf_g, hw_g⟩ := hI.2.1.2.1 6 (by decide) k (by rw [hI.c56]; exact hk)
    have hJ := z_I.kd (cs := [((ad 52), .inr (12, [.int v_m_th, .ref (ad 53), .int (nI ((t.1 52).2.2 0)), .ref (ad 54), .ref (ad 55), .ref (ad 56), .ref (ad 57), .ref (ad 58), .ref (ad 59), .ref (ad 60), .ref (ad 61), .int ((t.1 52).1 0), .int ((t.1 52).1 1), .int ((t.1 52).1 2), .int ((t.1 52).1 3), .int ((t.1 52).1 4), .int ((t.1 52).1 5), .ref (ad 62), .ref (ad 63), .ref (ad 64), .int ((t.1 52).1 6), .int ((t.1 52).1 7), .int ((t.1 52).1 8), .int ((t.1 52).1 9), .int ((t.1 52).1 10), .ref (ad 65), .ref (ad 66), .ref (ad 67), .ref (ad 68), .long ((t.1 52).2.1 0), .long ((t.1 52).2.1 1)])), ((u.2.2 6 k), .inl (3, 4, .inr (.inl ((t.2 6 k).2.2.1))))]) (List.forall_mem_cons.mpr ⟨wf_m, (List.forall_mem_cons.mpr ⟨hw_g, (fun _ h => nomatch h)⟩)⟩) (by simp [z_kd])
    refine y_base hJ ?_
    refine y_castA (t := 3) (by decide) lk_Mm_304 d_Mm_hasElement_8 (q0 := 1) rfl ?_
    refine y_iload_n d_Mm_hasElement_11 rfl 2 rfl ?_
    refine y_lald d_Mm_hasElement_12 (q0 := 1) rfl (vp_in_nI (by omega) (by omega)) (v := ((t.2 6 k).2.2.1) e) (by rw [nI_clamp (by omega)]) ?_
    refine y_ldc2 ct_Mm_244 d_Mm_hasElement_13 ?_
    refine y_lmul d_Mm_hasElement_16 (v := (((t.2 6 k).2.2.1) e) * 10) rfl ?_
    refine y_aload_n d_Mm_hasElement_17 rfl 0 rfl ?_
    refine y_get fs_Mm_78 d_Mm_hasElement_18 (q0 := 0) rfl rfl ?_
    refine y_iload_n d_Mm_hasElement_21 rfl 1 rfl ?_
    refine yw_callVL (As := [.int (nI k)]) (rest := [.long ((((t.2 6 k).2.2.1) e) * 10)]) (ci := 13) rfl (fun wA hA => ((hI.gen (t2 := t) (is := [52]) (L2 := [(u.2.2 6 k)]) hA rfl ⟨kd_52.mpr ⟨_, rfl⟩, trivial⟩ (by decide) (by decide) (List.forall_mem_cons.mpr ⟨nf_g, (fun _ h => nomatch h)⟩) (List.forall_mem_cons.mpr ⟨⟨_, hw_g, hA.at (q0 := 1) rfl⟩, (fun _ h => nomatch h)⟩) (fun _ _ _ => rfl) (fun h => h) rfl).2.1.1 5 (by decide)).ob) ln_Mm_211 w_im_AL_get w_se_AL_get ok_Mm_hasElement_AL_get d_Mm_hasElement_22 (fun wA hA => Q_get ((hI.gen (t2 := t) (is := [52]) (L2 := [(u.2.2 6 k)]) hA rfl ⟨kd_52.mpr ⟨_, rfl⟩, trivial⟩ (by decide) (by decide) (List.forall_mem_cons.mpr ⟨nf_g, (fun _ h => nomatch h)⟩) (List.forall_mem_cons.mpr ⟨⟨_, hw_g, hA.at (q0 := 1) rfl⟩, (fun _ h => nomatch h)⟩) (fun _ _ _ => rfl) (fun h => h) rfl).2.1.1 5 (by decide)) hk) rfl rfl (Nat.le_of_ble_eq_true rfl) (by omega) (by omega) (fun wA22 hA22 E wB22 hx => ?_) (fun wA22 hA22 v wB22 hx => ?_)
    · exact absurd hx.1 (by simp)
    · obtain ⟨e1, e2⟩ := hx
      cases e1
      refine yw_st (st2 := [.ref (u.2.2 5 k), .long ((((t.2 6 k).2.2.1) e) * 10)]) rfl ?_
      subst e2
      refine y_go hA22 ?_
      refine y_end (fun wC2 hC2 => ?_)
      obtain rfl := z_I.same hJ hC2
      obtain ⟨nf_c, hw_c, h0_c⟩ := hI.2.1.2.1 5 (by decide) k hk
      have hJ := z_I.kd (cs := [((ad 52), .inr (12, [.int v_m_th, .ref (ad 53), .int (nI ((t.1 52).2.2 0)), .ref (ad 54), .ref (ad 55), .ref (ad 56), .ref (ad 57), .ref (ad 58), .ref (ad 59), .ref (ad 60), .ref (ad 61), .int ((t.1 52).1 0), .int ((t.1 52).1 1), .int ((t.1 52).1 2), .int ((t.1 52).1 3), .int ((t.1 52).1 4), .int ((t.1 52).1 5), .ref (ad 62), .ref (ad 63), .ref (ad 64), .int ((t.1 52).1 6), .int ((t.1 52).1 7), .int ((t.1 52).1 8), .int ((t.1 52).1 9), .int ((t.1 52).1 10), .ref (ad 65), .ref (ad 66), .ref (ad 67), .ref (ad 68), .long ((t.1 52).2.1 0), .long ((t.1 52).2.1 1)])), ((u.2.2 6 k), .inl (3, 4, .inr (.inl ((t.2 6 k).2.2.1)))), ((u.2.2 5 k), .inl (0, 6, .inl ((t.2 5 k).2.1)))]) (List.forall_mem_cons.mpr ⟨wf_m, (List.forall_mem_cons.mpr ⟨hw_g, (List.forall_mem_cons.mpr ⟨hw_c, (fun _ h => nomatch h)⟩)⟩)⟩) (by simp [z_kd])
      refine y_base hJ ?_
      refine y_castA (t := 0) (by decide) lk_Mm_215 d_Mm_hasElement_25 (q0 := 2) rfl ?_
      refine y_iconst d_Mm_hasElement_28 (v := 0) (by decide) ?_
      refine y_iald d_Mm_hasElement_29 (q0 := 2) rfl (fun q => q.elim (by decide) (by decide)) (v := ((t.2 5 k).2.1) 0) rfl ?_
      refine y_i2l d_Mm_hasElement_30 (v := (((t.2 5 k).2.1) 0).toInt64) rfl ?_
      refine y_ldiv d_Mm_hasElement_31 (v := ((((t.2 6 k).2.2.1) e) * 10) / ((((t.2 5 k).2.1) 0).toInt64)) (z_l0 h0_c) rfl ?_
      refine y_l2i d_Mm_hasElement_32 (v := (((((t.2 6 k).2.2.1) e) * 10) / ((((t.2 5 k).2.1) 0).toInt64)).toInt32) rfl ?_
      refine y_iret d_Mm_hasElement_33 rfl rfl ?_
      exact fun w1 h1 => ⟨⟨_, rfl⟩, z_I.same hJ h1⟩
end
section
abbrev M_Mm_barOf : zM := (⟨"IronpourModel", "barOf", "(I)I"⟩, prog_14_method_85_code, 5, (Option.some FieldType.int), 5, 106, [])
theorem d_Mm_barOf_0 : decode prog_14_method_85_code 0 = .ok (.aload_n 0, 1) := zo_42 (zd_b zq_prog_14_method_85_code_0 0 rfl rfl rfl)
theorem d_Mm_barOf_1 : decode prog_14_method_85_code 1 = .ok (.getfield 78, 3) := zo_180 (d := 0) (e := 78) (zd_b zq_prog_14_method_85_code_0 1 rfl rfl rfl) (zd_b zq_prog_14_method_85_code_0 2 rfl rfl rfl) (zd_b zq_prog_14_method_85_code_0 3 rfl rfl rfl)
theorem d_Mm_barOf_4 : decode prog_14_method_85_code 4 = .ok (.iload_n 1, 1) := zo_27 (zd_b zq_prog_14_method_85_code_0 4 rfl rfl rfl)
theorem d_Mm_barOf_5 : decode prog_14_method_85_code 5 = .ok (.invokevirtual 211, 3) := zo_182 (d := 0) (e := 211) (zd_b zq_prog_14_method_85_code_0 5 rfl rfl rfl) (zd_b zq_prog_14_method_85_code_0 6 rfl rfl rfl) (zd_b zq_prog_14_method_85_code_0 7 rfl rfl rfl)
theorem ok_Mm_barOf_AL_get : z_ok M_Mm_barOf M_AL_get 1 := ⟨z_mj2 (i := 180) rfl (by decide +kernel), rfl, ⟨by decide +kernel, by decide +kernel, by decide +kernel⟩, ⟨by decide, by decide⟩, z_mj1 (i := 13) rfl (by decide +kernel), rfl⟩
theorem d_Mm_barOf_8 : decode prog_14_method_85_code 8 = .ok (.checkcast 215, 3) := zo_192 (d := 0) (e := 215) (zd_b zq_prog_14_method_85_code_0 8 rfl rfl rfl) (zd_b zq_prog_14_method_85_code_0 9 rfl rfl rfl) (zd_b zq_prog_14_method_85_code_0 10 rfl rfl rfl)
theorem d_Mm_barOf_11 : decode prog_14_method_85_code 11 = .ok (.astore_n 2, 1) := zo_77 (zd_b zq_prog_14_method_85_code_0 11 rfl rfl rfl)
theorem d_Mm_barOf_12 : decode prog_14_method_85_code 12 = .ok (.aload_n 0, 1) := zo_42 (zd_b zq_prog_14_method_85_code_0 12 rfl rfl rfl)
theorem d_Mm_barOf_13 : decode prog_14_method_85_code 13 = .ok (.iload_n 1, 1) := zo_27 (zd_b zq_prog_14_method_85_code_0 13 rfl rfl rfl)
theorem d_Mm_barOf_14 : decode prog_14_method_85_code 14 = .ok (.iconst 0, 1) := zo_3 (zd_b zq_prog_14_method_85_code_0 14 rfl rfl rfl)
theorem d_Mm_barOf_15 : decode prog_14_method_85_code 15 = .ok (.invokevirtual 305, 3) := zo_182 (d := 1) (e := 49) (zd_b zq_prog_14_method_85_code_0 15 rfl rfl rfl) (zd_b zq_prog_14_method_85_code_0 16 rfl rfl rfl) (zd_b zq_prog_14_method_85_code_0 17 rfl rfl rfl)
theorem ok_Mm_barOf_Mm_hasElement : z_ok M_Mm_barOf M_Mm_hasElement 2 := ⟨z_mj9 (i := 33) rfl (by decide +kernel), rfl, ⟨by decide +kernel, by decide +kernel, by decide +kernel⟩, ⟨by decide, by decide⟩, z_mj1 (i := 14) rfl (by decide +kernel), rfl⟩
theorem ln_Mm_305 : Cond.methodLink "IronpourModel" 305 M_Mm_hasElement.1 ∈ z_gw := z_mj9 (i := 30) rfl (by decide +kernel)
theorem w_im_Mm_hasElement : Cond.instanceMethod M_Mm_hasElement.1 ∈ z_gw := z_mj9 (i := 32) rfl (by decide +kernel)
theorem w_se_Mm_hasElement : Cond.selects M_Mm_hasElement.1.cls M_Mm_hasElement.1 M_Mm_hasElement.1 ∈ z_gw := z_mem (i := 54) (by decide +kernel) (by decide +kernel)
theorem d_Mm_barOf_18 : decode prog_14_method_85_code 18 = .ok (.aload_n 0, 1) := zo_42 (zd_b zq_prog_14_method_85_code_0 18 rfl rfl rfl)
theorem d_Mm_barOf_19 : decode prog_14_method_85_code 19 = .ok (.iload_n 1, 1) := zo_27 (zd_b zq_prog_14_method_85_code_0 19 rfl rfl rfl)
theorem d_Mm_barOf_20 : decode prog_14_method_85_code 20 = .ok (.iconst 1, 1) := zo_4 (zd_b zq_prog_14_method_85_code_0 20 rfl rfl rfl)
theorem d_Mm_barOf_21 : decode prog_14_method_85_code 21 = .ok (.invokevirtual 305, 3) := zo_182 (d := 1) (e := 49) (zd_b zq_prog_14_method_85_code_0 21 rfl rfl rfl) (zd_b zq_prog_14_method_85_code_0 22 rfl rfl rfl) (zd_b zq_prog_14_method_85_code_0 23 rfl rfl rfl)
theorem d_Mm_barOf_24 : decode prog_14_method_85_code 24 = .ok (.iconst 3, 1) := zo_6 (zd_b zq_prog_14_method_85_code_0 24 rfl rfl rfl)
theorem d_Mm_barOf_25 : decode prog_14_method_85_code 25 = .ok (.idiv, 1) := zo_108 (zd_b zq_prog_14_method_85_code_0 25 rfl rfl rfl)
theorem d_Mm_barOf_26 : decode prog_14_method_85_code 26 = .ok (.iadd, 1) := zo_96 (zd_b zq_prog_14_method_85_code_0 26 rfl rfl rfl)
theorem d_Mm_barOf_27 : decode prog_14_method_85_code 27 = .ok (.istore_n 3, 1) := zo_62 (zd_b zq_prog_14_method_85_code_0 27 rfl rfl rfl)
theorem d_Mm_barOf_28 : decode prog_14_method_85_code 28 = .ok (.aload_n 2, 1) := zo_44 (zd_b zq_prog_14_method_85_code_0 28 rfl rfl rfl)
theorem d_Mm_barOf_29 : decode prog_14_method_85_code 29 = .ok (.iconst 4, 1) := zo_7 (zd_b zq_prog_14_method_85_code_0 29 rfl rfl rfl)
theorem d_Mm_barOf_30 : decode prog_14_method_85_code 30 = .ok (.iaload, 1) := zo_46 (zd_b zq_prog_14_method_85_code_0 30 rfl rfl rfl)
theorem d_Mm_barOf_31 : decode prog_14_method_85_code 31 = .ok (.iconst 1, 1) := zo_4 (zd_b zq_prog_14_method_85_code_0 31 rfl rfl rfl)
theorem d_Mm_barOf_32 : decode prog_14_method_85_code 32 = .ok (.if_icmp .ne 15, 3) := zo_160 (d := 0) (e := 15) (zd_b zq_prog_14_method_85_code_1 0 rfl rfl rfl) (zd_b zq_prog_14_method_85_code_1 1 rfl rfl rfl) (zd_b zq_prog_14_method_85_code_1 2 rfl rfl rfl) (by decide +kernel)
theorem d_Mm_barOf_47 : decode prog_14_method_85_code 47 = .ok (.sipush 500, 3) := zo_17 (d := 1) (e := 244) (zd_b zq_prog_14_method_85_code_1 15 rfl rfl rfl) (zd_b zq_prog_14_method_85_code_1 16 rfl rfl rfl) (zd_b zq_prog_14_method_85_code_1 17 rfl rfl rfl) (by decide +kernel)
theorem d_Mm_barOf_50 : decode prog_14_method_85_code 50 = .ok (.iconst 2, 1) := zo_5 (zd_b zq_prog_14_method_85_code_1 18 rfl rfl rfl)
theorem d_Mm_barOf_51 : decode prog_14_method_85_code 51 = .ok (.iconst 0, 1) := zo_3 (zd_b zq_prog_14_method_85_code_1 19 rfl rfl rfl)
theorem d_Mm_barOf_52 : decode prog_14_method_85_code 52 = .ok (.iload_n 3, 1) := zo_29 (zd_b zq_prog_14_method_85_code_1 20 rfl rfl rfl)
theorem d_Mm_barOf_53 : decode prog_14_method_85_code 53 = .ok (.sipush 300, 3) := zo_17 (d := 1) (e := 44) (zd_b zq_prog_14_method_85_code_1 21 rfl rfl rfl) (zd_b zq_prog_14_method_85_code_1 22 rfl rfl rfl) (zd_b zq_prog_14_method_85_code_1 23 rfl rfl rfl) (by decide +kernel)
theorem d_Mm_barOf_56 : decode prog_14_method_85_code 56 = .ok (.isub, 1) := zo_100 (zd_b zq_prog_14_method_85_code_1 24 rfl rfl rfl)
theorem d_Mm_barOf_57 : decode prog_14_method_85_code 57 = .ok (.invokestatic 193, 3) := zo_184 (d := 0) (e := 193) (zd_b zq_prog_14_method_85_code_1 25 rfl rfl rfl) (zd_b zq_prog_14_method_85_code_1 26 rfl rfl rfl) (zd_b zq_prog_14_method_85_code_1 27 rfl rfl rfl)
theorem d_Mm_barOf_60 : decode prog_14_method_85_code 60 = .ok (.imul, 1) := zo_104 (zd_b zq_prog_14_method_85_code_1 28 rfl rfl rfl)
theorem d_Mm_barOf_61 : decode prog_14_method_85_code 61 = .ok (.isub, 1) := zo_100 (zd_b zq_prog_14_method_85_code_1 29 rfl rfl rfl)
theorem d_Mm_barOf_62 : decode prog_14_method_85_code 62 = .ok (.istore 4, 2) := zo_54 (d := 4) (zd_b zq_prog_14_method_85_code_1 30 rfl rfl rfl) (zd_b zq_prog_14_method_85_code_1 31 rfl rfl rfl)
theorem d_Mm_barOf_64 : decode prog_14_method_85_code 64 = .ok (.iconst 0, 1) := zo_3 (zd_b zq_prog_14_method_85_code_2 0 rfl rfl rfl)
theorem d_Mm_barOf_65 : decode prog_14_method_85_code 65 = .ok (.iload 4, 2) := zo_21 (d := 4) (zd_b zq_prog_14_method_85_code_2 1 rfl rfl rfl) (zd_b zq_prog_14_method_85_code_2 2 rfl rfl rfl)
theorem d_Mm_barOf_67 : decode prog_14_method_85_code 67 = .ok (.bipush 30, 2) := zo_16 (d := 30) (zd_b zq_prog_14_method_85_code_2 3 rfl rfl rfl) (zd_b zq_prog_14_method_85_code_2 4 rfl rfl rfl) (by decide +kernel)
theorem d_Mm_barOf_69 : decode prog_14_method_85_code 69 = .ok (.aload_n 2, 1) := zo_44 (zd_b zq_prog_14_method_85_code_2 5 rfl rfl rfl)
theorem d_Mm_barOf_70 : decode prog_14_method_85_code 70 = .ok (.iconst 2, 1) := zo_5 (zd_b zq_prog_14_method_85_code_2 6 rfl rfl rfl)
theorem d_Mm_barOf_71 : decode prog_14_method_85_code 71 = .ok (.iaload, 1) := zo_46 (zd_b zq_prog_14_method_85_code_2 7 rfl rfl rfl)
theorem d_Mm_barOf_72 : decode prog_14_method_85_code 72 = .ok (.invokestatic 308, 3) := zo_184 (d := 1) (e := 52) (zd_b zq_prog_14_method_85_code_2 8 rfl rfl rfl) (zd_b zq_prog_14_method_85_code_2 9 rfl rfl rfl) (zd_b zq_prog_14_method_85_code_2 10 rfl rfl rfl)
theorem ok_Mm_barOf_Integer_bitCount : z_ok M_Mm_barOf M_Integer_bitCount 1 := ⟨z_mj6 (i := 231) rfl (by decide +kernel), rfl, ⟨by decide +kernel, by decide +kernel, by decide +kernel⟩, ⟨by decide, by decide⟩, z_mj1 (i := 36) rfl (by decide +kernel), rfl⟩
theorem ln_Mm_308 : Cond.methodLink "IronpourModel" 308 M_Integer_bitCount.1 ∈ z_gw := z_mj9 (i := 43) rfl (by decide +kernel)
theorem d_Mm_barOf_75 : decode prog_14_method_85_code 75 = .ok (.imul, 1) := zo_104 (zd_b zq_prog_14_method_85_code_2 11 rfl rfl rfl)
theorem d_Mm_barOf_76 : decode prog_14_method_85_code 76 = .ok (.isub, 1) := zo_100 (zd_b zq_prog_14_method_85_code_2 12 rfl rfl rfl)
theorem d_Mm_barOf_77 : decode prog_14_method_85_code 77 = .ok (.invokestatic 193, 3) := zo_184 (d := 0) (e := 193) (zd_b zq_prog_14_method_85_code_2 13 rfl rfl rfl) (zd_b zq_prog_14_method_85_code_2 14 rfl rfl rfl) (zd_b zq_prog_14_method_85_code_2 15 rfl rfl rfl)
theorem d_Mm_barOf_80 : decode prog_14_method_85_code 80 = .ok (.ireturn, 1) := zo_172 (zd_b zq_prog_14_method_85_code_2 16 rfl rfl rfl)
theorem d_Mm_barOf_35 : decode prog_14_method_85_code 35 = .ok (.sipush 400, 3) := zo_17 (d := 1) (e := 144) (zd_b zq_prog_14_method_85_code_1 3 rfl rfl rfl) (zd_b zq_prog_14_method_85_code_1 4 rfl rfl rfl) (zd_b zq_prog_14_method_85_code_1 5 rfl rfl rfl) (by decide +kernel)
theorem d_Mm_barOf_38 : decode prog_14_method_85_code 38 = .ok (.iconst 2, 1) := zo_5 (zd_b zq_prog_14_method_85_code_1 6 rfl rfl rfl)
theorem d_Mm_barOf_39 : decode prog_14_method_85_code 39 = .ok (.aload_n 2, 1) := zo_44 (zd_b zq_prog_14_method_85_code_1 7 rfl rfl rfl)
theorem d_Mm_barOf_40 : decode prog_14_method_85_code 40 = .ok (.iconst 1, 1) := zo_4 (zd_b zq_prog_14_method_85_code_1 8 rfl rfl rfl)
theorem d_Mm_barOf_41 : decode prog_14_method_85_code 41 = .ok (.iaload, 1) := zo_46 (zd_b zq_prog_14_method_85_code_1 9 rfl rfl rfl)
theorem d_Mm_barOf_42 : decode prog_14_method_85_code 42 = .ok (.imul, 1) := zo_104 (zd_b zq_prog_14_method_85_code_1 10 rfl rfl rfl)
theorem d_Mm_barOf_43 : decode prog_14_method_85_code 43 = .ok (.iadd, 1) := zo_96 (zd_b zq_prog_14_method_85_code_1 11 rfl rfl rfl)
theorem d_Mm_barOf_44 : decode prog_14_method_85_code 44 = .ok (.goto 18, 3) := zo_167 (d := 0) (e := 18) (zd_b zq_prog_14_method_85_code_1 12 rfl rfl rfl) (zd_b zq_prog_14_method_85_code_1 13 rfl rfl rfl) (zd_b zq_prog_14_method_85_code_1 14 rfl rfl rfl) (by decide +kernel)
set_option maxHeartbeats 4000000 in
set_option maxRecDepth 100000 in
theorem Q_barOf {g : zG} {ad : Nat → Nat} {t : zTT} {u : zNN} {w : zW} (hI : IV g ad t u w) (k : Nat) (hk : k < u.1 5) : zMB g M_Mm_barOf [.ref (ad 52), .int (nI k)] w (fun o w1 => (∃ v : Int32, o = .inl (some (.int v))) ∧ w1 = w) 0 0 := by
  obtain ⟨e_m, wf_m, k_m⟩ := hI.1.2 52 (by decide)
  obtain ⟨v_m_th, rfl⟩ := kd_52.mp k_m
  have hJ := hI.1.I [52] [((ad 52), .inr (12, [.int v_m_th, .ref (ad 53), .int (nI ((t.1 52).2.2 0)), .ref (ad 54), .ref (ad 55), .ref (ad 56), .ref (ad 57), .ref (ad 58), .ref (ad 59), .ref (ad 60), .ref (ad 61), .int ((t.1 52).1 0), .int ((t.1 52).1 1), .int ((t.1 52).1 2), .int ((t.1 52).1 3), .int ((t.1 52).1 4), .int ((t.1 52).1 5), .ref (ad 62), .ref (ad 63), .ref (ad 64), .int ((t.1 52).1 6), .int ((t.1 52).1 7), .int ((t.1 52).1 8), .int ((t.1 52).1 9), .int ((t.1 52).1 10), .ref (ad 65), .ref (ad 66), .ref (ad 67), .ref (ad 68), .long ((t.1 52).2.1 0), .long ((t.1 52).2.1 1)]))] rfl (by decide) (by decide) (List.forall_mem_cons.mpr ⟨wf_m, (fun _ h => nomatch h)⟩)
  refine y_of (by decide) rfl (Nat.le_of_ble_eq_true rfl) (y_base (cs := [((ad 52), .inr (12, [.int v_m_th, .ref (ad 53), .int (nI ((t.1 52).2.2 0)), .ref (ad 54), .ref (ad 55), .ref (ad 56), .ref (ad 57), .ref (ad 58), .ref (ad 59), .ref (ad 60), .ref (ad 61), .int ((t.1 52).1 0), .int ((t.1 52).1 1), .int ((t.1 52).1 2), .int ((t.1 52).1 3), .int ((t.1 52).1 4), .int ((t.1 52).1 5), .ref (ad 62), .ref (ad 63), .ref (ad 64), .int ((t.1 52).1 6), .int ((t.1 52).1 7), .int ((t.1 52).1 8), .int ((t.1 52).1 9), .int ((t.1 52).1 10), .ref (ad 65), .ref (ad 66), .ref (ad 67), .ref (ad 68), .long ((t.1 52).2.1 0), .long ((t.1 52).2.1 1)]))]) hJ ?_)
  refine y_lvE (lv2 := [(0, .ref (ad 52)), (1, .int (nI k))]) rfl ?_
  refine y_aload_n d_Mm_barOf_0 rfl 0 rfl ?_
  refine y_get fs_Mm_78 d_Mm_barOf_1 (q0 := 0) rfl rfl ?_
  refine y_iload_n d_Mm_barOf_4 rfl 1 rfl ?_
  refine yw_callVL (As := [.int (nI k)]) (rest := []) (ci := 13) rfl (fun wA hA => ((hI.gen (t2 := t) (is := [52]) (L2 := []) hA rfl ⟨kd_52.mpr ⟨_, rfl⟩, trivial⟩ (by decide) (by decide) (fun _ h => nomatch h) (fun _ h => nomatch h) (fun _ _ _ => rfl) (fun h => h) rfl).2.1.1 5 (by decide)).ob) ln_Mm_211 w_im_AL_get w_se_AL_get ok_Mm_barOf_AL_get d_Mm_barOf_5 (fun wA hA => Q_get ((hI.gen (t2 := t) (is := [52]) (L2 := []) hA rfl ⟨kd_52.mpr ⟨_, rfl⟩, trivial⟩ (by decide) (by decide) (fun _ h => nomatch h) (fun _ h => nomatch h) (fun _ _ _ => rfl) (fun h => h) rfl).2.1.1 5 (by decide)) hk) rfl rfl (Nat.le_of_ble_eq_true rfl) (by omega) (by omega) (fun wA5 hA5 E wB5 hx => ?_) (fun wA5 hA5 v wB5 hx => ?_)
  · exact absurd hx.1 (by simp)
  · obtain ⟨e1, e2⟩ := hx
    cases e1
    refine yw_st (st2 := [.ref (u.2.2 5 k)]) rfl ?_
    subst e2
    refine y_go hA5 ?_
    refine y_end (fun wC1 hC1 => ?_)
    obtain rfl := z_I.same hJ hC1
    obtain ⟨nf_c, hw_c, h0_c⟩ := hI.2.1.2.1 5 (by decide) k hk
    have hJ := z_I.kd (cs := [((ad 52), .inr (12, [.int v_m_th, .ref (ad 53), .int (nI ((t.1 52).2.2 0)), .ref (ad 54), .ref (ad 55), .ref (ad 56), .ref (ad 57), .ref (ad 58), .ref (ad 59), .ref (ad 60), .ref (ad 61), .int ((t.1 52).1 0), .int ((t.1 52).1 1), .int ((t.1 52).1 2), .int ((t.1 52).1 3), .int ((t.1 52).1 4), .int ((t.1 52).1 5), .ref (ad 62), .ref (ad 63), .ref (ad 64), .int ((t.1 52).1 6), .int ((t.1 52).1 7), .int ((t.1 52).1 8), .int ((t.1 52).1 9), .int ((t.1 52).1 10), .ref (ad 65), .ref (ad 66), .ref (ad 67), .ref (ad 68), .long ((t.1 52).2.1 0), .long ((t.1 52).2.1 1)])), ((u.2.2 5 k), .inl (0, 6, .inl ((t.2 5 k).2.1)))]) (List.forall_mem_cons.mpr ⟨wf_m, (List.forall_mem_cons.mpr ⟨hw_c, (fun _ h => nomatch h)⟩)⟩) (by simp [z_kd])
    refine y_base hJ ?_
    refine y_castA (t := 0) (by decide) lk_Mm_215 d_Mm_barOf_8 (q0 := 1) rfl ?_
    refine y_astore_n (lv' := [(2, .ref (u.2.2 5 k)), (0, .ref (ad 52)), (1, .int (nI k))]) d_Mm_barOf_11 rfl (by decide) rfl ?_
    refine y_aload_n d_Mm_barOf_12 rfl 1 rfl ?_
    refine y_iload_n d_Mm_barOf_13 rfl 2 rfl ?_
    refine y_iconst d_Mm_barOf_14 (v := 0) (by decide) ?_
    refine yw_callV (As := [.int (nI k), .int 0]) (rest := []) (q0 := 0) rfl rfl ln_Mm_305 w_im_Mm_hasElement w_se_Mm_hasElement ok_Mm_barOf_Mm_hasElement d_Mm_barOf_15 (fun wA hA => Q_hasElement (hI.gen (t2 := t) (is := [52]) (L2 := [(u.2.2 5 k)]) hA rfl ⟨kd_52.mpr ⟨_, rfl⟩, trivial⟩ (by decide) (by decide) (List.forall_mem_cons.mpr ⟨nf_c, (fun _ h => nomatch h)⟩) (List.forall_mem_cons.mpr ⟨⟨_, hw_c, hA.at (q0 := 1) rfl⟩, (fun _ h => nomatch h)⟩) (fun _ _ _ => rfl) (fun h => h) rfl) k 0 hk (by decide)) rfl rfl (Nat.le_of_ble_eq_true rfl) (by omega) (by omega) (fun wA15 hA15 E wB15 hx => ?_) (fun wA15 hA15 v wB15 hx => ?_)
    · exact absurd hx.1 (by simp)
    · obtain ⟨⟨v0, e1⟩, e2⟩ := hx
      cases e1
      refine yw_st (st2 := [.int v0]) rfl ?_
      subst e2
      refine y_go hA15 ?_
      refine y_aload_n d_Mm_barOf_18 rfl 1 rfl ?_
      refine y_iload_n d_Mm_barOf_19 rfl 2 rfl ?_
      refine y_iconst d_Mm_barOf_20 (v := 1) (by decide) ?_
      refine yw_callV (As := [.int (nI k), .int 1]) (rest := [.int v0]) (q0 := 0) rfl rfl ln_Mm_305 w_im_Mm_hasElement w_se_Mm_hasElement ok_Mm_barOf_Mm_hasElement d_Mm_barOf_21 (fun wA hA => Q_hasElement (hI.gen (t2 := t) (is := [52]) (L2 := [(u.2.2 5 k)]) hA rfl ⟨kd_52.mpr ⟨_, rfl⟩, trivial⟩ (by decide) (by decide) (List.forall_mem_cons.mpr ⟨nf_c, (fun _ h => nomatch h)⟩) (List.forall_mem_cons.mpr ⟨⟨_, hw_c, hA.at (q0 := 1) rfl⟩, (fun _ h => nomatch h)⟩) (fun _ _ _ => rfl) (fun h => h) rfl) k 1 hk (by decide)) rfl rfl (Nat.le_of_ble_eq_true rfl) (by omega) (by omega) (fun wA21 hA21 E wB21 hx => ?_) (fun wA21 hA21 v wB21 hx => ?_)
      · exact absurd hx.1 (by simp)
      · obtain ⟨⟨v1, e1⟩, e2⟩ := hx
        cases e1
        refine yw_st (st2 := [.int v1, .int v0]) rfl ?_
        subst e2
        refine y_go hA21 ?_
        refine y_iconst d_Mm_barOf_24 (v := 3) (by decide) ?_
        refine y_idiv d_Mm_barOf_25 (v := v1 / 3) (by decide) rfl ?_
        refine y_iadd d_Mm_barOf_26 (v := v0 + (v1 / 3)) rfl ?_
        refine y_istore_n (lv' := [(3, .int (v0 + (v1 / 3))), (2, .ref (u.2.2 5 k)), (0, .ref (ad 52)), (1, .int (nI k))]) d_Mm_barOf_27 rfl (by decide) rfl ?_
        refine y_aload_n d_Mm_barOf_28 rfl 1 rfl ?_
        refine y_iconst d_Mm_barOf_29 (v := 4) (by decide) ?_
        refine y_iald d_Mm_barOf_30 (q0 := 1) rfl (fun q => q.elim (by decide) (by decide)) (v := ((t.2 5 k).2.1) 4) rfl ?_
        refine y_iconst d_Mm_barOf_31 (v := 1) (by decide) ?_
        refine y_icmp_ne (tgt := 47) d_Mm_barOf_32 (by decide) (fun c_32 => ?_) (fun c_32 => ?_)
        · refine y_sipush d_Mm_barOf_47 (v := 500) (by decide) ?_
          refine y_iconst d_Mm_barOf_50 (v := 2) (by decide) ?_
          refine y_iconst d_Mm_barOf_51 (v := 0) (by decide) ?_
          refine y_iload_n d_Mm_barOf_52 rfl 0 rfl ?_
          refine y_sipush d_Mm_barOf_53 (v := 300) (by decide) ?_
          refine y_isub d_Mm_barOf_56 (v := (v0 + (v1 / 3)) - 300) rfl ?_
          refine y_max (v := (if 0 < (v0 + (v1 / 3)) - 300 then (v0 + (v1 / 3)) - 300 else 0)) ln_Mm_193 w_mmax w_mi w_cmax d_Mm_barOf_57 (by decide) (by decide) (Nat.le_of_ble_eq_true rfl) rfl ?_
          refine y_imul d_Mm_barOf_60 (v := 2 * (if 0 < (v0 + (v1 / 3)) - 300 then (v0 + (v1 / 3)) - 300 else 0)) rfl ?_
          refine y_isub d_Mm_barOf_61 (v := 500 - (2 * (if 0 < (v0 + (v1 / 3)) - 300 then (v0 + (v1 / 3)) - 300 else 0))) rfl ?_
          refine y_istore (lv' := [(4, .int (500 - (2 * (if 0 < (v0 + (v1 / 3)) - 300 then (v0 + (v1 / 3)) - 300 else 0)))), (3, .int (v0 + (v1 / 3))), (2, .ref (u.2.2 5 k)), (0, .ref (ad 52)), (1, .int (nI k))]) d_Mm_barOf_62 (by decide) rfl ?_
          refine y_iconst d_Mm_barOf_64 (v := 0) (by decide) ?_
          refine y_iload d_Mm_barOf_65 0 rfl ?_
          refine y_bipush d_Mm_barOf_67 (v := 30) (by decide) ?_
          refine y_aload_n d_Mm_barOf_69 rfl 2 rfl ?_
          refine y_iconst d_Mm_barOf_70 (v := 2) (by decide) ?_
          refine y_iald d_Mm_barOf_71 (q0 := 1) rfl (fun q => q.elim (by decide) (by decide)) (v := ((t.2 5 k).2.1) 2) rfl ?_
          refine y_callS (As := [.int (((t.2 5 k).2.1) 2)]) (rest := [.int 30, .int (500 - (2 * (if 0 < (v0 + (v1 / 3)) - 300 then (v0 + (v1 / 3)) - 300 else 0))), .int 0]) (csC := []) (is := []) ln_Mm_308 w_st_Integer_bitCount ok_Mm_barOf_Integer_bitCount d_Mm_barOf_72 (C_In_bitCount g (((t.2 5 k).2.1) 2)) rfl rfl (Nat.le_of_ble_eq_true rfl) rfl (by decide) (by omega) (by omega) (fun E cs1 hx => ?_) (fun v cs1 hx => ?_)
          · exact absurd hx.1 (by simp)
          · obtain ⟨e1, rfl⟩ := hx
            cases e1
            refine ⟨rfl, ?_⟩
            refine y_st (st2 := [.int (S_In_bitCount (((t.2 5 k).2.1) 2)), .int 30, .int (500 - (2 * (if 0 < (v0 + (v1 / 3)) - 300 then (v0 + (v1 / 3)) - 300 else 0))), .int 0]) rfl ?_
            refine y_cs (cs2 := [((ad 52), .inr (12, [.int v_m_th, .ref (ad 53), .int (nI ((t.1 52).2.2 0)), .ref (ad 54), .ref (ad 55), .ref (ad 56), .ref (ad 57), .ref (ad 58), .ref (ad 59), .ref (ad 60), .ref (ad 61), .int ((t.1 52).1 0), .int ((t.1 52).1 1), .int ((t.1 52).1 2), .int ((t.1 52).1 3), .int ((t.1 52).1 4), .int ((t.1 52).1 5), .ref (ad 62), .ref (ad 63), .ref (ad 64), .int ((t.1 52).1 6), .int ((t.1 52).1 7), .int ((t.1 52).1 8), .int ((t.1 52).1 9), .int ((t.1 52).1 10), .ref (ad 65), .ref (ad 66), .ref (ad 67), .ref (ad 68), .long ((t.1 52).2.1 0), .long ((t.1 52).2.1 1)])), ((u.2.2 5 k), .inl (0, 6, .inl ((t.2 5 k).2.1)))]) rfl ?_
            refine y_imul d_Mm_barOf_75 (v := 30 * (S_In_bitCount (((t.2 5 k).2.1) 2))) rfl ?_
            refine y_isub d_Mm_barOf_76 (v := (500 - (2 * (if 0 < (v0 + (v1 / 3)) - 300 then (v0 + (v1 / 3)) - 300 else 0))) - (30 * (S_In_bitCount (((t.2 5 k).2.1) 2)))) rfl ?_
            refine y_max (v := (if 0 < (500 - (2 * (if 0 < (v0 + (v1 / 3)) - 300 then (v0 + (v1 / 3)) - 300 else 0))) - (30 * (S_In_bitCount (((t.2 5 k).2.1) 2))) then (500 - (2 * (if 0 < (v0 + (v1 / 3)) - 300 then (v0 + (v1 / 3)) - 300 else 0))) - (30 * (S_In_bitCount (((t.2 5 k).2.1) 2))) else 0)) ln_Mm_193 w_mmax w_mi w_cmax d_Mm_barOf_77 (by decide) (by decide) (Nat.le_of_ble_eq_true rfl) rfl ?_
            refine y_iret d_Mm_barOf_80 rfl rfl ?_
            exact fun w1 h1 => ⟨⟨_, rfl⟩, z_I.same hJ h1⟩
        · refine y_sipush d_Mm_barOf_35 (v := 400) (by decide) ?_
          refine y_iconst d_Mm_barOf_38 (v := 2) (by decide) ?_
          refine y_aload_n d_Mm_barOf_39 rfl 1 rfl ?_
          refine y_iconst d_Mm_barOf_40 (v := 1) (by decide) ?_
          refine y_iald d_Mm_barOf_41 (q0 := 1) rfl (fun q => q.elim (by decide) (by decide)) (v := ((t.2 5 k).2.1) 1) rfl ?_
          refine y_imul d_Mm_barOf_42 (v := 2 * (((t.2 5 k).2.1) 1)) rfl ?_
          refine y_iadd d_Mm_barOf_43 (v := 400 + (2 * (((t.2 5 k).2.1) 1))) rfl ?_
          refine y_goto (tgt := 62) d_Mm_barOf_44 (by decide) ?_
          refine y_istore (lv' := [(4, .int (400 + (2 * (((t.2 5 k).2.1) 1)))), (3, .int (v0 + (v1 / 3))), (2, .ref (u.2.2 5 k)), (0, .ref (ad 52)), (1, .int (nI k))]) d_Mm_barOf_62 (by decide) rfl ?_
          refine y_iconst d_Mm_barOf_64 (v := 0) (by decide) ?_
          refine y_iload d_Mm_barOf_65 0 rfl ?_
          refine y_bipush d_Mm_barOf_67 (v := 30) (by decide) ?_
          refine y_aload_n d_Mm_barOf_69 rfl 2 rfl ?_
          refine y_iconst d_Mm_barOf_70 (v := 2) (by decide) ?_
          refine y_iald d_Mm_barOf_71 (q0 := 1) rfl (fun q => q.elim (by decide) (by decide)) (v := ((t.2 5 k).2.1) 2) rfl ?_
          refine y_callS (As := [.int (((t.2 5 k).2.1) 2)]) (rest := [.int 30, .int (400 + (2 * (((t.2 5 k).2.1) 1))), .int 0]) (csC := []) (is := []) ln_Mm_308 w_st_Integer_bitCount ok_Mm_barOf_Integer_bitCount d_Mm_barOf_72 (C_In_bitCount g (((t.2 5 k).2.1) 2)) rfl rfl (Nat.le_of_ble_eq_true rfl) rfl (by decide) (by omega) (by omega) (fun E cs1 hx => ?_) (fun v cs1 hx => ?_)
          · exact absurd hx.1 (by simp)
          · obtain ⟨e1, rfl⟩ := hx
            cases e1
            refine ⟨rfl, ?_⟩
            refine y_st (st2 := [.int (S_In_bitCount (((t.2 5 k).2.1) 2)), .int 30, .int (400 + (2 * (((t.2 5 k).2.1) 1))), .int 0]) rfl ?_
            refine y_cs (cs2 := [((ad 52), .inr (12, [.int v_m_th, .ref (ad 53), .int (nI ((t.1 52).2.2 0)), .ref (ad 54), .ref (ad 55), .ref (ad 56), .ref (ad 57), .ref (ad 58), .ref (ad 59), .ref (ad 60), .ref (ad 61), .int ((t.1 52).1 0), .int ((t.1 52).1 1), .int ((t.1 52).1 2), .int ((t.1 52).1 3), .int ((t.1 52).1 4), .int ((t.1 52).1 5), .ref (ad 62), .ref (ad 63), .ref (ad 64), .int ((t.1 52).1 6), .int ((t.1 52).1 7), .int ((t.1 52).1 8), .int ((t.1 52).1 9), .int ((t.1 52).1 10), .ref (ad 65), .ref (ad 66), .ref (ad 67), .ref (ad 68), .long ((t.1 52).2.1 0), .long ((t.1 52).2.1 1)])), ((u.2.2 5 k), .inl (0, 6, .inl ((t.2 5 k).2.1)))]) rfl ?_
            refine y_imul d_Mm_barOf_75 (v := 30 * (S_In_bitCount (((t.2 5 k).2.1) 2))) rfl ?_
            refine y_isub d_Mm_barOf_76 (v := (400 + (2 * (((t.2 5 k).2.1) 1))) - (30 * (S_In_bitCount (((t.2 5 k).2.1) 2)))) rfl ?_
            refine y_max (v := (if 0 < (400 + (2 * (((t.2 5 k).2.1) 1))) - (30 * (S_In_bitCount (((t.2 5 k).2.1) 2))) then (400 + (2 * (((t.2 5 k).2.1) 1))) - (30 * (S_In_bitCount (((t.2 5 k).2.1) 2))) else 0)) ln_Mm_193 w_mmax w_mi w_cmax d_Mm_barOf_77 (by decide) (by decide) (Nat.le_of_ble_eq_true rfl) rfl ?_
            refine y_iret d_Mm_barOf_80 rfl rfl ?_
            exact fun w1 h1 => ⟨⟨_, rfl⟩, z_I.same hJ h1⟩
theorem d_Mm_bar_22 : decode prog_14_method_86_code 22 = .ok (.aload_n 0, 1) := zo_42 (zd_b zq_prog_14_method_86_code_0 22 rfl rfl rfl)
theorem d_Mm_bar_23 : decode prog_14_method_86_code 23 = .ok (.iload_n 1, 1) := zo_27 (zd_b zq_prog_14_method_86_code_0 23 rfl rfl rfl)
theorem d_Mm_bar_24 : decode prog_14_method_86_code 24 = .ok (.invokevirtual 313, 3) := zo_182 (d := 1) (e := 57) (zd_b zq_prog_14_method_86_code_0 24 rfl rfl rfl) (zd_b zq_prog_14_method_86_code_0 25 rfl rfl rfl) (zd_b zq_prog_14_method_86_code_0 26 rfl rfl rfl)
theorem ok_Mm_bar_Mm_barOf : z_ok M_Mm_bar M_Mm_barOf 1 := ⟨z_mj9 (i := 42) rfl (by decide +kernel), rfl, ⟨by decide +kernel, by decide +kernel, by decide +kernel⟩, ⟨by decide, by decide⟩, z_mj1 (i := 14) rfl (by decide +kernel), rfl⟩
theorem ln_Mm_313 : Cond.methodLink "IronpourModel" 313 M_Mm_barOf.1 ∈ z_gw := z_mj9 (i := 39) rfl (by decide +kernel)
theorem w_im_Mm_barOf : Cond.instanceMethod M_Mm_barOf.1 ∈ z_gw := z_mj9 (i := 41) rfl (by decide +kernel)
theorem w_se_Mm_barOf : Cond.selects M_Mm_barOf.1.cls M_Mm_barOf.1 M_Mm_barOf.1 ∈ z_gw := z_mem (i := 55) (by decide +kernel) (by decide +kernel)
set_option maxHeartbeats 4000000 in
set_option maxRecDepth 100000 in
theorem Q_Mm_barN {g : zG} {ad : Nat → Nat} {t : zTT} {u : zNN} {w : zW} (hI : IV g ad t u w) (k : Nat) (hk : k < u.1 5) : zMB g M_Mm_bar [.ref (ad 52), .int (nI k)] w (fun o w1 => (∃ v : Int32, o = .inl (some (.int v))) ∧ IV g ad t u w1) 0 0 := by
  obtain ⟨e_m, wf_m, k_m⟩ := hI.1.2 52 (by decide)
  obtain ⟨v_m_th, rfl⟩ := kd_52.mp k_m
  refine y_of (by decide) rfl (Nat.le_of_ble_eq_true rfl) (y_base (cs := [((ad 52), .inr (12, [.int v_m_th, .ref (ad 53), .int (nI ((t.1 52).2.2 0)), .ref (ad 54), .ref (ad 55), .ref (ad 56), .ref (ad 57), .ref (ad 58), .ref (ad 59), .ref (ad 60), .ref (ad 61), .int ((t.1 52).1 0), .int ((t.1 52).1 1), .int ((t.1 52).1 2), .int ((t.1 52).1 3), .int ((t.1 52).1 4), .int ((t.1 52).1 5), .ref (ad 62), .ref (ad 63), .ref (ad 64), .int ((t.1 52).1 6), .int ((t.1 52).1 7), .int ((t.1 52).1 8), .int ((t.1 52).1 9), .int ((t.1 52).1 10), .ref (ad 65), .ref (ad 66), .ref (ad 67), .ref (ad 68), .long ((t.1 52).2.1 0), .long ((t.1 52).2.1 1)]))]) (hI.1.I [52] _ rfl (by decide) (by decide) (List.forall_mem_cons.mpr ⟨wf_m, (fun _ h => nomatch h)⟩)) ?_)
  refine y_lvE (lv2 := [(0, .ref (ad 52)), (1, .int (nI k))]) rfl ?_
  refine y_aload_n d_Mm_bar_0 rfl 0 rfl ?_
  refine y_iconst d_Mm_bar_1 (v := 0) (by decide) ?_
  refine y_put fp_Mm_84 d_Mm_bar_2 (fun h => nomatch h) rfl rfl (q0 := 0) rfl (Nat.le_of_ble_eq_true rfl) (cs' := [((ad 52), .inr (12, [.int 0, .ref (ad 53), .int (nI ((t.1 52).2.2 0)), .ref (ad 54), .ref (ad 55), .ref (ad 56), .ref (ad 57), .ref (ad 58), .ref (ad 59), .ref (ad 60), .ref (ad 61), .int ((t.1 52).1 0), .int ((t.1 52).1 1), .int ((t.1 52).1 2), .int ((t.1 52).1 3), .int ((t.1 52).1 4), .int ((t.1 52).1 5), .ref (ad 62), .ref (ad 63), .ref (ad 64), .int ((t.1 52).1 6), .int ((t.1 52).1 7), .int ((t.1 52).1 8), .int ((t.1 52).1 9), .int ((t.1 52).1 10), .ref (ad 65), .ref (ad 66), .ref (ad 67), .ref (ad 68), .long ((t.1 52).2.1 0), .long ((t.1 52).2.1 1)]))]) rfl ?_
  refine y_aload_n d_Mm_bar_5 rfl 0 rfl ?_
  refine y_aload_n d_Mm_bar_6 rfl 0 rfl ?_
  refine y_iload_n d_Mm_bar_7 rfl 1 rfl ?_
  refine yw_callV (As := [.int (nI k)]) (rest := [.ref (ad 52)]) (q0 := 0) rfl rfl ln_Mm_301 w_im_Mm_noCasting w_se_Mm_noCasting ok_Mm_bar_Mm_noCasting d_Mm_bar_8 (fun wA hA => Q_noCasting0 (hI.gen (t2 := t) (is := [52]) (L2 := []) hA rfl ⟨kd_52.mpr ⟨_, rfl⟩, trivial⟩ (by decide) (by decide) (fun _ h => nomatch h) (fun _ h => nomatch h) (fun _ _ _ => rfl) (fun h => h) rfl) (nI k) ⟨k, hk, rfl⟩) rfl rfl (Nat.le_of_ble_eq_true rfl) (by omega) (by omega) (fun wA8 hA8 E wB8 hx => ?_) (fun wA8 hA8 v wB8 hx => ?_)
  · exact absurd hx.1 (by simp)
  · obtain ⟨e1, e2⟩ := hx
    cases e1
    refine yw_st (st2 := [.int 0, .ref (ad 52)]) rfl ?_
    subst e2
    refine y_go hA8 ?_
    refine y_iconst d_Mm_bar_11 (v := 1) (by decide) ?_
    refine y_callV (As := [.int 0, .int 1]) (rest := []) (csC := [((ad 52), .inr (12, [.int 0, .ref (ad 53), .int (nI ((t.1 52).2.2 0)), .ref (ad 54), .ref (ad 55), .ref (ad 56), .ref (ad 57), .ref (ad 58), .ref (ad 59), .ref (ad 60), .ref (ad 61), .int ((t.1 52).1 0), .int ((t.1 52).1 1), .int ((t.1 52).1 2), .int ((t.1 52).1 3), .int ((t.1 52).1 4), .int ((t.1 52).1 5), .ref (ad 62), .ref (ad 63), .ref (ad 64), .int ((t.1 52).1 6), .int ((t.1 52).1 7), .int ((t.1 52).1 8), .int ((t.1 52).1 9), .int ((t.1 52).1 10), .ref (ad 65), .ref (ad 66), .ref (ad 67), .ref (ad 68), .long ((t.1 52).2.1 0), .long ((t.1 52).2.1 1)]))]) (is := [0]) (q0 := 0) rfl rfl ln_Mm_103 w_im_Mm_fails w_se_Mm_fails ok_Mm_bar_Mm_fails d_Mm_bar_12 (C_Mm_fails0 g (ad 52) (ad 53) (ad 54) (ad 55) (ad 56) (ad 57) (ad 58) (ad 59) (ad 60) (ad 61) (ad 62) (ad 63) (ad 64) (ad 65) (ad 66) (ad 67) (ad 68) 0 (nI ((t.1 52).2.2 0)) ((t.1 52).1 0) ((t.1 52).1 1) ((t.1 52).1 2) ((t.1 52).1 3) ((t.1 52).1 4) ((t.1 52).1 5) ((t.1 52).1 6) ((t.1 52).1 7) ((t.1 52).1 8) ((t.1 52).1 9) ((t.1 52).1 10) ((t.1 52).2.1 0) ((t.1 52).2.1 1) 1) rfl rfl (Nat.le_of_ble_eq_true rfl) rfl (by decide) (by omega) (by omega) (fun E cs1 hx => ?_) (fun v cs1 hx => ?_)
    · exact absurd hx.1 (by simp)
    · obtain ⟨e1, rfl⟩ := hx
      cases e1
      refine ⟨rfl, ?_⟩
      refine y_st (st2 := [.int 0]) rfl ?_
      refine y_cs (cs2 := [((ad 52), .inr (12, [.int 0, .ref (ad 53), .int (nI ((t.1 52).2.2 0)), .ref (ad 54), .ref (ad 55), .ref (ad 56), .ref (ad 57), .ref (ad 58), .ref (ad 59), .ref (ad 60), .ref (ad 61), .int ((t.1 52).1 0), .int ((t.1 52).1 1), .int ((t.1 52).1 2), .int ((t.1 52).1 3), .int ((t.1 52).1 4), .int ((t.1 52).1 5), .ref (ad 62), .ref (ad 63), .ref (ad 64), .int ((t.1 52).1 6), .int ((t.1 52).1 7), .int ((t.1 52).1 8), .int ((t.1 52).1 9), .int ((t.1 52).1 10), .ref (ad 65), .ref (ad 66), .ref (ad 67), .ref (ad 68), .long ((t.1 52).2.1 0), .long ((t.1 52).2.1 1)]))]) rfl ?_
      refine y_if_eq (tgt := 22) d_Mm_bar_15 (by decide) (fun c_15 => ?_) (fun c_15 => ?_)
      · refine y_aload_n d_Mm_bar_22 rfl 0 rfl ?_
        refine y_iload_n d_Mm_bar_23 rfl 1 rfl ?_
        refine yw_callV (As := [.int (nI k)]) (rest := []) (q0 := 0) rfl rfl ln_Mm_313 w_im_Mm_barOf w_se_Mm_barOf ok_Mm_bar_Mm_barOf d_Mm_bar_24 (fun wA hA => Q_barOf (hI.gen (t2 := t) (is := [52]) (L2 := []) hA rfl ⟨kd_52.mpr ⟨_, rfl⟩, trivial⟩ (by decide) (by decide) (fun _ h => nomatch h) (fun _ h => nomatch h) (fun _ _ _ => rfl) (fun h => h) rfl) k hk) rfl rfl (Nat.le_of_ble_eq_true rfl) (by omega) (by omega) (fun wA24 hA24 E wB24 hx => ?_) (fun wA24 hA24 v wB24 hx => ?_)
        · exact absurd hx.1 (by simp)
        · obtain ⟨⟨v9, e1⟩, e2⟩ := hx
          cases e1
          refine yw_st (st2 := [.int v9]) rfl ?_
          subst e2
          refine y_go hA24 ?_
          refine y_iret d_Mm_bar_27 rfl rfl ?_
          exact fun w1 h1 => ⟨⟨_, rfl⟩, (hI.gen (t2 := t) (is := [52]) (L2 := []) h1 rfl ⟨kd_52.mpr ⟨_, rfl⟩, trivial⟩ (by decide) (by decide) (fun _ h => nomatch h) (fun _ h => nomatch h) (fun _ _ _ => rfl) (fun h => h) rfl)⟩
      · exact absurd c_15 (by decide)
theorem d_Mm_has_1_18 : decode prog_14_method_84_code 18 = .ok (.aload_n 0, 1) := zo_42 (zd_b zq_prog_14_method_84_code_0 18 rfl rfl rfl)
theorem d_Mm_has_1_19 : decode prog_14_method_84_code 19 = .ok (.iload_n 2, 1) := zo_28 (zd_b zq_prog_14_method_84_code_0 19 rfl rfl rfl)
theorem d_Mm_has_1_20 : decode prog_14_method_84_code 20 = .ok (.invokestatic 246, 3) := zo_184 (d := 0) (e := 246) (zd_b zq_prog_14_method_84_code_0 20 rfl rfl rfl) (zd_b zq_prog_14_method_84_code_0 21 rfl rfl rfl) (zd_b zq_prog_14_method_84_code_0 22 rfl rfl rfl)
theorem ok_Mm_has_1_Mm_element : z_ok M_Mm_has_1 M_Mm_element 1 := ⟨z_mj8 (i := 164) rfl (by decide +kernel), rfl, ⟨by decide +kernel, by decide +kernel, by decide +kernel⟩, ⟨by decide, by decide⟩, z_mj1 (i := 14) rfl (by decide +kernel), rfl⟩
theorem d_Mm_has_1_23 : decode prog_14_method_84_code 23 = .ok (.ifCond .ge 7, 3) := zo_156 (d := 0) (e := 7) (zd_b zq_prog_14_method_84_code_0 23 rfl rfl rfl) (zd_b zq_prog_14_method_84_code_0 24 rfl rfl rfl) (zd_b zq_prog_14_method_84_code_0 25 rfl rfl rfl) (by decide +kernel)
theorem d_Mm_has_1_30 : decode prog_14_method_84_code 30 = .ok (.iconst 0, 1) := zo_3 (zd_b zq_prog_14_method_84_code_0 30 rfl rfl rfl)
theorem d_Mm_has_1_31 : decode prog_14_method_84_code 31 = .ok (.iconst 2, 1) := zo_5 (zd_b zq_prog_14_method_84_code_0 31 rfl rfl rfl)
theorem d_Mm_has_1_32 : decode prog_14_method_84_code 32 = .ok (.invokevirtual 103, 3) := zo_182 (d := 0) (e := 103) (zd_b zq_prog_14_method_84_code_1 0 rfl rfl rfl) (zd_b zq_prog_14_method_84_code_1 1 rfl rfl rfl) (zd_b zq_prog_14_method_84_code_1 2 rfl rfl rfl)
theorem d_Mm_has_1_35 : decode prog_14_method_84_code 35 = .ok (.ifCond .eq 7, 3) := zo_153 (d := 0) (e := 7) (zd_b zq_prog_14_method_84_code_1 3 rfl rfl rfl) (zd_b zq_prog_14_method_84_code_1 4 rfl rfl rfl) (zd_b zq_prog_14_method_84_code_1 5 rfl rfl rfl) (by decide +kernel)
theorem d_Mm_has_1_42 : decode prog_14_method_84_code 42 = .ok (.aload_n 0, 1) := zo_42 (zd_b zq_prog_14_method_84_code_1 10 rfl rfl rfl)
theorem d_Mm_has_1_43 : decode prog_14_method_84_code 43 = .ok (.iload_n 1, 1) := zo_27 (zd_b zq_prog_14_method_84_code_1 11 rfl rfl rfl)
theorem d_Mm_has_1_44 : decode prog_14_method_84_code 44 = .ok (.iload_n 2, 1) := zo_28 (zd_b zq_prog_14_method_84_code_1 12 rfl rfl rfl)
theorem d_Mm_has_1_45 : decode prog_14_method_84_code 45 = .ok (.invokestatic 246, 3) := zo_184 (d := 0) (e := 246) (zd_b zq_prog_14_method_84_code_1 13 rfl rfl rfl) (zd_b zq_prog_14_method_84_code_1 14 rfl rfl rfl) (zd_b zq_prog_14_method_84_code_1 15 rfl rfl rfl)
theorem d_Mm_has_1_48 : decode prog_14_method_84_code 48 = .ok (.invokevirtual 305, 3) := zo_182 (d := 1) (e := 49) (zd_b zq_prog_14_method_84_code_1 16 rfl rfl rfl) (zd_b zq_prog_14_method_84_code_1 17 rfl rfl rfl) (zd_b zq_prog_14_method_84_code_1 18 rfl rfl rfl)
theorem ok_Mm_has_1_Mm_hasElement : z_ok M_Mm_has_1 M_Mm_hasElement 2 := ⟨z_mj9 (i := 33) rfl (by decide +kernel), rfl, ⟨by decide +kernel, by decide +kernel, by decide +kernel⟩, ⟨by decide, by decide⟩, z_mj1 (i := 14) rfl (by decide +kernel), rfl⟩
theorem d_Mm_has_1_26 : decode prog_14_method_84_code 26 = .ok (.iconst 1, 1) := zo_4 (zd_b zq_prog_14_method_84_code_0 26 rfl rfl rfl)
theorem d_Mm_has_1_27 : decode prog_14_method_84_code 27 = .ok (.goto 4, 3) := zo_167 (d := 0) (e := 4) (zd_b zq_prog_14_method_84_code_0 27 rfl rfl rfl) (zd_b zq_prog_14_method_84_code_0 28 rfl rfl rfl) (zd_b zq_prog_14_method_84_code_0 29 rfl rfl rfl) (by decide +kernel)
set_option maxHeartbeats 4000000 in
set_option maxRecDepth 100000 in
theorem Q_Mm_hasN {g : zG} {ad : Nat → Nat} {t : zTT} {u : zNN} {w : zW} (hI : IV g ad t u w) (k : Nat) (hk : k < u.1 5) (c : Int32) : zMB g M_Mm_has_1 [.ref (ad 52), .int (nI k), .int c] w (fun o w1 => (∃ v : Int32, o = .inl (some (.int v))) ∧ IV g ad t u w1) 0 0 := by
  obtain ⟨e_m, wf_m, k_m⟩ := hI.1.2 52 (by decide)
  obtain ⟨v_m_th, rfl⟩ := kd_52.mp k_m
  refine y_of (by decide) rfl (Nat.le_of_ble_eq_true rfl) (y_base (cs := [((ad 52), .inr (12, [.int v_m_th, .ref (ad 53), .int (nI ((t.1 52).2.2 0)), .ref (ad 54), .ref (ad 55), .ref (ad 56), .ref (ad 57), .ref (ad 58), .ref (ad 59), .ref (ad 60), .ref (ad 61), .int ((t.1 52).1 0), .int ((t.1 52).1 1), .int ((t.1 52).1 2), .int ((t.1 52).1 3), .int ((t.1 52).1 4), .int ((t.1 52).1 5), .ref (ad 62), .ref (ad 63), .ref (ad 64), .int ((t.1 52).1 6), .int ((t.1 52).1 7), .int ((t.1 52).1 8), .int ((t.1 52).1 9), .int ((t.1 52).1 10), .ref (ad 65), .ref (ad 66), .ref (ad 67), .ref (ad 68), .long ((t.1 52).2.1 0), .long ((t.1 52).2.1 1)]))]) (hI.1.I [52] _ rfl (by decide) (by decide) (List.forall_mem_cons.mpr ⟨wf_m, (fun _ h => nomatch h)⟩)) ?_)
  refine y_lvE (lv2 := [(0, .ref (ad 52)), (1, .int (nI k)), (2, .int c)]) rfl ?_
  refine y_aload_n d_Mm_has_1_0 rfl 0 rfl ?_
  refine y_iconst d_Mm_has_1_1 (v := 0) (by decide) ?_
  refine y_put fp_Mm_84 d_Mm_has_1_2 (fun h => nomatch h) rfl rfl (q0 := 0) rfl (Nat.le_of_ble_eq_true rfl) (cs' := [((ad 52), .inr (12, [.int 0, .ref (ad 53), .int (nI ((t.1 52).2.2 0)), .ref (ad 54), .ref (ad 55), .ref (ad 56), .ref (ad 57), .ref (ad 58), .ref (ad 59), .ref (ad 60), .ref (ad 61), .int ((t.1 52).1 0), .int ((t.1 52).1 1), .int ((t.1 52).1 2), .int ((t.1 52).1 3), .int ((t.1 52).1 4), .int ((t.1 52).1 5), .ref (ad 62), .ref (ad 63), .ref (ad 64), .int ((t.1 52).1 6), .int ((t.1 52).1 7), .int ((t.1 52).1 8), .int ((t.1 52).1 9), .int ((t.1 52).1 10), .ref (ad 65), .ref (ad 66), .ref (ad 67), .ref (ad 68), .long ((t.1 52).2.1 0), .long ((t.1 52).2.1 1)]))]) rfl ?_
  refine y_aload_n d_Mm_has_1_5 rfl 0 rfl ?_
  refine y_aload_n d_Mm_has_1_6 rfl 0 rfl ?_
  refine y_iload_n d_Mm_has_1_7 rfl 1 rfl ?_
  refine yw_callV (As := [.int (nI k)]) (rest := [.ref (ad 52)]) (q0 := 0) rfl rfl ln_Mm_301 w_im_Mm_noCasting w_se_Mm_noCasting ok_Mm_has_1_Mm_noCasting d_Mm_has_1_8 (fun wA hA => Q_noCasting0 (hI.gen (t2 := t) (is := [52]) (L2 := []) hA rfl ⟨kd_52.mpr ⟨_, rfl⟩, trivial⟩ (by decide) (by decide) (fun _ h => nomatch h) (fun _ h => nomatch h) (fun _ _ _ => rfl) (fun h => h) rfl) (nI k) ⟨k, hk, rfl⟩) rfl rfl (Nat.le_of_ble_eq_true rfl) (by omega) (by omega) (fun wA8 hA8 E wB8 hx => ?_) (fun wA8 hA8 v wB8 hx => ?_)
  · exact absurd hx.1 (by simp)
  · obtain ⟨e1, e2⟩ := hx
    cases e1
    refine yw_st (st2 := [.int 0, .ref (ad 52)]) rfl ?_
    subst e2
    refine y_go hA8 ?_
    refine y_iconst d_Mm_has_1_11 (v := 1) (by decide) ?_
    refine y_callV (As := [.int 0, .int 1]) (rest := []) (csC := [((ad 52), .inr (12, [.int 0, .ref (ad 53), .int (nI ((t.1 52).2.2 0)), .ref (ad 54), .ref (ad 55), .ref (ad 56), .ref (ad 57), .ref (ad 58), .ref (ad 59), .ref (ad 60), .ref (ad 61), .int ((t.1 52).1 0), .int ((t.1 52).1 1), .int ((t.1 52).1 2), .int ((t.1 52).1 3), .int ((t.1 52).1 4), .int ((t.1 52).1 5), .ref (ad 62), .ref (ad 63), .ref (ad 64), .int ((t.1 52).1 6), .int ((t.1 52).1 7), .int ((t.1 52).1 8), .int ((t.1 52).1 9), .int ((t.1 52).1 10), .ref (ad 65), .ref (ad 66), .ref (ad 67), .ref (ad 68), .long ((t.1 52).2.1 0), .long ((t.1 52).2.1 1)]))]) (is := [0]) (q0 := 0) rfl rfl ln_Mm_103 w_im_Mm_fails w_se_Mm_fails ok_Mm_has_1_Mm_fails d_Mm_has_1_12 (C_Mm_fails0 g (ad 52) (ad 53) (ad 54) (ad 55) (ad 56) (ad 57) (ad 58) (ad 59) (ad 60) (ad 61) (ad 62) (ad 63) (ad 64) (ad 65) (ad 66) (ad 67) (ad 68) 0 (nI ((t.1 52).2.2 0)) ((t.1 52).1 0) ((t.1 52).1 1) ((t.1 52).1 2) ((t.1 52).1 3) ((t.1 52).1 4) ((t.1 52).1 5) ((t.1 52).1 6) ((t.1 52).1 7) ((t.1 52).1 8) ((t.1 52).1 9) ((t.1 52).1 10) ((t.1 52).2.1 0) ((t.1 52).2.1 1) 1) rfl rfl (Nat.le_of_ble_eq_true rfl) rfl (by decide) (by omega) (by omega) (fun E cs1 hx => ?_) (fun v cs1 hx => ?_)
    · exact absurd hx.1 (by simp)
    · obtain ⟨e1, rfl⟩ := hx
      cases e1
      refine ⟨rfl, ?_⟩
      refine y_st (st2 := [.int 0]) rfl ?_
      refine y_cs (cs2 := [((ad 52), .inr (12, [.int 0, .ref (ad 53), .int (nI ((t.1 52).2.2 0)), .ref (ad 54), .ref (ad 55), .ref (ad 56), .ref (ad 57), .ref (ad 58), .ref (ad 59), .ref (ad 60), .ref (ad 61), .int ((t.1 52).1 0), .int ((t.1 52).1 1), .int ((t.1 52).1 2), .int ((t.1 52).1 3), .int ((t.1 52).1 4), .int ((t.1 52).1 5), .ref (ad 62), .ref (ad 63), .ref (ad 64), .int ((t.1 52).1 6), .int ((t.1 52).1 7), .int ((t.1 52).1 8), .int ((t.1 52).1 9), .int ((t.1 52).1 10), .ref (ad 65), .ref (ad 66), .ref (ad 67), .ref (ad 68), .long ((t.1 52).2.1 0), .long ((t.1 52).2.1 1)]))]) rfl ?_
      refine y_if_ne (tgt := 38) d_Mm_has_1_15 (by decide) (fun c_15 => ?_) (fun c_15 => ?_)
      · exact absurd c_15 (by decide)
      · refine y_aload_n d_Mm_has_1_18 rfl 0 rfl ?_
        refine y_iload_n d_Mm_has_1_19 rfl 2 rfl ?_
        refine y_callS (As := [.int c]) (rest := [.ref (ad 52)]) (csC := []) (is := []) ln_Mm_246 w_st_Mm_element ok_Mm_has_1_Mm_element d_Mm_has_1_20 (C_Mm_element g c) rfl rfl (Nat.le_of_ble_eq_true rfl) rfl (by decide) (by omega) (by omega) (fun E cs1 hx => ?_) (fun v cs1 hx => ?_)
        · exact absurd hx.1 (by simp)
        · obtain ⟨e1, rfl⟩ := hx
          cases e1
          refine ⟨rfl, ?_⟩
          refine y_st (st2 := [.int (z_ix 2 c), .ref (ad 52)]) rfl ?_
          refine y_cs (cs2 := [((ad 52), .inr (12, [.int 0, .ref (ad 53), .int (nI ((t.1 52).2.2 0)), .ref (ad 54), .ref (ad 55), .ref (ad 56), .ref (ad 57), .ref (ad 58), .ref (ad 59), .ref (ad 60), .ref (ad 61), .int ((t.1 52).1 0), .int ((t.1 52).1 1), .int ((t.1 52).1 2), .int ((t.1 52).1 3), .int ((t.1 52).1 4), .int ((t.1 52).1 5), .ref (ad 62), .ref (ad 63), .ref (ad 64), .int ((t.1 52).1 6), .int ((t.1 52).1 7), .int ((t.1 52).1 8), .int ((t.1 52).1 9), .int ((t.1 52).1 10), .ref (ad 65), .ref (ad 66), .ref (ad 67), .ref (ad 68), .long ((t.1 52).2.1 0), .long ((t.1 52).2.1 1)]))]) rfl ?_
          refine y_if_ge (tgt := 30) d_Mm_has_1_23 (by decide) (fun c_23 => ?_) (fun c_23 => ?_)
          · obtain ⟨e9, he9, he2⟩ := z_ix2 (Int32.not_lt.mpr c_23)
            refine y_iconst d_Mm_has_1_30 (v := 0) (by decide) ?_
            refine y_iconst d_Mm_has_1_31 (v := 2) (by decide) ?_
            refine y_callV (As := [.int 0, .int 2]) (rest := []) (csC := [((ad 52), .inr (12, [.int 0, .ref (ad 53), .int (nI ((t.1 52).2.2 0)), .ref (ad 54), .ref (ad 55), .ref (ad 56), .ref (ad 57), .ref (ad 58), .ref (ad 59), .ref (ad 60), .ref (ad 61), .int ((t.1 52).1 0), .int ((t.1 52).1 1), .int ((t.1 52).1 2), .int ((t.1 52).1 3), .int ((t.1 52).1 4), .int ((t.1 52).1 5), .ref (ad 62), .ref (ad 63), .ref (ad 64), .int ((t.1 52).1 6), .int ((t.1 52).1 7), .int ((t.1 52).1 8), .int ((t.1 52).1 9), .int ((t.1 52).1 10), .ref (ad 65), .ref (ad 66), .ref (ad 67), .ref (ad 68), .long ((t.1 52).2.1 0), .long ((t.1 52).2.1 1)]))]) (is := [0]) (q0 := 0) rfl rfl ln_Mm_103 w_im_Mm_fails w_se_Mm_fails ok_Mm_has_1_Mm_fails d_Mm_has_1_32 (C_Mm_fails0 g (ad 52) (ad 53) (ad 54) (ad 55) (ad 56) (ad 57) (ad 58) (ad 59) (ad 60) (ad 61) (ad 62) (ad 63) (ad 64) (ad 65) (ad 66) (ad 67) (ad 68) 0 (nI ((t.1 52).2.2 0)) ((t.1 52).1 0) ((t.1 52).1 1) ((t.1 52).1 2) ((t.1 52).1 3) ((t.1 52).1 4) ((t.1 52).1 5) ((t.1 52).1 6) ((t.1 52).1 7) ((t.1 52).1 8) ((t.1 52).1 9) ((t.1 52).1 10) ((t.1 52).2.1 0) ((t.1 52).2.1 1) 2) rfl rfl (Nat.le_of_ble_eq_true rfl) rfl (by decide) (by omega) (by omega) (fun E cs1 hx => ?_) (fun v cs1 hx => ?_)
            · exact absurd hx.1 (by simp)
            · obtain ⟨e1, rfl⟩ := hx
              cases e1
              refine ⟨rfl, ?_⟩
              refine y_st (st2 := [.int 0]) rfl ?_
              refine y_cs (cs2 := [((ad 52), .inr (12, [.int 0, .ref (ad 53), .int (nI ((t.1 52).2.2 0)), .ref (ad 54), .ref (ad 55), .ref (ad 56), .ref (ad 57), .ref (ad 58), .ref (ad 59), .ref (ad 60), .ref (ad 61), .int ((t.1 52).1 0), .int ((t.1 52).1 1), .int ((t.1 52).1 2), .int ((t.1 52).1 3), .int ((t.1 52).1 4), .int ((t.1 52).1 5), .ref (ad 62), .ref (ad 63), .ref (ad 64), .int ((t.1 52).1 6), .int ((t.1 52).1 7), .int ((t.1 52).1 8), .int ((t.1 52).1 9), .int ((t.1 52).1 10), .ref (ad 65), .ref (ad 66), .ref (ad 67), .ref (ad 68), .long ((t.1 52).2.1 0), .long ((t.1 52).2.1 1)]))]) rfl ?_
              refine y_if_eq (tgt := 42) d_Mm_has_1_35 (by decide) (fun c_35 => ?_) (fun c_35 => ?_)
              · refine y_aload_n d_Mm_has_1_42 rfl 0 rfl ?_
                refine y_iload_n d_Mm_has_1_43 rfl 1 rfl ?_
                refine y_iload_n d_Mm_has_1_44 rfl 2 rfl ?_
                refine y_callS (As := [.int c]) (rest := [.int (nI k), .ref (ad 52)]) (csC := []) (is := []) ln_Mm_246 w_st_Mm_element ok_Mm_has_1_Mm_element d_Mm_has_1_45 (C_Mm_element g c) rfl rfl (Nat.le_of_ble_eq_true rfl) rfl (by decide) (by omega) (by omega) (fun E cs1 hx => ?_) (fun v cs1 hx => ?_)
                · exact absurd hx.1 (by simp)
                · obtain ⟨e1, rfl⟩ := hx
                  rw [he2] at e1
                  cases e1
                  refine ⟨rfl, ?_⟩
                  refine y_st (st2 := [.int (nI e9), .int (nI k), .ref (ad 52)]) rfl ?_
                  refine y_cs (cs2 := [((ad 52), .inr (12, [.int 0, .ref (ad 53), .int (nI ((t.1 52).2.2 0)), .ref (ad 54), .ref (ad 55), .ref (ad 56), .ref (ad 57), .ref (ad 58), .ref (ad 59), .ref (ad 60), .ref (ad 61), .int ((t.1 52).1 0), .int ((t.1 52).1 1), .int ((t.1 52).1 2), .int ((t.1 52).1 3), .int ((t.1 52).1 4), .int ((t.1 52).1 5), .ref (ad 62), .ref (ad 63), .ref (ad 64), .int ((t.1 52).1 6), .int ((t.1 52).1 7), .int ((t.1 52).1 8), .int ((t.1 52).1 9), .int ((t.1 52).1 10), .ref (ad 65), .ref (ad 66), .ref (ad 67), .ref (ad 68), .long ((t.1 52).2.1 0), .long ((t.1 52).2.1 1)]))]) rfl ?_
                  refine yw_callV (As := [.int (nI k), .int (nI e9)]) (rest := []) (q0 := 0) rfl rfl ln_Mm_305 w_im_Mm_hasElement w_se_Mm_hasElement ok_Mm_has_1_Mm_hasElement d_Mm_has_1_48 (fun wA hA => Q_hasElement (hI.gen (t2 := t) (is := [52]) (L2 := []) hA rfl ⟨kd_52.mpr ⟨_, rfl⟩, trivial⟩ (by decide) (by decide) (fun _ h => nomatch h) (fun _ h => nomatch h) (fun _ _ _ => rfl) (fun h => h) rfl) k e9 hk he9) rfl rfl (Nat.le_of_ble_eq_true rfl) (by omega) (by omega) (fun wA48 hA48 E wB48 hx => ?_) (fun wA48 hA48 v wB48 hx => ?_)
                  · exact absurd hx.1 (by simp)
                  · obtain ⟨⟨v9, e1⟩, e2⟩ := hx
                    cases e1
                    refine yw_st (st2 := [.int v9]) rfl ?_
                    subst e2
                    refine y_go hA48 ?_
                    refine y_iret d_Mm_has_1_51 rfl rfl ?_
                    exact fun w1 h1 => ⟨⟨_, rfl⟩, (hI.gen (t2 := t) (is := [52]) (L2 := []) h1 rfl ⟨kd_52.mpr ⟨_, rfl⟩, trivial⟩ (by decide) (by decide) (fun _ h => nomatch h) (fun _ h => nomatch h) (fun _ _ _ => rfl) (fun h => h) rfl)⟩
              · exact absurd c_35 (by decide)
          · refine y_iconst d_Mm_has_1_26 (v := 1) (by decide) ?_
            refine y_goto (tgt := 31) d_Mm_has_1_27 (by decide) ?_
            refine y_iconst d_Mm_has_1_31 (v := 2) (by decide) ?_
            refine y_callV (As := [.int 1, .int 2]) (rest := []) (csC := [((ad 52), .inr (12, [.int 0, .ref (ad 53), .int (nI ((t.1 52).2.2 0)), .ref (ad 54), .ref (ad 55), .ref (ad 56), .ref (ad 57), .ref (ad 58), .ref (ad 59), .ref (ad 60), .ref (ad 61), .int ((t.1 52).1 0), .int ((t.1 52).1 1), .int ((t.1 52).1 2), .int ((t.1 52).1 3), .int ((t.1 52).1 4), .int ((t.1 52).1 5), .ref (ad 62), .ref (ad 63), .ref (ad 64), .int ((t.1 52).1 6), .int ((t.1 52).1 7), .int ((t.1 52).1 8), .int ((t.1 52).1 9), .int ((t.1 52).1 10), .ref (ad 65), .ref (ad 66), .ref (ad 67), .ref (ad 68), .long ((t.1 52).2.1 0), .long ((t.1 52).2.1 1)]))]) (is := [0]) (q0 := 0) rfl rfl ln_Mm_103 w_im_Mm_fails w_se_Mm_fails ok_Mm_has_1_Mm_fails d_Mm_has_1_32 (C_Mm_fails2 g (ad 52) (ad 53) (ad 54) (ad 55) (ad 56) (ad 57) (ad 58) (ad 59) (ad 60) (ad 61) (ad 62) (ad 63) (ad 64) (ad 65) (ad 66) (ad 67) (ad 68) 0 (nI ((t.1 52).2.2 0)) ((t.1 52).1 0) ((t.1 52).1 1) ((t.1 52).1 2) ((t.1 52).1 3) ((t.1 52).1 4) ((t.1 52).1 5) ((t.1 52).1 6) ((t.1 52).1 7) ((t.1 52).1 8) ((t.1 52).1 9) ((t.1 52).1 10) ((t.1 52).2.1 0) ((t.1 52).2.1 1)) rfl rfl (Nat.le_of_ble_eq_true rfl) rfl (by decide) (by omega) (by omega) (fun E cs1 hx => ?_) (fun v cs1 hx => ?_)
            · exact absurd hx.1 (by simp)
            · obtain ⟨e1, rfl⟩ := hx
              cases e1
              refine ⟨rfl, ?_⟩
              refine y_st (st2 := [.int 1]) rfl ?_
              refine y_cs (cs2 := [((ad 52), .inr (12, [.int 2, .ref (ad 53), .int (nI ((t.1 52).2.2 0)), .ref (ad 54), .ref (ad 55), .ref (ad 56), .ref (ad 57), .ref (ad 58), .ref (ad 59), .ref (ad 60), .ref (ad 61), .int ((t.1 52).1 0), .int ((t.1 52).1 1), .int ((t.1 52).1 2), .int ((t.1 52).1 3), .int ((t.1 52).1 4), .int ((t.1 52).1 5), .ref (ad 62), .ref (ad 63), .ref (ad 64), .int ((t.1 52).1 6), .int ((t.1 52).1 7), .int ((t.1 52).1 8), .int ((t.1 52).1 9), .int ((t.1 52).1 10), .ref (ad 65), .ref (ad 66), .ref (ad 67), .ref (ad 68), .long ((t.1 52).2.1 0), .long ((t.1 52).2.1 1)]))]) rfl ?_
              refine y_if_eq (tgt := 42) d_Mm_has_1_35 (by decide) (fun c_35 => ?_) (fun c_35 => ?_)
              · exact absurd c_35 (by decide)
              · refine y_iconst d_Mm_has_1_38 (v := 0) (by decide) ?_
                refine y_goto (tgt := 51) d_Mm_has_1_39 (by decide) ?_
                refine y_iret d_Mm_has_1_51 rfl rfl ?_
                exact fun w1 h1 => ⟨⟨_, rfl⟩, (hI.gen (t2 := t) (is := [52]) (L2 := []) h1 rfl ⟨kd_52.mpr ⟨_, rfl⟩, trivial⟩ (by decide) (by decide) (fun _ h => nomatch h) (fun _ h => nomatch h) (fun _ _ _ => rfl) (fun h => h) rfl)⟩
set_option maxHeartbeats 4000000 in
set_option maxRecDepth 100000 in
theorem Q_Mm_castings {g : zG} {ad : Nat → Nat} {t : zTT} {u : zNN} {w : zW} (hI : IV g ad t u w) : zMB g M_Mm_castings [.ref (ad 52)] w (fun o w1 => (∃ v : Int32, o = .inl (some (.int v))) ∧ IV g ad t u w1) 0 0 := by
  obtain ⟨e_m, wf_m, k_m⟩ := hI.1.2 52 (by decide)
  obtain ⟨v_m_th, rfl⟩ := kd_52.mp k_m
  refine y_of (by decide) rfl (Nat.le_of_ble_eq_true rfl) (y_base (cs := [((ad 52), .inr (12, [.int v_m_th, .ref (ad 53), .int (nI ((t.1 52).2.2 0)), .ref (ad 54), .ref (ad 55), .ref (ad 56), .ref (ad 57), .ref (ad 58), .ref (ad 59), .ref (ad 60), .ref (ad 61), .int ((t.1 52).1 0), .int ((t.1 52).1 1), .int ((t.1 52).1 2), .int ((t.1 52).1 3), .int ((t.1 52).1 4), .int ((t.1 52).1 5), .ref (ad 62), .ref (ad 63), .ref (ad 64), .int ((t.1 52).1 6), .int ((t.1 52).1 7), .int ((t.1 52).1 8), .int ((t.1 52).1 9), .int ((t.1 52).1 10), .ref (ad 65), .ref (ad 66), .ref (ad 67), .ref (ad 68), .long ((t.1 52).2.1 0), .long ((t.1 52).2.1 1)]))]) (hI.1.I [52] _ rfl (by decide) (by decide) (List.forall_mem_cons.mpr ⟨wf_m, (fun _ h => nomatch h)⟩)) ?_)
  refine y_lvE (lv2 := [(0, .ref (ad 52))]) rfl ?_
  refine y_aload_n d_Mm_castings_0 rfl 0 rfl ?_
  refine y_iconst d_Mm_castings_1 (v := 0) (by decide) ?_
  refine y_put fp_Mm_84 d_Mm_castings_2 (fun h => nomatch h) rfl rfl (q0 := 0) rfl (Nat.le_of_ble_eq_true rfl) (cs' := [((ad 52), .inr (12, [.int 0, .ref (ad 53), .int (nI ((t.1 52).2.2 0)), .ref (ad 54), .ref (ad 55), .ref (ad 56), .ref (ad 57), .ref (ad 58), .ref (ad 59), .ref (ad 60), .ref (ad 61), .int ((t.1 52).1 0), .int ((t.1 52).1 1), .int ((t.1 52).1 2), .int ((t.1 52).1 3), .int ((t.1 52).1 4), .int ((t.1 52).1 5), .ref (ad 62), .ref (ad 63), .ref (ad 64), .int ((t.1 52).1 6), .int ((t.1 52).1 7), .int ((t.1 52).1 8), .int ((t.1 52).1 9), .int ((t.1 52).1 10), .ref (ad 65), .ref (ad 66), .ref (ad 67), .ref (ad 68), .long ((t.1 52).2.1 0), .long ((t.1 52).2.1 1)]))]) rfl ?_
  refine y_aload_n d_Mm_castings_5 rfl 0 rfl ?_
  refine y_get fs_Mm_78 d_Mm_castings_6 (q0 := 0) rfl rfl ?_
  refine yw_callVL (As := []) (rest := []) (ci := 13) rfl (fun wA hA => ((hI.gen (t2 := t) (is := [52]) (L2 := []) hA rfl ⟨kd_52.mpr ⟨_, rfl⟩, trivial⟩ (by decide) (by decide) (fun _ h => nomatch h) (fun _ h => nomatch h) (fun _ _ _ => rfl) (fun h => h) rfl).2.1.1 5 (by decide)).ob) ln_Mm_208 w_im_AL_size w_se_AL_size ok_Mm_castings_AL_size d_Mm_castings_9 (fun wA hA => Q_size ((hI.gen (t2 := t) (is := [52]) (L2 := []) hA rfl ⟨kd_52.mpr ⟨_, rfl⟩, trivial⟩ (by decide) (by decide) (fun _ h => nomatch h) (fun _ h => nomatch h) (fun _ _ _ => rfl) (fun h => h) rfl).2.1.1 5 (by decide))) rfl rfl (Nat.le_of_ble_eq_true rfl) (by omega) (by omega) (fun wA9 hA9 E wB9 hx => ?_) (fun wA9 hA9 v wB9 hx => ?_)
  · exact absurd hx.1 (by simp)
  · obtain ⟨e1, e2⟩ := hx
    cases e1
    refine yw_st (st2 := [.int (nI (u.1 5))]) rfl ?_
    subst e2
    refine y_go hA9 ?_
    refine y_iret d_Mm_castings_12 rfl rfl ?_
    exact fun w1 h1 => ⟨⟨_, rfl⟩, (hI.gen (t2 := t) (is := [52]) (L2 := []) h1 rfl ⟨kd_52.mpr ⟨_, rfl⟩, trivial⟩ (by decide) (by decide) (fun _ h => nomatch h) (fun _ h => nomatch h) (fun _ _ _ => rfl) (fun h => h) rfl)⟩
theorem d_Mm_with_15 : decode prog_14_method_90_code 15 = .ok (.iload_n 2, 1) := zo_28 (zd_b zq_prog_14_method_90_code_0 15 rfl rfl rfl)
theorem d_Mm_with_16 : decode prog_14_method_90_code 16 = .ok (.aload_n 0, 1) := zo_42 (zd_b zq_prog_14_method_90_code_0 16 rfl rfl rfl)
theorem d_Mm_with_17 : decode prog_14_method_90_code 17 = .ok (.getfield 78, 3) := zo_180 (d := 0) (e := 78) (zd_b zq_prog_14_method_90_code_0 17 rfl rfl rfl) (zd_b zq_prog_14_method_90_code_0 18 rfl rfl rfl) (zd_b zq_prog_14_method_90_code_0 19 rfl rfl rfl)
theorem d_Mm_with_20 : decode prog_14_method_90_code 20 = .ok (.iload_n 3, 1) := zo_29 (zd_b zq_prog_14_method_90_code_0 20 rfl rfl rfl)
theorem d_Mm_with_21 : decode prog_14_method_90_code 21 = .ok (.invokevirtual 211, 3) := zo_182 (d := 0) (e := 211) (zd_b zq_prog_14_method_90_code_0 21 rfl rfl rfl) (zd_b zq_prog_14_method_90_code_0 22 rfl rfl rfl) (zd_b zq_prog_14_method_90_code_0 23 rfl rfl rfl)
theorem ok_Mm_with_AL_get : z_ok M_Mm_with M_AL_get 1 := ⟨z_mj2 (i := 180) rfl (by decide +kernel), rfl, ⟨by decide +kernel, by decide +kernel, by decide +kernel⟩, ⟨by decide, by decide⟩, z_mj1 (i := 13) rfl (by decide +kernel), rfl⟩
theorem d_Mm_with_24 : decode prog_14_method_90_code 24 = .ok (.checkcast 215, 3) := zo_192 (d := 0) (e := 215) (zd_b zq_prog_14_method_90_code_0 24 rfl rfl rfl) (zd_b zq_prog_14_method_90_code_0 25 rfl rfl rfl) (zd_b zq_prog_14_method_90_code_0 26 rfl rfl rfl)
theorem d_Mm_with_27 : decode prog_14_method_90_code 27 = .ok (.iconst 2, 1) := zo_5 (zd_b zq_prog_14_method_90_code_0 27 rfl rfl rfl)
theorem d_Mm_with_28 : decode prog_14_method_90_code 28 = .ok (.iaload, 1) := zo_46 (zd_b zq_prog_14_method_90_code_0 28 rfl rfl rfl)
theorem d_Mm_with_29 : decode prog_14_method_90_code 29 = .ok (.iload_n 1, 1) := zo_27 (zd_b zq_prog_14_method_90_code_0 29 rfl rfl rfl)
theorem d_Mm_with_30 : decode prog_14_method_90_code 30 = .ok (.iand, 1) := zo_126 (zd_b zq_prog_14_method_90_code_0 30 rfl rfl rfl)
theorem d_Mm_with_31 : decode prog_14_method_90_code 31 = .ok (.ifCond .eq 7, 3) := zo_153 (d := 0) (e := 7) (zd_b zq_prog_14_method_90_code_0 31 rfl rfl rfl) (zd_b zq_prog_14_method_90_code_1 0 rfl rfl rfl) (zd_b zq_prog_14_method_90_code_1 1 rfl rfl rfl) (by decide +kernel)
theorem d_Mm_with_38 : decode prog_14_method_90_code 38 = .ok (.iconst 0, 1) := zo_3 (zd_b zq_prog_14_method_90_code_1 6 rfl rfl rfl)
theorem d_Mm_with_39 : decode prog_14_method_90_code 39 = .ok (.iadd, 1) := zo_96 (zd_b zq_prog_14_method_90_code_1 7 rfl rfl rfl)
theorem d_Mm_with_40 : decode prog_14_method_90_code 40 = .ok (.istore_n 2, 1) := zo_61 (zd_b zq_prog_14_method_90_code_1 8 rfl rfl rfl)
theorem d_Mm_with_41 : decode prog_14_method_90_code 41 = .ok (.iinc 3 1, 3) := by decide +kernel
theorem d_Mm_with_44 : decode prog_14_method_90_code 44 = .ok (.goto (-40), 3) := zo_167 (d := 255) (e := 216) (zd_b zq_prog_14_method_90_code_1 12 rfl rfl rfl) (zd_b zq_prog_14_method_90_code_1 13 rfl rfl rfl) (zd_b zq_prog_14_method_90_code_1 14 rfl rfl rfl) (by decide +kernel)
theorem d_Mm_with_34 : decode prog_14_method_90_code 34 = .ok (.iconst 1, 1) := zo_4 (zd_b zq_prog_14_method_90_code_1 2 rfl rfl rfl)
theorem d_Mm_with_35 : decode prog_14_method_90_code 35 = .ok (.goto 4, 3) := zo_167 (d := 0) (e := 4) (zd_b zq_prog_14_method_90_code_1 3 rfl rfl rfl) (zd_b zq_prog_14_method_90_code_1 4 rfl rfl rfl) (zd_b zq_prog_14_method_90_code_1 5 rfl rfl rfl) (by decide +kernel)
set_option maxHeartbeats 4000000 in
set_option maxRecDepth 100000 in
theorem L_Q_with_4 (g : zG) {ad : Nat → Nat} {t : zTT} {u : zNN} {w : zW} (hI : IV g ad t u w) (x : Int32) : ∀ (d i : Nat) (s9 : Int32), i ≤ u.1 5 → u.1 5 < i + d → DW g M_Mm_with (fun o w1 => (∃ v : Int32, o = .inl (some (.int v))) ∧ w1 = w) w 4 [(3, .int (nI i)), (2, .int s9), (0, .ref (ad 52)), (1, .int x)] [] 0 0 := by
  intro d
  induction d with
  | zero => intro i s9 h1 h2 ; exact absurd h2 (by omega)
  | succ d ih =>
    intro i s9 h1 h2 
    obtain ⟨e_m, wf_m, k_m⟩ := hI.1.2 52 (by decide)
    obtain ⟨v_m_th, rfl⟩ := kd_52.mp k_m
    have h33 := hI.n5 5 (by decide)
    have hJ := hI.1.I [52] [((ad 52), .inr (12, [.int v_m_th, .ref (ad 53), .int (nI ((t.1 52).2.2 0)), .ref (ad 54), .ref (ad 55), .ref (ad 56), .ref (ad 57), .ref (ad 58), .ref (ad 59), .ref (ad 60), .ref (ad 61), .int ((t.1 52).1 0), .int ((t.1 52).1 1), .int ((t.1 52).1 2), .int ((t.1 52).1 3), .int ((t.1 52).1 4), .int ((t.1 52).1 5), .ref (ad 62), .ref (ad 63), .ref (ad 64), .int ((t.1 52).1 6), .int ((t.1 52).1 7), .int ((t.1 52).1 8), .int ((t.1 52).1 9), .int ((t.1 52).1 10), .ref (ad 65), .ref (ad 66), .ref (ad 67), .ref (ad 68), .long ((t.1 52).2.1 0), .long ((t.1 52).2.1 1)]))] rfl (by decide) (by decide) (List.forall_mem_cons.mpr ⟨wf_m, (fun _ h => nomatch h)⟩)
    refine y_base hJ ?_
    refine y_iload_n d_Mm_with_4 rfl 0 rfl ?_
    refine y_aload_n d_Mm_with_5 rfl 2 rfl ?_
    refine y_get fs_Mm_78 d_Mm_with_6 (q0 := 0) rfl rfl ?_
    refine yw_callVL (As := []) (rest := [.int (nI i)]) (ci := 13) rfl (fun wA hA => ((hI.gen (t2 := t) (is := [52]) (L2 := []) hA rfl ⟨kd_52.mpr ⟨_, rfl⟩, trivial⟩ (by decide) (by decide) (fun _ h => nomatch h) (fun _ h => nomatch h) (fun _ _ _ => rfl) (fun h => h) rfl).2.1.1 5 (by decide)).ob) ln_Mm_208 w_im_AL_size w_se_AL_size ok_Mm_with_AL_size d_Mm_with_9 (fun wA hA => Q_size ((hI.gen (t2 := t) (is := [52]) (L2 := []) hA rfl ⟨kd_52.mpr ⟨_, rfl⟩, trivial⟩ (by decide) (by decide) (fun _ h => nomatch h) (fun _ h => nomatch h) (fun _ _ _ => rfl) (fun h => h) rfl).2.1.1 5 (by decide))) rfl rfl (Nat.le_of_ble_eq_true rfl) (by omega) (by omega) (fun wA9 hA9 E wB9 hx => ?_) (fun wA9 hA9 v wB9 hx => ?_)
    · exact absurd hx.1 (by simp)
    · obtain ⟨e1, e2⟩ := hx
      cases e1
      refine yw_st (st2 := [.int (nI (u.1 5)), .int (nI i)]) rfl ?_
      subst e2
      refine y_go hA9 ?_
      refine y_icmp_ge (tgt := 47) d_Mm_with_12 (by decide) (fun c_12 => ?_) (fun c_12 => ?_)
      · have hn := z_le (a := (u.1 5)) (b := i) (by omega) (by omega) c_12
        refine y_iload_n d_Mm_with_47 rfl 1 rfl ?_
        refine y_iret d_Mm_with_48 rfl rfl ?_
        exact fun w1 h1 => ⟨⟨_, rfl⟩, z_I.same hJ h1⟩
      · have hn := z_nle (a := (u.1 5)) (b := i) (by omega) (by omega) c_12
        refine y_iload_n d_Mm_with_15 rfl 1 rfl ?_
        refine y_aload_n d_Mm_with_16 rfl 2 rfl ?_
        refine y_get fs_Mm_78 d_Mm_with_17 (q0 := 0) rfl rfl ?_
        refine y_iload_n d_Mm_with_20 rfl 0 rfl ?_
        refine yw_callVL (As := [.int (nI i)]) (rest := [.int s9]) (ci := 13) rfl (fun wA hA => ((hI.gen (t2 := t) (is := [52]) (L2 := []) hA rfl ⟨kd_52.mpr ⟨_, rfl⟩, trivial⟩ (by decide) (by decide) (fun _ h => nomatch h) (fun _ h => nomatch h) (fun _ _ _ => rfl) (fun h => h) rfl).2.1.1 5 (by decide)).ob) ln_Mm_211 w_im_AL_get w_se_AL_get ok_Mm_with_AL_get d_Mm_with_21 (fun wA hA => Q_get ((hI.gen (t2 := t) (is := [52]) (L2 := []) hA rfl ⟨kd_52.mpr ⟨_, rfl⟩, trivial⟩ (by decide) (by decide) (fun _ h => nomatch h) (fun _ h => nomatch h) (fun _ _ _ => rfl) (fun h => h) rfl).2.1.1 5 (by decide)) hn) rfl rfl (Nat.le_of_ble_eq_true rfl) (by omega) (by omega) (fun wA21 hA21 E wB21 hx => ?_) (fun wA21 hA21 v wB21 hx => ?_)
        · exact absurd hx.1 (by simp)
        · obtain ⟨e1, e2⟩ := hx
          cases e1
          refine yw_st (st2 := [.ref (u.2.2 5 i), .int s9]) rfl ?_
          subst e2
          refine y_go hA21 ?_
          refine y_end (fun wC1 hC1 => ?_)
          obtain rfl := z_I.same hJ hC1
          obtain ⟨nf_c, hw_c, h0_c⟩ := hI.2.1.2.1 5 (by decide) i hn
          have hJ := z_I.kd (cs := [((ad 52), .inr (12, [.int v_m_th, .ref (ad 53), .int (nI ((t.1 52).2.2 0)), .ref (ad 54), .ref (ad 55), .ref (ad 56), .ref (ad 57), .ref (ad 58), .ref (ad 59), .ref (ad 60), .ref (ad 61), .int ((t.1 52).1 0), .int ((t.1 52).1 1), .int ((t.1 52).1 2), .int ((t.1 52).1 3), .int ((t.1 52).1 4), .int ((t.1 52).1 5), .ref (ad 62), .ref (ad 63), .ref (ad 64), .int ((t.1 52).1 6), .int ((t.1 52).1 7), .int ((t.1 52).1 8), .int ((t.1 52).1 9), .int ((t.1 52).1 10), .ref (ad 65), .ref (ad 66), .ref (ad 67), .ref (ad 68), .long ((t.1 52).2.1 0), .long ((t.1 52).2.1 1)])), ((u.2.2 5 i), .inl (0, 6, .inl ((t.2 5 i).2.1)))]) (List.forall_mem_cons.mpr ⟨wf_m, (List.forall_mem_cons.mpr ⟨hw_c, (fun _ h => nomatch h)⟩)⟩) (by simp [z_kd])
          refine y_base hJ ?_
          refine y_castA (t := 0) (by decide) lk_Mm_215 d_Mm_with_24 (q0 := 1) rfl ?_
          refine y_iconst d_Mm_with_27 (v := 2) (by decide) ?_
          refine y_iald d_Mm_with_28 (q0 := 1) rfl (fun q => q.elim (by decide) (by decide)) (v := ((t.2 5 i).2.1) 2) rfl ?_
          refine y_iload_n d_Mm_with_29 rfl 3 rfl ?_
          refine y_iand d_Mm_with_30 (v := (((t.2 5 i).2.1) 2) &&& x) rfl ?_
          refine y_if_eq (tgt := 38) d_Mm_with_31 (by decide) (fun c_31 => ?_) (fun c_31 => ?_)
          · refine y_iconst d_Mm_with_38 (v := 0) (by decide) ?_
            refine y_iadd d_Mm_with_39 (v := s9 + 0) rfl ?_
            refine y_istore_n (lv' := [(2, .int (s9 + 0)), (3, .int (nI i)), (0, .ref (ad 52)), (1, .int x)]) d_Mm_with_40 rfl (by decide) rfl ?_
            refine y_iinc (lv' := [(3, .int (nI (i + 1))), (2, .int (s9 + 0)), (0, .ref (ad 52)), (1, .int x)]) (v := nI (i + 1)) d_Mm_with_41 (j := 1) rfl (nI_add _ _) (by decide) rfl ?_
            refine y_goto (tgt := 4) d_Mm_with_44 (by decide) ?_
            refine y_end (fun wC2 hC2 => ?_)
            obtain rfl := z_I.same hJ hC2
            exact ih (i + 1) _ (by omega) (by omega) 
          · refine y_iconst d_Mm_with_34 (v := 1) (by decide) ?_
            refine y_goto (tgt := 39) d_Mm_with_35 (by decide) ?_
            refine y_iadd d_Mm_with_39 (v := s9 + 1) rfl ?_
            refine y_istore_n (lv' := [(2, .int (s9 + 1)), (3, .int (nI i)), (0, .ref (ad 52)), (1, .int x)]) d_Mm_with_40 rfl (by decide) rfl ?_
            refine y_iinc (lv' := [(3, .int (nI (i + 1))), (2, .int (s9 + 1)), (0, .ref (ad 52)), (1, .int x)]) (v := nI (i + 1)) d_Mm_with_41 (j := 1) rfl (nI_add _ _) (by decide) rfl ?_
            refine y_goto (tgt := 4) d_Mm_with_44 (by decide) ?_
            refine y_end (fun wC3 hC3 => ?_)
            obtain rfl := z_I.same hJ hC3
            exact ih (i + 1) _ (by omega) (by omega) 
set_option maxHeartbeats 4000000 in
set_option maxRecDepth 100000 in
theorem Q_with {g : zG} {ad : Nat → Nat} {t : zTT} {u : zNN} {w : zW} (hI : IV g ad t u w) (x : Int32) : zMB g M_Mm_with [.ref (ad 52), .int x] w (fun o w1 => (∃ v : Int32, o = .inl (some (.int v))) ∧ w1 = w) 0 0 := by
  obtain ⟨e_m, wf_m, k_m⟩ := hI.1.2 52 (by decide)
  obtain ⟨v_m_th, rfl⟩ := kd_52.mp k_m
  have hJ := hI.1.I [52] [((ad 52), .inr (12, [.int v_m_th, .ref (ad 53), .int (nI ((t.1 52).2.2 0)), .ref (ad 54), .ref (ad 55), .ref (ad 56), .ref (ad 57), .ref (ad 58), .ref (ad 59), .ref (ad 60), .ref (ad 61), .int ((t.1 52).1 0), .int ((t.1 52).1 1), .int ((t.1 52).1 2), .int ((t.1 52).1 3), .int ((t.1 52).1 4), .int ((t.1 52).1 5), .ref (ad 62), .ref (ad 63), .ref (ad 64), .int ((t.1 52).1 6), .int ((t.1 52).1 7), .int ((t.1 52).1 8), .int ((t.1 52).1 9), .int ((t.1 52).1 10), .ref (ad 65), .ref (ad 66), .ref (ad 67), .ref (ad 68), .long ((t.1 52).2.1 0), .long ((t.1 52).2.1 1)]))] rfl (by decide) (by decide) (List.forall_mem_cons.mpr ⟨wf_m, (fun _ h => nomatch h)⟩)
  refine y_of (by decide) rfl (Nat.le_of_ble_eq_true rfl) (y_base (cs := [((ad 52), .inr (12, [.int v_m_th, .ref (ad 53), .int (nI ((t.1 52).2.2 0)), .ref (ad 54), .ref (ad 55), .ref (ad 56), .ref (ad 57), .ref (ad 58), .ref (ad 59), .ref (ad 60), .ref (ad 61), .int ((t.1 52).1 0), .int ((t.1 52).1 1), .int ((t.1 52).1 2), .int ((t.1 52).1 3), .int ((t.1 52).1 4), .int ((t.1 52).1 5), .ref (ad 62), .ref (ad 63), .ref (ad 64), .int ((t.1 52).1 6), .int ((t.1 52).1 7), .int ((t.1 52).1 8), .int ((t.1 52).1 9), .int ((t.1 52).1 10), .ref (ad 65), .ref (ad 66), .ref (ad 67), .ref (ad 68), .long ((t.1 52).2.1 0), .long ((t.1 52).2.1 1)]))]) hJ ?_)
  refine y_lvE (lv2 := [(0, .ref (ad 52)), (1, .int x)]) rfl ?_
  refine y_iconst d_Mm_with_0 (v := 0) (by decide) ?_
  refine y_istore_n (lv' := [(2, .int 0), (0, .ref (ad 52)), (1, .int x)]) d_Mm_with_1 rfl (by decide) rfl ?_
  refine y_iconst d_Mm_with_2 (v := 0) (by decide) ?_
  refine y_istore_n (lv' := [(3, .int 0), (2, .int 0), (0, .ref (ad 52)), (1, .int x)]) d_Mm_with_3 rfl (by decide) rfl ?_
  refine y_end (fun wC4 hC4 => ?_)
  obtain rfl := z_I.same hJ hC4
  exact L_Q_with_4 g hI x (u.1 5 + 1) 0 0 (Nat.zero_le _) (by omega) 
set_option maxHeartbeats 4000000 in
set_option maxRecDepth 100000 in
theorem L_Q_inStore_4 (g : zG) {ad : Nat → Nat} {t : zTT} {u : zNN} {w : zW} (hI : IV g ad t u w) : ∀ (d i : Nat) (s9 : Int32), i ≤ u.1 2 → u.1 2 < i + d → DW g M_Mm_inStore (fun o w1 => (∃ v : Int32, o = .inl (some (.int v))) ∧ w1 = w) w 4 [(2, .int (nI i)), (1, .int s9), (0, .ref (ad 52))] [] 0 0 := by
  intro d
  induction d with
  | zero => intro i s9 h1 h2 ; exact absurd h2 (by omega)
  | succ d ih =>
    intro i s9 h1 h2 
    obtain ⟨e_m, wf_m, k_m⟩ := hI.1.2 52 (by decide)
    obtain ⟨v_m_th, rfl⟩ := kd_52.mp k_m
    have h33 := hI.n5 2 (by decide)
    have hJ := hI.1.I [52] [((ad 52), .inr (12, [.int v_m_th, .ref (ad 53), .int (nI ((t.1 52).2.2 0)), .ref (ad 54), .ref (ad 55), .ref (ad 56), .ref (ad 57), .ref (ad 58), .ref (ad 59), .ref (ad 60), .ref (ad 61), .int ((t.1 52).1 0), .int ((t.1 52).1 1), .int ((t.1 52).1 2), .int ((t.1 52).1 3), .int ((t.1 52).1 4), .int ((t.1 52).1 5), .ref (ad 62), .ref (ad 63), .ref (ad 64), .int ((t.1 52).1 6), .int ((t.1 52).1 7), .int ((t.1 52).1 8), .int ((t.1 52).1 9), .int ((t.1 52).1 10), .ref (ad 65), .ref (ad 66), .ref (ad 67), .ref (ad 68), .long ((t.1 52).2.1 0), .long ((t.1 52).2.1 1)]))] rfl (by decide) (by decide) (List.forall_mem_cons.mpr ⟨wf_m, (fun _ h => nomatch h)⟩)
    refine y_base hJ ?_
    refine y_iload_n d_Mm_inStore_4 rfl 0 rfl ?_
    refine y_aload_n d_Mm_inStore_5 rfl 2 rfl ?_
    refine y_get fs_Mm_58 d_Mm_inStore_6 (q0 := 0) rfl rfl ?_
    refine yw_callVL (As := []) (rest := [.int (nI i)]) (ci := 13) rfl (fun wA hA => ((hI.gen (t2 := t) (is := [52]) (L2 := []) hA rfl ⟨kd_52.mpr ⟨_, rfl⟩, trivial⟩ (by decide) (by decide) (fun _ h => nomatch h) (fun _ h => nomatch h) (fun _ _ _ => rfl) (fun h => h) rfl).2.1.1 2 (by decide)).ob) ln_Mm_208 w_im_AL_size w_se_AL_size ok_Mm_inStore_AL_size d_Mm_inStore_9 (fun wA hA => Q_size ((hI.gen (t2 := t) (is := [52]) (L2 := []) hA rfl ⟨kd_52.mpr ⟨_, rfl⟩, trivial⟩ (by decide) (by decide) (fun _ h => nomatch h) (fun _ h => nomatch h) (fun _ _ _ => rfl) (fun h => h) rfl).2.1.1 2 (by decide))) rfl rfl (Nat.le_of_ble_eq_true rfl) (by omega) (by omega) (fun wA9 hA9 E wB9 hx => ?_) (fun wA9 hA9 v wB9 hx => ?_)
    · exact absurd hx.1 (by simp)
    · obtain ⟨e1, e2⟩ := hx
      cases e1
      refine yw_st (st2 := [.int (nI (u.1 2)), .int (nI i)]) rfl ?_
      subst e2
      refine y_go hA9 ?_
      refine y_icmp_ge (tgt := 37) d_Mm_inStore_12 (by decide) (fun c_12 => ?_) (fun c_12 => ?_)
      · have hn := z_le (a := (u.1 2)) (b := i) (by omega) (by omega) c_12
        refine y_iload_n d_Mm_inStore_37 rfl 1 rfl ?_
        refine y_iret d_Mm_inStore_38 rfl rfl ?_
        exact fun w1 h1 => ⟨⟨_, rfl⟩, z_I.same hJ h1⟩
      · have hn := z_nle (a := (u.1 2)) (b := i) (by omega) (by omega) c_12
        refine y_iload_n d_Mm_inStore_15 rfl 1 rfl ?_
        refine y_aload_n d_Mm_inStore_16 rfl 2 rfl ?_
        refine y_get fs_Mm_58 d_Mm_inStore_17 (q0 := 0) rfl rfl ?_
        refine y_iload_n d_Mm_inStore_20 rfl 0 rfl ?_
        refine yw_callVL (As := [.int (nI i)]) (rest := [.int s9]) (ci := 13) rfl (fun wA hA => ((hI.gen (t2 := t) (is := [52]) (L2 := []) hA rfl ⟨kd_52.mpr ⟨_, rfl⟩, trivial⟩ (by decide) (by decide) (fun _ h => nomatch h) (fun _ h => nomatch h) (fun _ _ _ => rfl) (fun h => h) rfl).2.1.1 2 (by decide)).ob) ln_Mm_211 w_im_AL_get w_se_AL_get ok_Mm_inStore_AL_get d_Mm_inStore_21 (fun wA hA => Q_get ((hI.gen (t2 := t) (is := [52]) (L2 := []) hA rfl ⟨kd_52.mpr ⟨_, rfl⟩, trivial⟩ (by decide) (by decide) (fun _ h => nomatch h) (fun _ h => nomatch h) (fun _ _ _ => rfl) (fun h => h) rfl).2.1.1 2 (by decide)) hn) rfl rfl (Nat.le_of_ble_eq_true rfl) (by omega) (by omega) (fun wA21 hA21 E wB21 hx => ?_) (fun wA21 hA21 v wB21 hx => ?_)
        · exact absurd hx.1 (by simp)
        · obtain ⟨e1, e2⟩ := hx
          cases e1
          refine yw_st (st2 := [.ref (u.2.2 2 i), .int s9]) rfl ?_
          subst e2
          refine y_go hA21 ?_
          refine y_end (fun wC1 hC1 => ?_)
          obtain rfl := z_I.same hJ hC1
          obtain ⟨nf_c, hw_c⟩ := hI.2.1.2.1 2 (by decide) i hn
          have hJ := z_I.kd (cs := [((ad 52), .inr (12, [.int v_m_th, .ref (ad 53), .int (nI ((t.1 52).2.2 0)), .ref (ad 54), .ref (ad 55), .ref (ad 56), .ref (ad 57), .ref (ad 58), .ref (ad 59), .ref (ad 60), .ref (ad 61), .int ((t.1 52).1 0), .int ((t.1 52).1 1), .int ((t.1 52).1 2), .int ((t.1 52).1 3), .int ((t.1 52).1 4), .int ((t.1 52).1 5), .ref (ad 62), .ref (ad 63), .ref (ad 64), .int ((t.1 52).1 6), .int ((t.1 52).1 7), .int ((t.1 52).1 8), .int ((t.1 52).1 9), .int ((t.1 52).1 10), .ref (ad 65), .ref (ad 66), .ref (ad 67), .ref (ad 68), .long ((t.1 52).2.1 0), .long ((t.1 52).2.1 1)])), ((u.2.2 2 i), .inl (0, 2, .inl ((t.2 2 i).2.1)))]) (List.forall_mem_cons.mpr ⟨wf_m, (List.forall_mem_cons.mpr ⟨hw_c, (fun _ h => nomatch h)⟩)⟩) (by simp [z_kd])
          refine y_base hJ ?_
          refine y_castA (t := 0) (by decide) lk_Mm_215 d_Mm_inStore_24 (q0 := 1) rfl ?_
          refine y_iconst d_Mm_inStore_27 (v := 0) (by decide) ?_
          refine y_iald d_Mm_inStore_28 (q0 := 1) rfl (fun q => q.elim (by decide) (by decide)) (v := ((t.2 2 i).2.1) 0) rfl ?_
          refine y_iadd d_Mm_inStore_29 (v := s9 + (((t.2 2 i).2.1) 0)) rfl ?_
          refine y_istore_n (lv' := [(1, .int (s9 + (((t.2 2 i).2.1) 0))), (2, .int (nI i)), (0, .ref (ad 52))]) d_Mm_inStore_30 rfl (by decide) rfl ?_
          refine y_iinc (lv' := [(2, .int (nI (i + 1))), (1, .int (s9 + (((t.2 2 i).2.1) 0))), (0, .ref (ad 52))]) (v := nI (i + 1)) d_Mm_inStore_31 (j := 1) rfl (nI_add _ _) (by decide) rfl ?_
          refine y_goto (tgt := 4) d_Mm_inStore_34 (by decide) ?_
          refine y_end (fun wC2 hC2 => ?_)
          obtain rfl := z_I.same hJ hC2
          exact ih (i + 1) _ (by omega) (by omega) 
set_option maxHeartbeats 4000000 in
set_option maxRecDepth 100000 in
theorem Q_inStore {g : zG} {ad : Nat → Nat} {t : zTT} {u : zNN} {w : zW} (hI : IV g ad t u w) : zMB g M_Mm_inStore [.ref (ad 52)] w (fun o w1 => (∃ v : Int32, o = .inl (some (.int v))) ∧ w1 = w) 0 0 := by
  obtain ⟨e_m, wf_m, k_m⟩ := hI.1.2 52 (by decide)
  obtain ⟨v_m_th, rfl⟩ := kd_52.mp k_m
  have hJ := hI.1.I [52] [((ad 52), .inr (12, [.int v_m_th, .ref (ad 53), .int (nI ((t.1 52).2.2 0)), .ref (ad 54), .ref (ad 55), .ref (ad 56), .ref (ad 57), .ref (ad 58), .ref (ad 59), .ref (ad 60), .ref (ad 61), .int ((t.1 52).1 0), .int ((t.1 52).1 1), .int ((t.1 52).1 2), .int ((t.1 52).1 3), .int ((t.1 52).1 4), .int ((t.1 52).1 5), .ref (ad 62), .ref (ad 63), .ref (ad 64), .int ((t.1 52).1 6), .int ((t.1 52).1 7), .int ((t.1 52).1 8), .int ((t.1 52).1 9), .int ((t.1 52).1 10), .ref (ad 65), .ref (ad 66), .ref (ad 67), .ref (ad 68), .long ((t.1 52).2.1 0), .long ((t.1 52).2.1 1)]))] rfl (by decide) (by decide) (List.forall_mem_cons.mpr ⟨wf_m, (fun _ h => nomatch h)⟩)
  refine y_of (by decide) rfl (Nat.le_of_ble_eq_true rfl) (y_base (cs := [((ad 52), .inr (12, [.int v_m_th, .ref (ad 53), .int (nI ((t.1 52).2.2 0)), .ref (ad 54), .ref (ad 55), .ref (ad 56), .ref (ad 57), .ref (ad 58), .ref (ad 59), .ref (ad 60), .ref (ad 61), .int ((t.1 52).1 0), .int ((t.1 52).1 1), .int ((t.1 52).1 2), .int ((t.1 52).1 3), .int ((t.1 52).1 4), .int ((t.1 52).1 5), .ref (ad 62), .ref (ad 63), .ref (ad 64), .int ((t.1 52).1 6), .int ((t.1 52).1 7), .int ((t.1 52).1 8), .int ((t.1 52).1 9), .int ((t.1 52).1 10), .ref (ad 65), .ref (ad 66), .ref (ad 67), .ref (ad 68), .long ((t.1 52).2.1 0), .long ((t.1 52).2.1 1)]))]) hJ ?_)
  refine y_lvE (lv2 := [(0, .ref (ad 52))]) rfl ?_
  refine y_iconst d_Mm_inStore_0 (v := 0) (by decide) ?_
  refine y_istore_n (lv' := [(1, .int 0), (0, .ref (ad 52))]) d_Mm_inStore_1 rfl (by decide) rfl ?_
  refine y_iconst d_Mm_inStore_2 (v := 0) (by decide) ?_
  refine y_istore_n (lv' := [(2, .int 0), (1, .int 0), (0, .ref (ad 52))]) d_Mm_inStore_3 rfl (by decide) rfl ?_
  refine y_end (fun wC3 hC3 => ?_)
  obtain rfl := z_I.same hJ hC3
  exact L_Q_inStore_4 g hI  (u.1 2 + 1) 0 0 (Nat.zero_le _) (by omega) 
theorem d_Mm_good_15 : decode prog_14_method_51_code 15 = .ok (.iload_n 1, 1) := zo_27 (zd_b zq_prog_14_method_51_code_0 15 rfl rfl rfl)
theorem d_Mm_good_16 : decode prog_14_method_51_code 16 = .ok (.aload_n 0, 1) := zo_42 (zd_b zq_prog_14_method_51_code_0 16 rfl rfl rfl)
theorem d_Mm_good_17 : decode prog_14_method_51_code 17 = .ok (.getfield 58, 3) := zo_180 (d := 0) (e := 58) (zd_b zq_prog_14_method_51_code_0 17 rfl rfl rfl) (zd_b zq_prog_14_method_51_code_0 18 rfl rfl rfl) (zd_b zq_prog_14_method_51_code_0 19 rfl rfl rfl)
theorem d_Mm_good_20 : decode prog_14_method_51_code 20 = .ok (.iload_n 2, 1) := zo_28 (zd_b zq_prog_14_method_51_code_0 20 rfl rfl rfl)
theorem d_Mm_good_21 : decode prog_14_method_51_code 21 = .ok (.invokevirtual 211, 3) := zo_182 (d := 0) (e := 211) (zd_b zq_prog_14_method_51_code_0 21 rfl rfl rfl) (zd_b zq_prog_14_method_51_code_0 22 rfl rfl rfl) (zd_b zq_prog_14_method_51_code_0 23 rfl rfl rfl)
theorem ok_Mm_good_AL_get : z_ok M_Mm_good M_AL_get 1 := ⟨z_mj2 (i := 180) rfl (by decide +kernel), rfl, ⟨by decide +kernel, by decide +kernel, by decide +kernel⟩, ⟨by decide, by decide⟩, z_mj1 (i := 13) rfl (by decide +kernel), rfl⟩
theorem d_Mm_good_24 : decode prog_14_method_51_code 24 = .ok (.checkcast 215, 3) := zo_192 (d := 0) (e := 215) (zd_b zq_prog_14_method_51_code_0 24 rfl rfl rfl) (zd_b zq_prog_14_method_51_code_0 25 rfl rfl rfl) (zd_b zq_prog_14_method_51_code_0 26 rfl rfl rfl)
theorem d_Mm_good_27 : decode prog_14_method_51_code 27 = .ok (.iconst 1, 1) := zo_4 (zd_b zq_prog_14_method_51_code_0 27 rfl rfl rfl)
theorem d_Mm_good_28 : decode prog_14_method_51_code 28 = .ok (.iaload, 1) := zo_46 (zd_b zq_prog_14_method_51_code_0 28 rfl rfl rfl)
theorem d_Mm_good_29 : decode prog_14_method_51_code 29 = .ok (.aload_n 0, 1) := zo_42 (zd_b zq_prog_14_method_51_code_0 29 rfl rfl rfl)
theorem d_Mm_good_30 : decode prog_14_method_51_code 30 = .ok (.getfield 216, 3) := zo_180 (d := 0) (e := 216) (zd_b zq_prog_14_method_51_code_0 30 rfl rfl rfl) (zd_b zq_prog_14_method_51_code_0 31 rfl rfl rfl) (zd_b zq_prog_14_method_51_code_1 0 rfl rfl rfl)
theorem d_Mm_good_33 : decode prog_14_method_51_code 33 = .ok (.if_icmp .gt 19, 3) := zo_163 (d := 0) (e := 19) (zd_b zq_prog_14_method_51_code_1 1 rfl rfl rfl) (zd_b zq_prog_14_method_51_code_1 2 rfl rfl rfl) (zd_b zq_prog_14_method_51_code_1 3 rfl rfl rfl) (by decide +kernel)
theorem d_Mm_good_52 : decode prog_14_method_51_code 52 = .ok (.iconst 0, 1) := zo_3 (zd_b zq_prog_14_method_51_code_1 20 rfl rfl rfl)
theorem d_Mm_good_53 : decode prog_14_method_51_code 53 = .ok (.iadd, 1) := zo_96 (zd_b zq_prog_14_method_51_code_1 21 rfl rfl rfl)
theorem d_Mm_good_54 : decode prog_14_method_51_code 54 = .ok (.istore_n 1, 1) := zo_60 (zd_b zq_prog_14_method_51_code_1 22 rfl rfl rfl)
theorem d_Mm_good_55 : decode prog_14_method_51_code 55 = .ok (.iinc 2 1, 3) := by decide +kernel
theorem d_Mm_good_58 : decode prog_14_method_51_code 58 = .ok (.goto (-54), 3) := zo_167 (d := 255) (e := 202) (zd_b zq_prog_14_method_51_code_1 26 rfl rfl rfl) (zd_b zq_prog_14_method_51_code_1 27 rfl rfl rfl) (zd_b zq_prog_14_method_51_code_1 28 rfl rfl rfl) (by decide +kernel)
theorem d_Mm_good_36 : decode prog_14_method_51_code 36 = .ok (.aload_n 0, 1) := zo_42 (zd_b zq_prog_14_method_51_code_1 4 rfl rfl rfl)
theorem d_Mm_good_37 : decode prog_14_method_51_code 37 = .ok (.getfield 58, 3) := zo_180 (d := 0) (e := 58) (zd_b zq_prog_14_method_51_code_1 5 rfl rfl rfl) (zd_b zq_prog_14_method_51_code_1 6 rfl rfl rfl) (zd_b zq_prog_14_method_51_code_1 7 rfl rfl rfl)
theorem d_Mm_good_40 : decode prog_14_method_51_code 40 = .ok (.iload_n 2, 1) := zo_28 (zd_b zq_prog_14_method_51_code_1 8 rfl rfl rfl)
theorem d_Mm_good_41 : decode prog_14_method_51_code 41 = .ok (.invokevirtual 211, 3) := zo_182 (d := 0) (e := 211) (zd_b zq_prog_14_method_51_code_1 9 rfl rfl rfl) (zd_b zq_prog_14_method_51_code_1 10 rfl rfl rfl) (zd_b zq_prog_14_method_51_code_1 11 rfl rfl rfl)
theorem d_Mm_good_44 : decode prog_14_method_51_code 44 = .ok (.checkcast 215, 3) := zo_192 (d := 0) (e := 215) (zd_b zq_prog_14_method_51_code_1 12 rfl rfl rfl) (zd_b zq_prog_14_method_51_code_1 13 rfl rfl rfl) (zd_b zq_prog_14_method_51_code_1 14 rfl rfl rfl)
theorem d_Mm_good_47 : decode prog_14_method_51_code 47 = .ok (.iconst 0, 1) := zo_3 (zd_b zq_prog_14_method_51_code_1 15 rfl rfl rfl)
theorem d_Mm_good_48 : decode prog_14_method_51_code 48 = .ok (.iaload, 1) := zo_46 (zd_b zq_prog_14_method_51_code_1 16 rfl rfl rfl)
theorem d_Mm_good_49 : decode prog_14_method_51_code 49 = .ok (.goto 4, 3) := zo_167 (d := 0) (e := 4) (zd_b zq_prog_14_method_51_code_1 17 rfl rfl rfl) (zd_b zq_prog_14_method_51_code_1 18 rfl rfl rfl) (zd_b zq_prog_14_method_51_code_1 19 rfl rfl rfl) (by decide +kernel)
set_option maxHeartbeats 4000000 in
set_option maxRecDepth 100000 in
theorem L_Q_good_4 (g : zG) {ad : Nat → Nat} {t : zTT} {u : zNN} {w : zW} (hI : IV g ad t u w) : ∀ (d i : Nat) (s9 : Int32), i ≤ u.1 2 → u.1 2 < i + d → DW g M_Mm_good (fun o w1 => (∃ v : Int32, o = .inl (some (.int v))) ∧ w1 = w) w 4 [(2, .int (nI i)), (1, .int s9), (0, .ref (ad 52))] [] 0 0 := by
  intro d
  induction d with
  | zero => intro i s9 h1 h2 ; exact absurd h2 (by omega)
  | succ d ih =>
    intro i s9 h1 h2 
    obtain ⟨e_m, wf_m, k_m⟩ := hI.1.2 52 (by decide)
    obtain ⟨v_m_th, rfl⟩ := kd_52.mp k_m
    have h33 := hI.n5 2 (by decide)
    have hJ := hI.1.I [52] [((ad 52), .inr (12, [.int v_m_th, .ref (ad 53), .int (nI ((t.1 52).2.2 0)), .ref (ad 54), .ref (ad 55), .ref (ad 56), .ref (ad 57), .ref (ad 58), .ref (ad 59), .ref (ad 60), .ref (ad 61), .int ((t.1 52).1 0), .int ((t.1 52).1 1), .int ((t.1 52).1 2), .int ((t.1 52).1 3), .int ((t.1 52).1 4), .int ((t.1 52).1 5), .ref (ad 62), .ref (ad 63), .ref (ad 64), .int ((t.1 52).1 6), .int ((t.1 52).1 7), .int ((t.1 52).1 8), .int ((t.1 52).1 9), .int ((t.1 52).1 10), .ref (ad 65), .ref (ad 66), .ref (ad 67), .ref (ad 68), .long ((t.1 52).2.1 0), .long ((t.1 52).2.1 1)]))] rfl (by decide) (by decide) (List.forall_mem_cons.mpr ⟨wf_m, (fun _ h => nomatch h)⟩)
    refine y_base hJ ?_
    refine y_iload_n d_Mm_good_4 rfl 0 rfl ?_
    refine y_aload_n d_Mm_good_5 rfl 2 rfl ?_
    refine y_get fs_Mm_58 d_Mm_good_6 (q0 := 0) rfl rfl ?_
    refine yw_callVL (As := []) (rest := [.int (nI i)]) (ci := 13) rfl (fun wA hA => ((hI.gen (t2 := t) (is := [52]) (L2 := []) hA rfl ⟨kd_52.mpr ⟨_, rfl⟩, trivial⟩ (by decide) (by decide) (fun _ h => nomatch h) (fun _ h => nomatch h) (fun _ _ _ => rfl) (fun h => h) rfl).2.1.1 2 (by decide)).ob) ln_Mm_208 w_im_AL_size w_se_AL_size ok_Mm_good_AL_size d_Mm_good_9 (fun wA hA => Q_size ((hI.gen (t2 := t) (is := [52]) (L2 := []) hA rfl ⟨kd_52.mpr ⟨_, rfl⟩, trivial⟩ (by decide) (by decide) (fun _ h => nomatch h) (fun _ h => nomatch h) (fun _ _ _ => rfl) (fun h => h) rfl).2.1.1 2 (by decide))) rfl rfl (Nat.le_of_ble_eq_true rfl) (by omega) (by omega) (fun wA9 hA9 E wB9 hx => ?_) (fun wA9 hA9 v wB9 hx => ?_)
    · exact absurd hx.1 (by simp)
    · obtain ⟨e1, e2⟩ := hx
      cases e1
      refine yw_st (st2 := [.int (nI (u.1 2)), .int (nI i)]) rfl ?_
      subst e2
      refine y_go hA9 ?_
      refine y_icmp_ge (tgt := 61) d_Mm_good_12 (by decide) (fun c_12 => ?_) (fun c_12 => ?_)
      · have hn := z_le (a := (u.1 2)) (b := i) (by omega) (by omega) c_12
        refine y_iload_n d_Mm_good_61 rfl 1 rfl ?_
        refine y_iret d_Mm_good_62 rfl rfl ?_
        exact fun w1 h1 => ⟨⟨_, rfl⟩, z_I.same hJ h1⟩
      · have hn := z_nle (a := (u.1 2)) (b := i) (by omega) (by omega) c_12
        refine y_iload_n d_Mm_good_15 rfl 1 rfl ?_
        refine y_aload_n d_Mm_good_16 rfl 2 rfl ?_
        refine y_get fs_Mm_58 d_Mm_good_17 (q0 := 0) rfl rfl ?_
        refine y_iload_n d_Mm_good_20 rfl 0 rfl ?_
        refine yw_callVL (As := [.int (nI i)]) (rest := [.int s9]) (ci := 13) rfl (fun wA hA => ((hI.gen (t2 := t) (is := [52]) (L2 := []) hA rfl ⟨kd_52.mpr ⟨_, rfl⟩, trivial⟩ (by decide) (by decide) (fun _ h => nomatch h) (fun _ h => nomatch h) (fun _ _ _ => rfl) (fun h => h) rfl).2.1.1 2 (by decide)).ob) ln_Mm_211 w_im_AL_get w_se_AL_get ok_Mm_good_AL_get d_Mm_good_21 (fun wA hA => Q_get ((hI.gen (t2 := t) (is := [52]) (L2 := []) hA rfl ⟨kd_52.mpr ⟨_, rfl⟩, trivial⟩ (by decide) (by decide) (fun _ h => nomatch h) (fun _ h => nomatch h) (fun _ _ _ => rfl) (fun h => h) rfl).2.1.1 2 (by decide)) hn) rfl rfl (Nat.le_of_ble_eq_true rfl) (by omega) (by omega) (fun wA21 hA21 E wB21 hx => ?_) (fun wA21 hA21 v wB21 hx => ?_)
        · exact absurd hx.1 (by simp)
        · obtain ⟨e1, e2⟩ := hx
          cases e1
          refine yw_st (st2 := [.ref (u.2.2 2 i), .int s9]) rfl ?_
          subst e2
          refine y_go hA21 ?_
          refine y_end (fun wC1 hC1 => ?_)
          obtain rfl := z_I.same hJ hC1
          obtain ⟨nf_c, hw_c⟩ := hI.2.1.2.1 2 (by decide) i hn
          have hJ := z_I.kd (cs := [((ad 52), .inr (12, [.int v_m_th, .ref (ad 53), .int (nI ((t.1 52).2.2 0)), .ref (ad 54), .ref (ad 55), .ref (ad 56), .ref (ad 57), .ref (ad 58), .ref (ad 59), .ref (ad 60), .ref (ad 61), .int ((t.1 52).1 0), .int ((t.1 52).1 1), .int ((t.1 52).1 2), .int ((t.1 52).1 3), .int ((t.1 52).1 4), .int ((t.1 52).1 5), .ref (ad 62), .ref (ad 63), .ref (ad 64), .int ((t.1 52).1 6), .int ((t.1 52).1 7), .int ((t.1 52).1 8), .int ((t.1 52).1 9), .int ((t.1 52).1 10), .ref (ad 65), .ref (ad 66), .ref (ad 67), .ref (ad 68), .long ((t.1 52).2.1 0), .long ((t.1 52).2.1 1)])), ((u.2.2 2 i), .inl (0, 2, .inl ((t.2 2 i).2.1)))]) (List.forall_mem_cons.mpr ⟨wf_m, (List.forall_mem_cons.mpr ⟨hw_c, (fun _ h => nomatch h)⟩)⟩) (by simp [z_kd])
          refine y_base hJ ?_
          refine y_castA (t := 0) (by decide) lk_Mm_215 d_Mm_good_24 (q0 := 1) rfl ?_
          refine y_iconst d_Mm_good_27 (v := 1) (by decide) ?_
          refine y_iald d_Mm_good_28 (q0 := 1) rfl (fun q => q.elim (by decide) (by decide)) (v := ((t.2 2 i).2.1) 1) rfl ?_
          refine y_aload_n d_Mm_good_29 rfl 2 rfl ?_
          refine y_get fs_Mm_216 d_Mm_good_30 (q0 := 0) rfl rfl ?_
          refine y_icmp_gt (tgt := 52) d_Mm_good_33 (by decide) (fun c_33 => ?_) (fun c_33 => ?_)
          · refine y_iconst d_Mm_good_52 (v := 0) (by decide) ?_
            refine y_iadd d_Mm_good_53 (v := s9 + 0) rfl ?_
            refine y_istore_n (lv' := [(1, .int (s9 + 0)), (2, .int (nI i)), (0, .ref (ad 52))]) d_Mm_good_54 rfl (by decide) rfl ?_
            refine y_iinc (lv' := [(2, .int (nI (i + 1))), (1, .int (s9 + 0)), (0, .ref (ad 52))]) (v := nI (i + 1)) d_Mm_good_55 (j := 1) rfl (nI_add _ _) (by decide) rfl ?_
            refine y_goto (tgt := 4) d_Mm_good_58 (by decide) ?_
            refine y_end (fun wC2 hC2 => ?_)
            obtain rfl := z_I.same hJ hC2
            exact ih (i + 1) _ (by omega) (by omega) 
          · refine y_aload_n d_Mm_good_36 rfl 2 rfl ?_
            refine y_get fs_Mm_58 d_Mm_good_37 (q0 := 0) rfl rfl ?_
            refine y_iload_n d_Mm_good_40 rfl 0 rfl ?_
            refine yw_callVL (As := [.int (nI i)]) (rest := [.int s9]) (ci := 13) rfl (fun wA hA => ((hI.gen (t2 := t) (is := [52]) (L2 := [(u.2.2 2 i)]) hA rfl ⟨kd_52.mpr ⟨_, rfl⟩, trivial⟩ (by decide) (by decide) (List.forall_mem_cons.mpr ⟨nf_c, (fun _ h => nomatch h)⟩) (List.forall_mem_cons.mpr ⟨⟨_, hw_c, hA.at (q0 := 1) rfl⟩, (fun _ h => nomatch h)⟩) (fun _ _ _ => rfl) (fun h => h) rfl).2.1.1 2 (by decide)).ob) ln_Mm_211 w_im_AL_get w_se_AL_get ok_Mm_good_AL_get d_Mm_good_41 (fun wA hA => Q_get ((hI.gen (t2 := t) (is := [52]) (L2 := [(u.2.2 2 i)]) hA rfl ⟨kd_52.mpr ⟨_, rfl⟩, trivial⟩ (by decide) (by decide) (List.forall_mem_cons.mpr ⟨nf_c, (fun _ h => nomatch h)⟩) (List.forall_mem_cons.mpr ⟨⟨_, hw_c, hA.at (q0 := 1) rfl⟩, (fun _ h => nomatch h)⟩) (fun _ _ _ => rfl) (fun h => h) rfl).2.1.1 2 (by decide)) hn) rfl rfl (Nat.le_of_ble_eq_true rfl) (by omega) (by omega) (fun wA41 hA41 E wB41 hx => ?_) (fun wA41 hA41 v wB41 hx => ?_)
            · exact absurd hx.1 (by simp)
            · obtain ⟨e1, e2⟩ := hx
              cases e1
              refine yw_st (st2 := [.ref (u.2.2 2 i), .int s9]) rfl ?_
              subst e2
              refine y_go hA41 ?_
              refine y_castA (t := 0) (by decide) lk_Mm_215 d_Mm_good_44 (q0 := 1) rfl ?_
              refine y_iconst d_Mm_good_47 (v := 0) (by decide) ?_
              refine y_iald d_Mm_good_48 (q0 := 1) rfl (fun q => q.elim (by decide) (by decide)) (v := ((t.2 2 i).2.1) 0) rfl ?_
              refine y_goto (tgt := 53) d_Mm_good_49 (by decide) ?_
              refine y_iadd d_Mm_good_53 (v := s9 + (((t.2 2 i).2.1) 0)) rfl ?_
              refine y_istore_n (lv' := [(1, .int (s9 + (((t.2 2 i).2.1) 0))), (2, .int (nI i)), (0, .ref (ad 52))]) d_Mm_good_54 rfl (by decide) rfl ?_
              refine y_iinc (lv' := [(2, .int (nI (i + 1))), (1, .int (s9 + (((t.2 2 i).2.1) 0))), (0, .ref (ad 52))]) (v := nI (i + 1)) d_Mm_good_55 (j := 1) rfl (nI_add _ _) (by decide) rfl ?_
              refine y_goto (tgt := 4) d_Mm_good_58 (by decide) ?_
              refine y_end (fun wC3 hC3 => ?_)
              obtain rfl := z_I.same hJ hC3
              exact ih (i + 1) _ (by omega) (by omega) 
set_option maxHeartbeats 4000000 in
set_option maxRecDepth 100000 in
theorem Q_good {g : zG} {ad : Nat → Nat} {t : zTT} {u : zNN} {w : zW} (hI : IV g ad t u w) : zMB g M_Mm_good [.ref (ad 52)] w (fun o w1 => (∃ v : Int32, o = .inl (some (.int v))) ∧ w1 = w) 0 0 := by
  obtain ⟨e_m, wf_m, k_m⟩ := hI.1.2 52 (by decide)
  obtain ⟨v_m_th, rfl⟩ := kd_52.mp k_m
  have hJ := hI.1.I [52] [((ad 52), .inr (12, [.int v_m_th, .ref (ad 53), .int (nI ((t.1 52).2.2 0)), .ref (ad 54), .ref (ad 55), .ref (ad 56), .ref (ad 57), .ref (ad 58), .ref (ad 59), .ref (ad 60), .ref (ad 61), .int ((t.1 52).1 0), .int ((t.1 52).1 1), .int ((t.1 52).1 2), .int ((t.1 52).1 3), .int ((t.1 52).1 4), .int ((t.1 52).1 5), .ref (ad 62), .ref (ad 63), .ref (ad 64), .int ((t.1 52).1 6), .int ((t.1 52).1 7), .int ((t.1 52).1 8), .int ((t.1 52).1 9), .int ((t.1 52).1 10), .ref (ad 65), .ref (ad 66), .ref (ad 67), .ref (ad 68), .long ((t.1 52).2.1 0), .long ((t.1 52).2.1 1)]))] rfl (by decide) (by decide) (List.forall_mem_cons.mpr ⟨wf_m, (fun _ h => nomatch h)⟩)
  refine y_of (by decide) rfl (Nat.le_of_ble_eq_true rfl) (y_base (cs := [((ad 52), .inr (12, [.int v_m_th, .ref (ad 53), .int (nI ((t.1 52).2.2 0)), .ref (ad 54), .ref (ad 55), .ref (ad 56), .ref (ad 57), .ref (ad 58), .ref (ad 59), .ref (ad 60), .ref (ad 61), .int ((t.1 52).1 0), .int ((t.1 52).1 1), .int ((t.1 52).1 2), .int ((t.1 52).1 3), .int ((t.1 52).1 4), .int ((t.1 52).1 5), .ref (ad 62), .ref (ad 63), .ref (ad 64), .int ((t.1 52).1 6), .int ((t.1 52).1 7), .int ((t.1 52).1 8), .int ((t.1 52).1 9), .int ((t.1 52).1 10), .ref (ad 65), .ref (ad 66), .ref (ad 67), .ref (ad 68), .long ((t.1 52).2.1 0), .long ((t.1 52).2.1 1)]))]) hJ ?_)
  refine y_lvE (lv2 := [(0, .ref (ad 52))]) rfl ?_
  refine y_iconst d_Mm_good_0 (v := 0) (by decide) ?_
  refine y_istore_n (lv' := [(1, .int 0), (0, .ref (ad 52))]) d_Mm_good_1 rfl (by decide) rfl ?_
  refine y_iconst d_Mm_good_2 (v := 0) (by decide) ?_
  refine y_istore_n (lv' := [(2, .int 0), (1, .int 0), (0, .ref (ad 52))]) d_Mm_good_3 rfl (by decide) rfl ?_
  refine y_end (fun wC4 hC4 => ?_)
  obtain rfl := z_I.same hJ hC4
  exact L_Q_good_4 g hI  (u.1 2 + 1) 0 0 (Nat.zero_le _) (by omega) 
set_option maxHeartbeats 4000000 in
set_option maxRecDepth 100000 in
theorem Q_Mm_goodCores {g : zG} {ad : Nat → Nat} {t : zTT} {u : zNN} {w : zW} (hI : IV g ad t u w) : zMB g M_Mm_goodCores [.ref (ad 52)] w (fun o w1 => (∃ v : Int32, o = .inl (some (.int v))) ∧ IV g ad t u w1) 0 0 := by
  obtain ⟨e_m, wf_m, k_m⟩ := hI.1.2 52 (by decide)
  obtain ⟨v_m_th, rfl⟩ := kd_52.mp k_m
  refine y_of (by decide) rfl (Nat.le_of_ble_eq_true rfl) (y_base (cs := [((ad 52), .inr (12, [.int v_m_th, .ref (ad 53), .int (nI ((t.1 52).2.2 0)), .ref (ad 54), .ref (ad 55), .ref (ad 56), .ref (ad 57), .ref (ad 58), .ref (ad 59), .ref (ad 60), .ref (ad 61), .int ((t.1 52).1 0), .int ((t.1 52).1 1), .int ((t.1 52).1 2), .int ((t.1 52).1 3), .int ((t.1 52).1 4), .int ((t.1 52).1 5), .ref (ad 62), .ref (ad 63), .ref (ad 64), .int ((t.1 52).1 6), .int ((t.1 52).1 7), .int ((t.1 52).1 8), .int ((t.1 52).1 9), .int ((t.1 52).1 10), .ref (ad 65), .ref (ad 66), .ref (ad 67), .ref (ad 68), .long ((t.1 52).2.1 0), .long ((t.1 52).2.1 1)]))]) (hI.1.I [52] _ rfl (by decide) (by decide) (List.forall_mem_cons.mpr ⟨wf_m, (fun _ h => nomatch h)⟩)) ?_)
  refine y_lvE (lv2 := [(0, .ref (ad 52))]) rfl ?_
  refine y_aload_n d_Mm_goodCores_0 rfl 0 rfl ?_
  refine y_iconst d_Mm_goodCores_1 (v := 0) (by decide) ?_
  refine y_put fp_Mm_84 d_Mm_goodCores_2 (fun h => nomatch h) rfl rfl (q0 := 0) rfl (Nat.le_of_ble_eq_true rfl) (cs' := [((ad 52), .inr (12, [.int 0, .ref (ad 53), .int (nI ((t.1 52).2.2 0)), .ref (ad 54), .ref (ad 55), .ref (ad 56), .ref (ad 57), .ref (ad 58), .ref (ad 59), .ref (ad 60), .ref (ad 61), .int ((t.1 52).1 0), .int ((t.1 52).1 1), .int ((t.1 52).1 2), .int ((t.1 52).1 3), .int ((t.1 52).1 4), .int ((t.1 52).1 5), .ref (ad 62), .ref (ad 63), .ref (ad 64), .int ((t.1 52).1 6), .int ((t.1 52).1 7), .int ((t.1 52).1 8), .int ((t.1 52).1 9), .int ((t.1 52).1 10), .ref (ad 65), .ref (ad 66), .ref (ad 67), .ref (ad 68), .long ((t.1 52).2.1 0), .long ((t.1 52).2.1 1)]))]) rfl ?_
  refine y_aload_n d_Mm_goodCores_5 rfl 0 rfl ?_
  refine yw_callV (As := []) (rest := []) (q0 := 0) rfl rfl ln_Mm_226 w_im_Mm_good w_se_Mm_good ok_Mm_goodCores_Mm_good d_Mm_goodCores_6 (fun wA hA => Q_good (hI.gen (t2 := t) (is := [52]) (L2 := []) hA rfl ⟨kd_52.mpr ⟨_, rfl⟩, trivial⟩ (by decide) (by decide) (fun _ h => nomatch h) (fun _ h => nomatch h) (fun _ _ _ => rfl) (fun h => h) rfl)) rfl rfl (Nat.le_of_ble_eq_true rfl) (by omega) (by omega) (fun wA6 hA6 E wB6 hx => ?_) (fun wA6 hA6 v wB6 hx => ?_)
  · exact absurd hx.1 (by simp)
  · obtain ⟨⟨v9, e1⟩, e2⟩ := hx
    cases e1
    refine yw_st (st2 := [.int v9]) rfl ?_
    subst e2
    refine y_go hA6 ?_
    refine y_iret d_Mm_goodCores_9 rfl rfl ?_
    exact fun w1 h1 => ⟨⟨_, rfl⟩, (hI.gen (t2 := t) (is := [52]) (L2 := []) h1 rfl ⟨kd_52.mpr ⟨_, rfl⟩, trivial⟩ (by decide) (by decide) (fun _ h => nomatch h) (fun _ h => nomatch h) (fun _ _ _ => rfl) (fun h => h) rfl)⟩
theorem d_Mm_worst_59 : decode prog_14_method_91_code 59 = .ok (.iconst 0, 1) := zo_3 (zd_b zq_prog_14_method_91_code_1 27 rfl rfl rfl)
theorem d_Mm_worst_69 : decode prog_14_method_91_code 69 = .ok (.iload_n 1, 1) := zo_27 (zd_b zq_prog_14_method_91_code_2 5 rfl rfl rfl)
theorem d_Mm_worst_70 : decode prog_14_method_91_code 70 = .ok (.iload 5, 2) := zo_21 (d := 5) (zd_b zq_prog_14_method_91_code_2 6 rfl rfl rfl) (zd_b zq_prog_14_method_91_code_2 7 rfl rfl rfl)
theorem d_Mm_worst_72 : decode prog_14_method_91_code 72 = .ok (.if_icmp .ne 8, 3) := zo_160 (d := 0) (e := 8) (zd_b zq_prog_14_method_91_code_2 8 rfl rfl rfl) (zd_b zq_prog_14_method_91_code_2 9 rfl rfl rfl) (zd_b zq_prog_14_method_91_code_2 10 rfl rfl rfl) (by decide +kernel)
theorem d_Mm_worst_80 : decode prog_14_method_91_code 80 = .ok (.iload_n 2, 1) := zo_28 (zd_b zq_prog_14_method_91_code_2 16 rfl rfl rfl)
theorem d_Mm_worst_81 : decode prog_14_method_91_code 81 = .ok (.iload 5, 2) := zo_21 (d := 5) (zd_b zq_prog_14_method_91_code_2 17 rfl rfl rfl) (zd_b zq_prog_14_method_91_code_2 18 rfl rfl rfl)
theorem d_Mm_worst_83 : decode prog_14_method_91_code 83 = .ok (.if_icmp .ne 8, 3) := zo_160 (d := 0) (e := 8) (zd_b zq_prog_14_method_91_code_2 19 rfl rfl rfl) (zd_b zq_prog_14_method_91_code_2 20 rfl rfl rfl) (zd_b zq_prog_14_method_91_code_2 21 rfl rfl rfl) (by decide +kernel)
theorem d_Mm_worst_91 : decode prog_14_method_91_code 91 = .ok (.iload_n 3, 1) := zo_29 (zd_b zq_prog_14_method_91_code_2 27 rfl rfl rfl)
theorem d_Mm_worst_92 : decode prog_14_method_91_code 92 = .ok (.iload 5, 2) := zo_21 (d := 5) (zd_b zq_prog_14_method_91_code_2 28 rfl rfl rfl) (zd_b zq_prog_14_method_91_code_2 29 rfl rfl rfl)
theorem d_Mm_worst_94 : decode prog_14_method_91_code 94 = .ok (.if_icmp .ne 8, 3) := zo_160 (d := 0) (e := 8) (zd_b zq_prog_14_method_91_code_2 30 rfl rfl rfl) (zd_b zq_prog_14_method_91_code_2 31 rfl rfl rfl) (zd_b zq_prog_14_method_91_code_3 0 rfl rfl rfl) (by decide +kernel)
theorem d_Mm_worst_102 : decode prog_14_method_91_code 102 = .ok (.bipush 116, 2) := zo_16 (d := 116) (zd_b zq_prog_14_method_91_code_3 6 rfl rfl rfl) (zd_b zq_prog_14_method_91_code_3 7 rfl rfl rfl) (by decide +kernel)
theorem d_Mm_worst_104 : decode prog_14_method_91_code 104 = .ok (.ireturn, 1) := zo_172 (zd_b zq_prog_14_method_91_code_3 8 rfl rfl rfl)
theorem d_Mm_worst_97 : decode prog_14_method_91_code 97 = .ok (.bipush 112, 2) := zo_16 (d := 112) (zd_b zq_prog_14_method_91_code_3 1 rfl rfl rfl) (zd_b zq_prog_14_method_91_code_3 2 rfl rfl rfl) (by decide +kernel)
theorem d_Mm_worst_99 : decode prog_14_method_91_code 99 = .ok (.goto 5, 3) := zo_167 (d := 0) (e := 5) (zd_b zq_prog_14_method_91_code_3 3 rfl rfl rfl) (zd_b zq_prog_14_method_91_code_3 4 rfl rfl rfl) (zd_b zq_prog_14_method_91_code_3 5 rfl rfl rfl) (by decide +kernel)
theorem d_Mm_worst_86 : decode prog_14_method_91_code 86 = .ok (.bipush 109, 2) := zo_16 (d := 109) (zd_b zq_prog_14_method_91_code_2 22 rfl rfl rfl) (zd_b zq_prog_14_method_91_code_2 23 rfl rfl rfl) (by decide +kernel)
theorem d_Mm_worst_88 : decode prog_14_method_91_code 88 = .ok (.goto 16, 3) := zo_167 (d := 0) (e := 16) (zd_b zq_prog_14_method_91_code_2 24 rfl rfl rfl) (zd_b zq_prog_14_method_91_code_2 25 rfl rfl rfl) (zd_b zq_prog_14_method_91_code_2 26 rfl rfl rfl) (by decide +kernel)
theorem d_Mm_worst_75 : decode prog_14_method_91_code 75 = .ok (.bipush 115, 2) := zo_16 (d := 115) (zd_b zq_prog_14_method_91_code_2 11 rfl rfl rfl) (zd_b zq_prog_14_method_91_code_2 12 rfl rfl rfl) (by decide +kernel)
theorem d_Mm_worst_77 : decode prog_14_method_91_code 77 = .ok (.goto 27, 3) := zo_167 (d := 0) (e := 27) (zd_b zq_prog_14_method_91_code_2 13 rfl rfl rfl) (zd_b zq_prog_14_method_91_code_2 14 rfl rfl rfl) (zd_b zq_prog_14_method_91_code_2 15 rfl rfl rfl) (by decide +kernel)
set_option maxHeartbeats 4000000 in
set_option maxRecDepth 100000 in
theorem Q_Mm_worst {g : zG} {ad : Nat → Nat} {t : zTT} {u : zNN} {w : zW} (hI : IV g ad t u w) : zMB g M_Mm_worst [.ref (ad 52)] w (fun o w1 => (∃ v : Int32, o = .inl (some (.int v))) ∧ IV g ad t u w1) 0 0 := by
  obtain ⟨e_m, wf_m, k_m⟩ := hI.1.2 52 (by decide)
  obtain ⟨v_m_th, rfl⟩ := kd_52.mp k_m
  refine y_of (by decide) rfl (Nat.le_of_ble_eq_true rfl) (y_base (cs := [((ad 52), .inr (12, [.int v_m_th, .ref (ad 53), .int (nI ((t.1 52).2.2 0)), .ref (ad 54), .ref (ad 55), .ref (ad 56), .ref (ad 57), .ref (ad 58), .ref (ad 59), .ref (ad 60), .ref (ad 61), .int ((t.1 52).1 0), .int ((t.1 52).1 1), .int ((t.1 52).1 2), .int ((t.1 52).1 3), .int ((t.1 52).1 4), .int ((t.1 52).1 5), .ref (ad 62), .ref (ad 63), .ref (ad 64), .int ((t.1 52).1 6), .int ((t.1 52).1 7), .int ((t.1 52).1 8), .int ((t.1 52).1 9), .int ((t.1 52).1 10), .ref (ad 65), .ref (ad 66), .ref (ad 67), .ref (ad 68), .long ((t.1 52).2.1 0), .long ((t.1 52).2.1 1)]))]) (hI.1.I [52] _ rfl (by decide) (by decide) (List.forall_mem_cons.mpr ⟨wf_m, (fun _ h => nomatch h)⟩)) ?_)
  refine y_lvE (lv2 := [(0, .ref (ad 52))]) rfl ?_
  refine y_aload_n d_Mm_worst_0 rfl 0 rfl ?_
  refine y_iconst d_Mm_worst_1 (v := 0) (by decide) ?_
  refine y_put fp_Mm_84 d_Mm_worst_2 (fun h => nomatch h) rfl rfl (q0 := 0) rfl (Nat.le_of_ble_eq_true rfl) (cs' := [((ad 52), .inr (12, [.int 0, .ref (ad 53), .int (nI ((t.1 52).2.2 0)), .ref (ad 54), .ref (ad 55), .ref (ad 56), .ref (ad 57), .ref (ad 58), .ref (ad 59), .ref (ad 60), .ref (ad 61), .int ((t.1 52).1 0), .int ((t.1 52).1 1), .int ((t.1 52).1 2), .int ((t.1 52).1 3), .int ((t.1 52).1 4), .int ((t.1 52).1 5), .ref (ad 62), .ref (ad 63), .ref (ad 64), .int ((t.1 52).1 6), .int ((t.1 52).1 7), .int ((t.1 52).1 8), .int ((t.1 52).1 9), .int ((t.1 52).1 10), .ref (ad 65), .ref (ad 66), .ref (ad 67), .ref (ad 68), .long ((t.1 52).2.1 0), .long ((t.1 52).2.1 1)]))]) rfl ?_
  refine y_aload_n d_Mm_worst_5 rfl 0 rfl ?_
  refine y_bipush d_Mm_worst_6 (v := 12) (by decide) ?_
  refine yw_callV (As := [.int 12]) (rest := []) (q0 := 0) rfl rfl ln_Mm_319 w_im_Mm_with w_se_Mm_with ok_Mm_worst_Mm_with d_Mm_worst_8 (fun wA hA => Q_with (hI.gen (t2 := t) (is := [52]) (L2 := []) hA rfl ⟨kd_52.mpr ⟨_, rfl⟩, trivial⟩ (by decide) (by decide) (fun _ h => nomatch h) (fun _ h => nomatch h) (fun _ _ _ => rfl) (fun h => h) rfl) 12) rfl rfl (Nat.le_of_ble_eq_true rfl) (by omega) (by omega) (fun wA8 hA8 E wB8 hx => ?_) (fun wA8 hA8 v wB8 hx => ?_)
  · exact absurd hx.1 (by simp)
  · obtain ⟨⟨s1, e1⟩, e2⟩ := hx
    cases e1
    refine yw_st (st2 := [.int s1]) rfl ?_
    subst e2
    refine y_go hA8 ?_
    refine y_istore_n (lv' := [(1, .int s1), (0, .ref (ad 52))]) d_Mm_worst_11 rfl (by decide) rfl ?_
    refine y_aload_n d_Mm_worst_12 rfl 1 rfl ?_
    refine y_bipush d_Mm_worst_13 (v := 32) (by decide) ?_
    refine yw_callV (As := [.int 32]) (rest := []) (q0 := 0) rfl rfl ln_Mm_319 w_im_Mm_with w_se_Mm_with ok_Mm_worst_Mm_with d_Mm_worst_15 (fun wA hA => Q_with (hI.gen (t2 := t) (is := [52]) (L2 := []) hA rfl ⟨kd_52.mpr ⟨_, rfl⟩, trivial⟩ (by decide) (by decide) (fun _ h => nomatch h) (fun _ h => nomatch h) (fun _ _ _ => rfl) (fun h => h) rfl) 32) rfl rfl (Nat.le_of_ble_eq_true rfl) (by omega) (by omega) (fun wA15 hA15 E wB15 hx => ?_) (fun wA15 hA15 v wB15 hx => ?_)
    · exact absurd hx.1 (by simp)
    · obtain ⟨⟨s2, e1⟩, e2⟩ := hx
      cases e1
      refine yw_st (st2 := [.int s2]) rfl ?_
      subst e2
      refine y_go hA15 ?_
      refine y_istore_n (lv' := [(2, .int s2), (1, .int s1), (0, .ref (ad 52))]) d_Mm_worst_18 rfl (by decide) rfl ?_
      refine y_aload_n d_Mm_worst_19 rfl 2 rfl ?_
      refine y_iconst d_Mm_worst_20 (v := 2) (by decide) ?_
      refine yw_callV (As := [.int 2]) (rest := []) (q0 := 0) rfl rfl ln_Mm_319 w_im_Mm_with w_se_Mm_with ok_Mm_worst_Mm_with d_Mm_worst_21 (fun wA hA => Q_with (hI.gen (t2 := t) (is := [52]) (L2 := []) hA rfl ⟨kd_52.mpr ⟨_, rfl⟩, trivial⟩ (by decide) (by decide) (fun _ h => nomatch h) (fun _ h => nomatch h) (fun _ _ _ => rfl) (fun h => h) rfl) 2) rfl rfl (Nat.le_of_ble_eq_true rfl) (by omega) (by omega) (fun wA21 hA21 E wB21 hx => ?_) (fun wA21 hA21 v wB21 hx => ?_)
      · exact absurd hx.1 (by simp)
      · obtain ⟨⟨s3, e1⟩, e2⟩ := hx
        cases e1
        refine yw_st (st2 := [.int s3]) rfl ?_
        subst e2
        refine y_go hA21 ?_
        refine y_istore_n (lv' := [(3, .int s3), (2, .int s2), (1, .int s1), (0, .ref (ad 52))]) d_Mm_worst_24 rfl (by decide) rfl ?_
        refine y_aload_n d_Mm_worst_25 rfl 3 rfl ?_
        refine y_bipush d_Mm_worst_26 (v := 17) (by decide) ?_
        refine yw_callV (As := [.int 17]) (rest := []) (q0 := 0) rfl rfl ln_Mm_319 w_im_Mm_with w_se_Mm_with ok_Mm_worst_Mm_with d_Mm_worst_28 (fun wA hA => Q_with (hI.gen (t2 := t) (is := [52]) (L2 := []) hA rfl ⟨kd_52.mpr ⟨_, rfl⟩, trivial⟩ (by decide) (by decide) (fun _ h => nomatch h) (fun _ h => nomatch h) (fun _ _ _ => rfl) (fun h => h) rfl) 17) rfl rfl (Nat.le_of_ble_eq_true rfl) (by omega) (by omega) (fun wA28 hA28 E wB28 hx => ?_) (fun wA28 hA28 v wB28 hx => ?_)
        · exact absurd hx.1 (by simp)
        · obtain ⟨⟨s4, e1⟩, e2⟩ := hx
          cases e1
          refine yw_st (st2 := [.int s4]) rfl ?_
          subst e2
          refine y_go hA28 ?_
          refine y_istore (lv' := [(4, .int s4), (3, .int s3), (2, .int s2), (1, .int s1), (0, .ref (ad 52))]) d_Mm_worst_31 (by decide) rfl ?_
          refine y_iload_n d_Mm_worst_33 rfl 3 rfl ?_
          refine y_iload_n d_Mm_worst_34 rfl 2 rfl ?_
          refine y_max (v := (if s1 < s2 then s2 else s1)) ln_Mm_193 w_mmax w_mi w_cmax d_Mm_worst_35 (by decide) (by decide) (Nat.le_of_ble_eq_true rfl) rfl ?_
          refine y_iload_n d_Mm_worst_38 rfl 1 rfl ?_
          refine y_iload d_Mm_worst_39 0 rfl ?_
          refine y_max (v := (if s3 < s4 then s4 else s3)) ln_Mm_193 w_mmax w_mi w_cmax d_Mm_worst_41 (by decide) (by decide) (Nat.le_of_ble_eq_true rfl) rfl ?_
          refine y_max (v := (if (if s1 < s2 then s2 else s1) < (if s3 < s4 then s4 else s3) then (if s3 < s4 then s4 else s3) else (if s1 < s2 then s2 else s1))) ln_Mm_193 w_mmax w_mi w_cmax d_Mm_worst_44 (by decide) (by decide) (Nat.le_of_ble_eq_true rfl) rfl ?_
          refine y_istore (lv' := [(5, .int (if (if s1 < s2 then s2 else s1) < (if s3 < s4 then s4 else s3) then (if s3 < s4 then s4 else s3) else (if s1 < s2 then s2 else s1))), (4, .int s4), (3, .int s3), (2, .int s2), (1, .int s1), (0, .ref (ad 52))]) d_Mm_worst_47 (by decide) rfl ?_
          refine y_aload_n d_Mm_worst_49 rfl 5 rfl ?_
          refine y_iload d_Mm_worst_50 0 rfl ?_
          refine y_if_ne (tgt := 59) d_Mm_worst_52 (by decide) (fun c_52 => ?_) (fun c_52 => ?_)
          · refine y_iconst d_Mm_worst_59 (v := 0) (by decide) ?_
            refine y_iconst d_Mm_worst_60 (v := 1) (by decide) ?_
            refine y_callV (As := [.int 0, .int 1]) (rest := []) (csC := [((ad 52), .inr (12, [.int 0, .ref (ad 53), .int (nI ((t.1 52).2.2 0)), .ref (ad 54), .ref (ad 55), .ref (ad 56), .ref (ad 57), .ref (ad 58), .ref (ad 59), .ref (ad 60), .ref (ad 61), .int ((t.1 52).1 0), .int ((t.1 52).1 1), .int ((t.1 52).1 2), .int ((t.1 52).1 3), .int ((t.1 52).1 4), .int ((t.1 52).1 5), .ref (ad 62), .ref (ad 63), .ref (ad 64), .int ((t.1 52).1 6), .int ((t.1 52).1 7), .int ((t.1 52).1 8), .int ((t.1 52).1 9), .int ((t.1 52).1 10), .ref (ad 65), .ref (ad 66), .ref (ad 67), .ref (ad 68), .long ((t.1 52).2.1 0), .long ((t.1 52).2.1 1)]))]) (is := [0]) (q0 := 0) rfl rfl ln_Mm_103 w_im_Mm_fails w_se_Mm_fails ok_Mm_worst_Mm_fails d_Mm_worst_61 (C_Mm_fails0 g (ad 52) (ad 53) (ad 54) (ad 55) (ad 56) (ad 57) (ad 58) (ad 59) (ad 60) (ad 61) (ad 62) (ad 63) (ad 64) (ad 65) (ad 66) (ad 67) (ad 68) 0 (nI ((t.1 52).2.2 0)) ((t.1 52).1 0) ((t.1 52).1 1) ((t.1 52).1 2) ((t.1 52).1 3) ((t.1 52).1 4) ((t.1 52).1 5) ((t.1 52).1 6) ((t.1 52).1 7) ((t.1 52).1 8) ((t.1 52).1 9) ((t.1 52).1 10) ((t.1 52).2.1 0) ((t.1 52).2.1 1) 1) rfl rfl (Nat.le_of_ble_eq_true rfl) rfl (by decide) (by omega) (by omega) (fun E cs1 hx => ?_) (fun v cs1 hx => ?_)
            · exact absurd hx.1 (by simp)
            · obtain ⟨e1, rfl⟩ := hx
              cases e1
              refine ⟨rfl, ?_⟩
              refine y_st (st2 := [.int 0]) rfl ?_
              refine y_cs (cs2 := [((ad 52), .inr (12, [.int 0, .ref (ad 53), .int (nI ((t.1 52).2.2 0)), .ref (ad 54), .ref (ad 55), .ref (ad 56), .ref (ad 57), .ref (ad 58), .ref (ad 59), .ref (ad 60), .ref (ad 61), .int ((t.1 52).1 0), .int ((t.1 52).1 1), .int ((t.1 52).1 2), .int ((t.1 52).1 3), .int ((t.1 52).1 4), .int ((t.1 52).1 5), .ref (ad 62), .ref (ad 63), .ref (ad 64), .int ((t.1 52).1 6), .int ((t.1 52).1 7), .int ((t.1 52).1 8), .int ((t.1 52).1 9), .int ((t.1 52).1 10), .ref (ad 65), .ref (ad 66), .ref (ad 67), .ref (ad 68), .long ((t.1 52).2.1 0), .long ((t.1 52).2.1 1)]))]) rfl ?_
              refine y_if_eq (tgt := 69) d_Mm_worst_64 (by decide) (fun c_64 => ?_) (fun c_64 => ?_)
              · refine y_iload_n d_Mm_worst_69 rfl 4 rfl ?_
                refine y_iload d_Mm_worst_70 0 rfl ?_
                refine y_icmp_ne (tgt := 80) d_Mm_worst_72 (by decide) (fun c_72 => ?_) (fun c_72 => ?_)
                · refine y_iload_n d_Mm_worst_80 rfl 3 rfl ?_
                  refine y_iload d_Mm_worst_81 0 rfl ?_
                  refine y_icmp_ne (tgt := 91) d_Mm_worst_83 (by decide) (fun c_83 => ?_) (fun c_83 => ?_)
                  · refine y_iload_n d_Mm_worst_91 rfl 2 rfl ?_
                    refine y_iload d_Mm_worst_92 0 rfl ?_
                    refine y_icmp_ne (tgt := 102) d_Mm_worst_94 (by decide) (fun c_94 => ?_) (fun c_94 => ?_)
                    · refine y_bipush d_Mm_worst_102 (v := 116) (by decide) ?_
                      refine y_iret d_Mm_worst_104 rfl rfl ?_
                      exact fun w1 h1 => ⟨⟨_, rfl⟩, (hI.gen (t2 := t) (is := [52]) (L2 := []) h1 rfl ⟨kd_52.mpr ⟨_, rfl⟩, trivial⟩ (by decide) (by decide) (fun _ h => nomatch h) (fun _ h => nomatch h) (fun _ _ _ => rfl) (fun h => h) rfl)⟩
                    · refine y_bipush d_Mm_worst_97 (v := 112) (by decide) ?_
                      refine y_goto (tgt := 104) d_Mm_worst_99 (by decide) ?_
                      refine y_iret d_Mm_worst_104 rfl rfl ?_
                      exact fun w1 h1 => ⟨⟨_, rfl⟩, (hI.gen (t2 := t) (is := [52]) (L2 := []) h1 rfl ⟨kd_52.mpr ⟨_, rfl⟩, trivial⟩ (by decide) (by decide) (fun _ h => nomatch h) (fun _ h => nomatch h) (fun _ _ _ => rfl) (fun h => h) rfl)⟩
                  · refine y_bipush d_Mm_worst_86 (v := 109) (by decide) ?_
                    refine y_goto (tgt := 104) d_Mm_worst_88 (by decide) ?_
                    refine y_iret d_Mm_worst_104 rfl rfl ?_
                    exact fun w1 h1 => ⟨⟨_, rfl⟩, (hI.gen (t2 := t) (is := [52]) (L2 := []) h1 rfl ⟨kd_52.mpr ⟨_, rfl⟩, trivial⟩ (by decide) (by decide) (fun _ h => nomatch h) (fun _ h => nomatch h) (fun _ _ _ => rfl) (fun h => h) rfl)⟩
                · refine y_bipush d_Mm_worst_75 (v := 115) (by decide) ?_
                  refine y_goto (tgt := 104) d_Mm_worst_77 (by decide) ?_
                  refine y_iret d_Mm_worst_104 rfl rfl ?_
                  exact fun w1 h1 => ⟨⟨_, rfl⟩, (hI.gen (t2 := t) (is := [52]) (L2 := []) h1 rfl ⟨kd_52.mpr ⟨_, rfl⟩, trivial⟩ (by decide) (by decide) (fun _ h => nomatch h) (fun _ h => nomatch h) (fun _ _ _ => rfl) (fun h => h) rfl)⟩
              · exact absurd c_64 (by decide)
          · refine y_iconst d_Mm_worst_55 (v := 1) (by decide) ?_
            refine y_goto (tgt := 60) d_Mm_worst_56 (by decide) ?_
            refine y_iconst d_Mm_worst_60 (v := 1) (by decide) ?_
            refine y_callV (As := [.int 1, .int 1]) (rest := []) (csC := [((ad 52), .inr (12, [.int 0, .ref (ad 53), .int (nI ((t.1 52).2.2 0)), .ref (ad 54), .ref (ad 55), .ref (ad 56), .ref (ad 57), .ref (ad 58), .ref (ad 59), .ref (ad 60), .ref (ad 61), .int ((t.1 52).1 0), .int ((t.1 52).1 1), .int ((t.1 52).1 2), .int ((t.1 52).1 3), .int ((t.1 52).1 4), .int ((t.1 52).1 5), .ref (ad 62), .ref (ad 63), .ref (ad 64), .int ((t.1 52).1 6), .int ((t.1 52).1 7), .int ((t.1 52).1 8), .int ((t.1 52).1 9), .int ((t.1 52).1 10), .ref (ad 65), .ref (ad 66), .ref (ad 67), .ref (ad 68), .long ((t.1 52).2.1 0), .long ((t.1 52).2.1 1)]))]) (is := [0]) (q0 := 0) rfl rfl ln_Mm_103 w_im_Mm_fails w_se_Mm_fails ok_Mm_worst_Mm_fails d_Mm_worst_61 (C_Mm_fails1 g (ad 52) (ad 53) (ad 54) (ad 55) (ad 56) (ad 57) (ad 58) (ad 59) (ad 60) (ad 61) (ad 62) (ad 63) (ad 64) (ad 65) (ad 66) (ad 67) (ad 68) 0 (nI ((t.1 52).2.2 0)) ((t.1 52).1 0) ((t.1 52).1 1) ((t.1 52).1 2) ((t.1 52).1 3) ((t.1 52).1 4) ((t.1 52).1 5) ((t.1 52).1 6) ((t.1 52).1 7) ((t.1 52).1 8) ((t.1 52).1 9) ((t.1 52).1 10) ((t.1 52).2.1 0) ((t.1 52).2.1 1)) rfl rfl (Nat.le_of_ble_eq_true rfl) rfl (by decide) (by omega) (by omega) (fun E cs1 hx => ?_) (fun v cs1 hx => ?_)
            · exact absurd hx.1 (by simp)
            · obtain ⟨e1, rfl⟩ := hx
              cases e1
              refine ⟨rfl, ?_⟩
              refine y_st (st2 := [.int 1]) rfl ?_
              refine y_cs (cs2 := [((ad 52), .inr (12, [.int 1, .ref (ad 53), .int (nI ((t.1 52).2.2 0)), .ref (ad 54), .ref (ad 55), .ref (ad 56), .ref (ad 57), .ref (ad 58), .ref (ad 59), .ref (ad 60), .ref (ad 61), .int ((t.1 52).1 0), .int ((t.1 52).1 1), .int ((t.1 52).1 2), .int ((t.1 52).1 3), .int ((t.1 52).1 4), .int ((t.1 52).1 5), .ref (ad 62), .ref (ad 63), .ref (ad 64), .int ((t.1 52).1 6), .int ((t.1 52).1 7), .int ((t.1 52).1 8), .int ((t.1 52).1 9), .int ((t.1 52).1 10), .ref (ad 65), .ref (ad 66), .ref (ad 67), .ref (ad 68), .long ((t.1 52).2.1 0), .long ((t.1 52).2.1 1)]))]) rfl ?_
              refine y_if_eq (tgt := 69) d_Mm_worst_64 (by decide) (fun c_64 => ?_) (fun c_64 => ?_)
              · exact absurd c_64 (by decide)
              · refine y_iconst d_Mm_worst_67 (v := 0) (by decide) ?_
                refine y_iret d_Mm_worst_68 rfl rfl ?_
                exact fun w1 h1 => ⟨⟨_, rfl⟩, (hI.gen (t2 := t) (is := [52]) (L2 := []) h1 rfl ⟨kd_52.mpr ⟨_, rfl⟩, trivial⟩ (by decide) (by decide) (fun _ h => nomatch h) (fun _ h => nomatch h) (fun _ _ _ => rfl) (fun h => h) rfl)⟩
set_option maxHeartbeats 4000000 in
set_option maxRecDepth 100000 in
theorem Q_Mm_waitingE {g : zG} {ad : Nat → Nat} {t : zTT} {u : zNN} {w : zW} (hI : IV g ad t u w) (x : Int32) (hx : ¬ ∃ k, k < u.1 3 ∧ x = nI k) : zMB g M_Mm_waiting [.ref (ad 52), .int x] w (fun o w1 => (∃ v : Int32, o = .inl (some (.int v))) ∧ IV g ad t u w1) 0 0 := by
  obtain ⟨e_m, wf_m, k_m⟩ := hI.1.2 52 (by decide)
  obtain ⟨v_m_th, rfl⟩ := kd_52.mp k_m
  refine y_of (by decide) rfl (Nat.le_of_ble_eq_true rfl) (y_base (cs := [((ad 52), .inr (12, [.int v_m_th, .ref (ad 53), .int (nI ((t.1 52).2.2 0)), .ref (ad 54), .ref (ad 55), .ref (ad 56), .ref (ad 57), .ref (ad 58), .ref (ad 59), .ref (ad 60), .ref (ad 61), .int ((t.1 52).1 0), .int ((t.1 52).1 1), .int ((t.1 52).1 2), .int ((t.1 52).1 3), .int ((t.1 52).1 4), .int ((t.1 52).1 5), .ref (ad 62), .ref (ad 63), .ref (ad 64), .int ((t.1 52).1 6), .int ((t.1 52).1 7), .int ((t.1 52).1 8), .int ((t.1 52).1 9), .int ((t.1 52).1 10), .ref (ad 65), .ref (ad 66), .ref (ad 67), .ref (ad 68), .long ((t.1 52).2.1 0), .long ((t.1 52).2.1 1)]))]) (hI.1.I [52] _ rfl (by decide) (by decide) (List.forall_mem_cons.mpr ⟨wf_m, (fun _ h => nomatch h)⟩)) ?_)
  refine y_lvE (lv2 := [(0, .ref (ad 52)), (1, .int x)]) rfl ?_
  refine y_aload_n d_Mm_waiting_0 rfl 0 rfl ?_
  refine y_iconst d_Mm_waiting_1 (v := 0) (by decide) ?_
  refine y_put fp_Mm_84 d_Mm_waiting_2 (fun h => nomatch h) rfl rfl (q0 := 0) rfl (Nat.le_of_ble_eq_true rfl) (cs' := [((ad 52), .inr (12, [.int 0, .ref (ad 53), .int (nI ((t.1 52).2.2 0)), .ref (ad 54), .ref (ad 55), .ref (ad 56), .ref (ad 57), .ref (ad 58), .ref (ad 59), .ref (ad 60), .ref (ad 61), .int ((t.1 52).1 0), .int ((t.1 52).1 1), .int ((t.1 52).1 2), .int ((t.1 52).1 3), .int ((t.1 52).1 4), .int ((t.1 52).1 5), .ref (ad 62), .ref (ad 63), .ref (ad 64), .int ((t.1 52).1 6), .int ((t.1 52).1 7), .int ((t.1 52).1 8), .int ((t.1 52).1 9), .int ((t.1 52).1 10), .ref (ad 65), .ref (ad 66), .ref (ad 67), .ref (ad 68), .long ((t.1 52).2.1 0), .long ((t.1 52).2.1 1)]))]) rfl ?_
  refine y_aload_n d_Mm_waiting_5 rfl 0 rfl ?_
  refine y_iload_n d_Mm_waiting_6 rfl 1 rfl ?_
  refine y_iconst d_Mm_waiting_7 (v := 0) (by decide) ?_
  refine y_aload_n d_Mm_waiting_8 rfl 0 rfl ?_
  refine y_get fs_Mm_72 d_Mm_waiting_9 (q0 := 0) rfl rfl ?_
  refine yw_callVL (As := []) (rest := [.int 0, .int x, .ref (ad 52)]) (ci := 13) rfl (fun wA hA => ((hI.gen (t2 := t) (is := [52]) (L2 := []) hA rfl ⟨kd_52.mpr ⟨_, rfl⟩, trivial⟩ (by decide) (by decide) (fun _ h => nomatch h) (fun _ h => nomatch h) (fun _ _ _ => rfl) (fun h => h) rfl).2.1.1 3 (by decide)).ob) ln_Mm_208 w_im_AL_size w_se_AL_size ok_Mm_waiting_AL_size d_Mm_waiting_12 (fun wA hA => Q_size ((hI.gen (t2 := t) (is := [52]) (L2 := []) hA rfl ⟨kd_52.mpr ⟨_, rfl⟩, trivial⟩ (by decide) (by decide) (fun _ h => nomatch h) (fun _ h => nomatch h) (fun _ _ _ => rfl) (fun h => h) rfl).2.1.1 3 (by decide))) rfl rfl (Nat.le_of_ble_eq_true rfl) (by omega) (by omega) (fun wA12 hA12 E wB12 hx => ?_) (fun wA12 hA12 v wB12 hx => ?_)
  · exact absurd hx.1 (by simp)
  · obtain ⟨e1, e2⟩ := hx
    cases e1
    refine yw_st (st2 := [.int (nI (u.1 3)), .int 0, .int x, .ref (ad 52)]) rfl ?_
    subst e2
    refine y_go hA12 ?_
    refine y_iconst d_Mm_waiting_15 (v := 1) (by decide) ?_
    refine y_isub d_Mm_waiting_16 (v := nI (u.1 3) - 1) rfl ?_
    refine y_callS (As := [.int x, .int 0, .int (nI (u.1 3) - 1)]) (rest := [.ref (ad 52)]) (csC := []) (is := []) ln_Mm_87 w_st_Mm_in ok_Mm_waiting_Mm_in d_Mm_waiting_17 (C_Mm_in g x 0 (nI (u.1 3) - 1)) rfl rfl (Nat.le_of_ble_eq_true rfl) rfl (by decide) (by omega) (by omega) (fun E cs1 hx => ?_) (fun v cs1 hx => ?_)
    · exact absurd hx.1 (by simp)
    · obtain ⟨e1, rfl⟩ := hx
      rw [if_neg (fun q => hx ((z_idx (hI.n5 3 (by decide))).mp q))] at e1
      cases e1
      refine ⟨rfl, ?_⟩
      refine y_st (st2 := [.int 0, .ref (ad 52)]) rfl ?_
      refine y_cs (cs2 := [((ad 52), .inr (12, [.int 0, .ref (ad 53), .int (nI ((t.1 52).2.2 0)), .ref (ad 54), .ref (ad 55), .ref (ad 56), .ref (ad 57), .ref (ad 58), .ref (ad 59), .ref (ad 60), .ref (ad 61), .int ((t.1 52).1 0), .int ((t.1 52).1 1), .int ((t.1 52).1 2), .int ((t.1 52).1 3), .int ((t.1 52).1 4), .int ((t.1 52).1 5), .ref (ad 62), .ref (ad 63), .ref (ad 64), .int ((t.1 52).1 6), .int ((t.1 52).1 7), .int ((t.1 52).1 8), .int ((t.1 52).1 9), .int ((t.1 52).1 10), .ref (ad 65), .ref (ad 66), .ref (ad 67), .ref (ad 68), .long ((t.1 52).2.1 0), .long ((t.1 52).2.1 1)]))]) rfl ?_
      refine y_if_ne (tgt := 27) d_Mm_waiting_20 (by decide) (fun c_20 => ?_) (fun c_20 => ?_)
      · exact absurd c_20 (by decide)
      · refine y_iconst d_Mm_waiting_23 (v := 1) (by decide) ?_
        refine y_goto (tgt := 28) d_Mm_waiting_24 (by decide) ?_
        refine y_iconst d_Mm_waiting_28 (v := 1) (by decide) ?_
        refine y_callV (As := [.int 1, .int 1]) (rest := []) (csC := [((ad 52), .inr (12, [.int 0, .ref (ad 53), .int (nI ((t.1 52).2.2 0)), .ref (ad 54), .ref (ad 55), .ref (ad 56), .ref (ad 57), .ref (ad 58), .ref (ad 59), .ref (ad 60), .ref (ad 61), .int ((t.1 52).1 0), .int ((t.1 52).1 1), .int ((t.1 52).1 2), .int ((t.1 52).1 3), .int ((t.1 52).1 4), .int ((t.1 52).1 5), .ref (ad 62), .ref (ad 63), .ref (ad 64), .int ((t.1 52).1 6), .int ((t.1 52).1 7), .int ((t.1 52).1 8), .int ((t.1 52).1 9), .int ((t.1 52).1 10), .ref (ad 65), .ref (ad 66), .ref (ad 67), .ref (ad 68), .long ((t.1 52).2.1 0), .long ((t.1 52).2.1 1)]))]) (is := [0]) (q0 := 0) rfl rfl ln_Mm_103 w_im_Mm_fails w_se_Mm_fails ok_Mm_waiting_Mm_fails d_Mm_waiting_29 (C_Mm_fails1 g (ad 52) (ad 53) (ad 54) (ad 55) (ad 56) (ad 57) (ad 58) (ad 59) (ad 60) (ad 61) (ad 62) (ad 63) (ad 64) (ad 65) (ad 66) (ad 67) (ad 68) 0 (nI ((t.1 52).2.2 0)) ((t.1 52).1 0) ((t.1 52).1 1) ((t.1 52).1 2) ((t.1 52).1 3) ((t.1 52).1 4) ((t.1 52).1 5) ((t.1 52).1 6) ((t.1 52).1 7) ((t.1 52).1 8) ((t.1 52).1 9) ((t.1 52).1 10) ((t.1 52).2.1 0) ((t.1 52).2.1 1)) rfl rfl (Nat.le_of_ble_eq_true rfl) rfl (by decide) (by omega) (by omega) (fun E cs1 hx => ?_) (fun v cs1 hx => ?_)
        · exact absurd hx.1 (by simp)
        · obtain ⟨e1, rfl⟩ := hx
          cases e1
          refine ⟨rfl, ?_⟩
          refine y_st (st2 := [.int 1]) rfl ?_
          refine y_cs (cs2 := [((ad 52), .inr (12, [.int 1, .ref (ad 53), .int (nI ((t.1 52).2.2 0)), .ref (ad 54), .ref (ad 55), .ref (ad 56), .ref (ad 57), .ref (ad 58), .ref (ad 59), .ref (ad 60), .ref (ad 61), .int ((t.1 52).1 0), .int ((t.1 52).1 1), .int ((t.1 52).1 2), .int ((t.1 52).1 3), .int ((t.1 52).1 4), .int ((t.1 52).1 5), .ref (ad 62), .ref (ad 63), .ref (ad 64), .int ((t.1 52).1 6), .int ((t.1 52).1 7), .int ((t.1 52).1 8), .int ((t.1 52).1 9), .int ((t.1 52).1 10), .ref (ad 65), .ref (ad 66), .ref (ad 67), .ref (ad 68), .long ((t.1 52).2.1 0), .long ((t.1 52).2.1 1)]))]) rfl ?_
          refine y_if_eq (tgt := 39) d_Mm_waiting_32 (by decide) (fun c_32 => ?_) (fun c_32 => ?_)
          · exact absurd c_32 (by decide)
          · refine y_iconst d_Mm_waiting_35 (v := 0) (by decide) ?_
            refine y_goto (tgt := 52) d_Mm_waiting_36 (by decide) ?_
            refine y_iret d_Mm_waiting_52 rfl rfl ?_
            exact fun w1 h1 => ⟨⟨_, rfl⟩, (hI.gen (t2 := t) (is := [52]) (L2 := []) h1 rfl ⟨kd_52.mpr ⟨_, rfl⟩, trivial⟩ (by decide) (by decide) (fun _ h => nomatch h) (fun _ h => nomatch h) (fun _ _ _ => rfl) (fun h => h) rfl)⟩
theorem d_Mm_waiting_27 : decode prog_14_method_75_code 27 = .ok (.iconst 0, 1) := zo_3 (zd_b zq_prog_14_method_75_code_0 27 rfl rfl rfl)
theorem d_Mm_waiting_39 : decode prog_14_method_75_code 39 = .ok (.aload_n 0, 1) := zo_42 (zd_b zq_prog_14_method_75_code_1 7 rfl rfl rfl)
theorem d_Mm_waiting_40 : decode prog_14_method_75_code 40 = .ok (.getfield 75, 3) := zo_180 (d := 0) (e := 75) (zd_b zq_prog_14_method_75_code_1 8 rfl rfl rfl) (zd_b zq_prog_14_method_75_code_1 9 rfl rfl rfl) (zd_b zq_prog_14_method_75_code_1 10 rfl rfl rfl)
theorem d_Mm_waiting_43 : decode prog_14_method_75_code 43 = .ok (.iload_n 1, 1) := zo_27 (zd_b zq_prog_14_method_75_code_1 11 rfl rfl rfl)
theorem d_Mm_waiting_44 : decode prog_14_method_75_code 44 = .ok (.invokevirtual 211, 3) := zo_182 (d := 0) (e := 211) (zd_b zq_prog_14_method_75_code_1 12 rfl rfl rfl) (zd_b zq_prog_14_method_75_code_1 13 rfl rfl rfl) (zd_b zq_prog_14_method_75_code_1 14 rfl rfl rfl)
theorem ok_Mm_waiting_AL_get : z_ok M_Mm_waiting M_AL_get 1 := ⟨z_mj2 (i := 180) rfl (by decide +kernel), rfl, ⟨by decide +kernel, by decide +kernel, by decide +kernel⟩, ⟨by decide, by decide⟩, z_mj1 (i := 13) rfl (by decide +kernel), rfl⟩
theorem d_Mm_waiting_47 : decode prog_14_method_75_code 47 = .ok (.checkcast 215, 3) := zo_192 (d := 0) (e := 215) (zd_b zq_prog_14_method_75_code_1 15 rfl rfl rfl) (zd_b zq_prog_14_method_75_code_1 16 rfl rfl rfl) (zd_b zq_prog_14_method_75_code_1 17 rfl rfl rfl)
theorem d_Mm_waiting_50 : decode prog_14_method_75_code 50 = .ok (.iconst 4, 1) := zo_7 (zd_b zq_prog_14_method_75_code_1 18 rfl rfl rfl)
theorem d_Mm_waiting_51 : decode prog_14_method_75_code 51 = .ok (.iaload, 1) := zo_46 (zd_b zq_prog_14_method_75_code_1 19 rfl rfl rfl)
set_option maxHeartbeats 4000000 in
set_option maxRecDepth 100000 in
theorem Q_Mm_waitingN {g : zG} {ad : Nat → Nat} {t : zTT} {u : zNN} {w : zW} (hI : IV g ad t u w) (k : Nat) (hk : k < u.1 3) : zMB g M_Mm_waiting [.ref (ad 52), .int (nI k)] w (fun o w1 => (∃ v : Int32, o = .inl (some (.int v))) ∧ IV g ad t u w1) 0 0 := by
  obtain ⟨e_m, wf_m, k_m⟩ := hI.1.2 52 (by decide)
  obtain ⟨v_m_th, rfl⟩ := kd_52.mp k_m
  refine y_of (by decide) rfl (Nat.le_of_ble_eq_true rfl) (y_base (cs := [((ad 52), .inr (12, [.int v_m_th, .ref (ad 53), .int (nI ((t.1 52).2.2 0)), .ref (ad 54), .ref (ad 55), .ref (ad 56), .ref (ad 57), .ref (ad 58), .ref (ad 59), .ref (ad 60), .ref (ad 61), .int ((t.1 52).1 0), .int ((t.1 52).1 1), .int ((t.1 52).1 2), .int ((t.1 52).1 3), .int ((t.1 52).1 4), .int ((t.1 52).1 5), .ref (ad 62), .ref (ad 63), .ref (ad 64), .int ((t.1 52).1 6), .int ((t.1 52).1 7), .int ((t.1 52).1 8), .int ((t.1 52).1 9), .int ((t.1 52).1 10), .ref (ad 65), .ref (ad 66), .ref (ad 67), .ref (ad 68), .long ((t.1 52).2.1 0), .long ((t.1 52).2.1 1)]))]) (hI.1.I [52] _ rfl (by decide) (by decide) (List.forall_mem_cons.mpr ⟨wf_m, (fun _ h => nomatch h)⟩)) ?_)
  refine y_lvE (lv2 := [(0, .ref (ad 52)), (1, .int (nI k))]) rfl ?_
  refine y_aload_n d_Mm_waiting_0 rfl 0 rfl ?_
  refine y_iconst d_Mm_waiting_1 (v := 0) (by decide) ?_
  refine y_put fp_Mm_84 d_Mm_waiting_2 (fun h => nomatch h) rfl rfl (q0 := 0) rfl (Nat.le_of_ble_eq_true rfl) (cs' := [((ad 52), .inr (12, [.int 0, .ref (ad 53), .int (nI ((t.1 52).2.2 0)), .ref (ad 54), .ref (ad 55), .ref (ad 56), .ref (ad 57), .ref (ad 58), .ref (ad 59), .ref (ad 60), .ref (ad 61), .int ((t.1 52).1 0), .int ((t.1 52).1 1), .int ((t.1 52).1 2), .int ((t.1 52).1 3), .int ((t.1 52).1 4), .int ((t.1 52).1 5), .ref (ad 62), .ref (ad 63), .ref (ad 64), .int ((t.1 52).1 6), .int ((t.1 52).1 7), .int ((t.1 52).1 8), .int ((t.1 52).1 9), .int ((t.1 52).1 10), .ref (ad 65), .ref (ad 66), .ref (ad 67), .ref (ad 68), .long ((t.1 52).2.1 0), .long ((t.1 52).2.1 1)]))]) rfl ?_
  refine y_aload_n d_Mm_waiting_5 rfl 0 rfl ?_
  refine y_iload_n d_Mm_waiting_6 rfl 1 rfl ?_
  refine y_iconst d_Mm_waiting_7 (v := 0) (by decide) ?_
  refine y_aload_n d_Mm_waiting_8 rfl 0 rfl ?_
  refine y_get fs_Mm_72 d_Mm_waiting_9 (q0 := 0) rfl rfl ?_
  refine yw_callVL (As := []) (rest := [.int 0, .int (nI k), .ref (ad 52)]) (ci := 13) rfl (fun wA hA => ((hI.gen (t2 := t) (is := [52]) (L2 := []) hA rfl ⟨kd_52.mpr ⟨_, rfl⟩, trivial⟩ (by decide) (by decide) (fun _ h => nomatch h) (fun _ h => nomatch h) (fun _ _ _ => rfl) (fun h => h) rfl).2.1.1 3 (by decide)).ob) ln_Mm_208 w_im_AL_size w_se_AL_size ok_Mm_waiting_AL_size d_Mm_waiting_12 (fun wA hA => Q_size ((hI.gen (t2 := t) (is := [52]) (L2 := []) hA rfl ⟨kd_52.mpr ⟨_, rfl⟩, trivial⟩ (by decide) (by decide) (fun _ h => nomatch h) (fun _ h => nomatch h) (fun _ _ _ => rfl) (fun h => h) rfl).2.1.1 3 (by decide))) rfl rfl (Nat.le_of_ble_eq_true rfl) (by omega) (by omega) (fun wA12 hA12 E wB12 hx => ?_) (fun wA12 hA12 v wB12 hx => ?_)
  · exact absurd hx.1 (by simp)
  · obtain ⟨e1, e2⟩ := hx
    cases e1
    refine yw_st (st2 := [.int (nI (u.1 3)), .int 0, .int (nI k), .ref (ad 52)]) rfl ?_
    subst e2
    refine y_go hA12 ?_
    refine y_iconst d_Mm_waiting_15 (v := 1) (by decide) ?_
    refine y_isub d_Mm_waiting_16 (v := nI (u.1 3) - 1) rfl ?_
    refine y_callS (As := [.int (nI k), .int 0, .int (nI (u.1 3) - 1)]) (rest := [.ref (ad 52)]) (csC := []) (is := []) ln_Mm_87 w_st_Mm_in ok_Mm_waiting_Mm_in d_Mm_waiting_17 (C_Mm_in g (nI k) 0 (nI (u.1 3) - 1)) rfl rfl (Nat.le_of_ble_eq_true rfl) rfl (by decide) (by omega) (by omega) (fun E cs1 hx => ?_) (fun v cs1 hx => ?_)
    · exact absurd hx.1 (by simp)
    · obtain ⟨e1, rfl⟩ := hx
      rw [if_pos ((z_idx (hI.n5 3 (by decide))).mpr ⟨k, hk, rfl⟩)] at e1
      cases e1
      refine ⟨rfl, ?_⟩
      refine y_st (st2 := [.int 1, .ref (ad 52)]) rfl ?_
      refine y_cs (cs2 := [((ad 52), .inr (12, [.int 0, .ref (ad 53), .int (nI ((t.1 52).2.2 0)), .ref (ad 54), .ref (ad 55), .ref (ad 56), .ref (ad 57), .ref (ad 58), .ref (ad 59), .ref (ad 60), .ref (ad 61), .int ((t.1 52).1 0), .int ((t.1 52).1 1), .int ((t.1 52).1 2), .int ((t.1 52).1 3), .int ((t.1 52).1 4), .int ((t.1 52).1 5), .ref (ad 62), .ref (ad 63), .ref (ad 64), .int ((t.1 52).1 6), .int ((t.1 52).1 7), .int ((t.1 52).1 8), .int ((t.1 52).1 9), .int ((t.1 52).1 10), .ref (ad 65), .ref (ad 66), .ref (ad 67), .ref (ad 68), .long ((t.1 52).2.1 0), .long ((t.1 52).2.1 1)]))]) rfl ?_
      refine y_if_ne (tgt := 27) d_Mm_waiting_20 (by decide) (fun c_20 => ?_) (fun c_20 => ?_)
      · refine y_iconst d_Mm_waiting_27 (v := 0) (by decide) ?_
        refine y_iconst d_Mm_waiting_28 (v := 1) (by decide) ?_
        refine y_callV (As := [.int 0, .int 1]) (rest := []) (csC := [((ad 52), .inr (12, [.int 0, .ref (ad 53), .int (nI ((t.1 52).2.2 0)), .ref (ad 54), .ref (ad 55), .ref (ad 56), .ref (ad 57), .ref (ad 58), .ref (ad 59), .ref (ad 60), .ref (ad 61), .int ((t.1 52).1 0), .int ((t.1 52).1 1), .int ((t.1 52).1 2), .int ((t.1 52).1 3), .int ((t.1 52).1 4), .int ((t.1 52).1 5), .ref (ad 62), .ref (ad 63), .ref (ad 64), .int ((t.1 52).1 6), .int ((t.1 52).1 7), .int ((t.1 52).1 8), .int ((t.1 52).1 9), .int ((t.1 52).1 10), .ref (ad 65), .ref (ad 66), .ref (ad 67), .ref (ad 68), .long ((t.1 52).2.1 0), .long ((t.1 52).2.1 1)]))]) (is := [0]) (q0 := 0) rfl rfl ln_Mm_103 w_im_Mm_fails w_se_Mm_fails ok_Mm_waiting_Mm_fails d_Mm_waiting_29 (C_Mm_fails0 g (ad 52) (ad 53) (ad 54) (ad 55) (ad 56) (ad 57) (ad 58) (ad 59) (ad 60) (ad 61) (ad 62) (ad 63) (ad 64) (ad 65) (ad 66) (ad 67) (ad 68) 0 (nI ((t.1 52).2.2 0)) ((t.1 52).1 0) ((t.1 52).1 1) ((t.1 52).1 2) ((t.1 52).1 3) ((t.1 52).1 4) ((t.1 52).1 5) ((t.1 52).1 6) ((t.1 52).1 7) ((t.1 52).1 8) ((t.1 52).1 9) ((t.1 52).1 10) ((t.1 52).2.1 0) ((t.1 52).2.1 1) 1) rfl rfl (Nat.le_of_ble_eq_true rfl) rfl (by decide) (by omega) (by omega) (fun E cs1 hx => ?_) (fun v cs1 hx => ?_)
        · exact absurd hx.1 (by simp)
        · obtain ⟨e1, rfl⟩ := hx
          cases e1
          refine ⟨rfl, ?_⟩
          refine y_st (st2 := [.int 0]) rfl ?_
          refine y_cs (cs2 := [((ad 52), .inr (12, [.int 0, .ref (ad 53), .int (nI ((t.1 52).2.2 0)), .ref (ad 54), .ref (ad 55), .ref (ad 56), .ref (ad 57), .ref (ad 58), .ref (ad 59), .ref (ad 60), .ref (ad 61), .int ((t.1 52).1 0), .int ((t.1 52).1 1), .int ((t.1 52).1 2), .int ((t.1 52).1 3), .int ((t.1 52).1 4), .int ((t.1 52).1 5), .ref (ad 62), .ref (ad 63), .ref (ad 64), .int ((t.1 52).1 6), .int ((t.1 52).1 7), .int ((t.1 52).1 8), .int ((t.1 52).1 9), .int ((t.1 52).1 10), .ref (ad 65), .ref (ad 66), .ref (ad 67), .ref (ad 68), .long ((t.1 52).2.1 0), .long ((t.1 52).2.1 1)]))]) rfl ?_
          refine y_if_eq (tgt := 39) d_Mm_waiting_32 (by decide) (fun c_32 => ?_) (fun c_32 => ?_)
          · refine y_aload_n d_Mm_waiting_39 rfl 0 rfl ?_
            refine y_get fs_Mm_75 d_Mm_waiting_40 (q0 := 0) rfl rfl ?_
            refine y_iload_n d_Mm_waiting_43 rfl 1 rfl ?_
            refine yw_callVL (As := [.int (nI k)]) (rest := []) (ci := 13) rfl (fun wA hA => ((hI.gen (t2 := t) (is := [52]) (L2 := []) hA rfl ⟨kd_52.mpr ⟨_, rfl⟩, trivial⟩ (by decide) (by decide) (fun _ h => nomatch h) (fun _ h => nomatch h) (fun _ _ _ => rfl) (fun h => h) rfl).2.1.1 4 (by decide)).ob) ln_Mm_211 w_im_AL_get w_se_AL_get ok_Mm_waiting_AL_get d_Mm_waiting_44 (fun wA hA => Q_get ((hI.gen (t2 := t) (is := [52]) (L2 := []) hA rfl ⟨kd_52.mpr ⟨_, rfl⟩, trivial⟩ (by decide) (by decide) (fun _ h => nomatch h) (fun _ h => nomatch h) (fun _ _ _ => rfl) (fun h => h) rfl).2.1.1 4 (by decide)) (by rw [hI.c34]; exact hk)) rfl rfl (Nat.le_of_ble_eq_true rfl) (by omega) (by omega) (fun wA44 hA44 E wB44 hx => ?_) (fun wA44 hA44 v wB44 hx => ?_)
            · exact absurd hx.1 (by simp)
            · obtain ⟨e1, e2⟩ := hx
              cases e1
              refine yw_st (st2 := [.ref (u.2.2 4 k)]) rfl ?_
              subst e2
              refine y_go hA44 ?_
              refine y_end (fun wC1 hC1 => ?_)
              have hI9 := (hI.gen (t2 := t) (is := [52]) (L2 := []) hC1 rfl ⟨kd_52.mpr ⟨_, rfl⟩, trivial⟩ (by decide) (by decide) (fun _ h => nomatch h) (fun _ h => nomatch h) (fun _ _ _ => rfl) (fun h => h) rfl)
              have hI := hI9
              obtain ⟨nf_c, hw_c, h0_c⟩ := hI.2.1.2.1 4 (by decide) k (by rw [hI.c34]; exact hk)
              refine y_base (cs := [((ad 52), .inr (12, [.int 0, .ref (ad 53), .int (nI ((t.1 52).2.2 0)), .ref (ad 54), .ref (ad 55), .ref (ad 56), .ref (ad 57), .ref (ad 58), .ref (ad 59), .ref (ad 60), .ref (ad 61), .int ((t.1 52).1 0), .int ((t.1 52).1 1), .int ((t.1 52).1 2), .int ((t.1 52).1 3), .int ((t.1 52).1 4), .int ((t.1 52).1 5), .ref (ad 62), .ref (ad 63), .ref (ad 64), .int ((t.1 52).1 6), .int ((t.1 52).1 7), .int ((t.1 52).1 8), .int ((t.1 52).1 9), .int ((t.1 52).1 10), .ref (ad 65), .ref (ad 66), .ref (ad 67), .ref (ad 68), .long ((t.1 52).2.1 0), .long ((t.1 52).2.1 1)])), ((u.2.2 4 k), .inl (0, 5, .inl ((t.2 4 k).2.1)))]) (z_I.kd (List.forall_mem_cons.mpr ⟨hC1.at (q0 := 0) rfl, (List.forall_mem_cons.mpr ⟨hw_c, (fun _ h => nomatch h)⟩)⟩) (by simp [z_kd])) ?_
              refine y_castA (t := 0) (by decide) lk_Mm_215 d_Mm_waiting_47 (q0 := 1) rfl ?_
              refine y_iconst d_Mm_waiting_50 (v := 4) (by decide) ?_
              refine y_iald d_Mm_waiting_51 (q0 := 1) rfl (fun q => q.elim (by decide) (by decide)) (v := ((t.2 4 k).2.1) 4) rfl ?_
              refine y_iret d_Mm_waiting_52 rfl rfl ?_
              exact fun w1 h1 => ⟨⟨_, rfl⟩, (hI.gen (t2 := t) (is := [52]) (L2 := [(u.2.2 4 k)]) h1 rfl ⟨kd_52.mpr ⟨_, rfl⟩, trivial⟩ (by decide) (by decide) (List.forall_mem_cons.mpr ⟨nf_c, (fun _ h => nomatch h)⟩) (List.forall_mem_cons.mpr ⟨⟨_, hw_c, h1.at (q0 := 1) rfl⟩, (fun _ h => nomatch h)⟩) (fun _ _ _ => rfl) (fun h => h) rfl)⟩
          · exact absurd c_32 (by decide)
      · exact absurd c_20 (by decide)
theorem d_Mm_weld_20 : decode prog_14_method_87_code 20 = .ok (.aload_n 0, 1) := zo_42 (zd_b zq_prog_14_method_87_code_0 20 rfl rfl rfl)
theorem d_Mm_weld_21 : decode prog_14_method_87_code 21 = .ok (.getfield 78, 3) := zo_180 (d := 0) (e := 78) (zd_b zq_prog_14_method_87_code_0 21 rfl rfl rfl) (zd_b zq_prog_14_method_87_code_0 22 rfl rfl rfl) (zd_b zq_prog_14_method_87_code_0 23 rfl rfl rfl)
theorem d_Mm_weld_24 : decode prog_14_method_87_code 24 = .ok (.iload_n 1, 1) := zo_27 (zd_b zq_prog_14_method_87_code_0 24 rfl rfl rfl)
theorem d_Mm_weld_25 : decode prog_14_method_87_code 25 = .ok (.invokevirtual 211, 3) := zo_182 (d := 0) (e := 211) (zd_b zq_prog_14_method_87_code_0 25 rfl rfl rfl) (zd_b zq_prog_14_method_87_code_0 26 rfl rfl rfl) (zd_b zq_prog_14_method_87_code_0 27 rfl rfl rfl)
theorem ok_Mm_weld_AL_get : z_ok M_Mm_weld M_AL_get 1 := ⟨z_mj2 (i := 180) rfl (by decide +kernel), rfl, ⟨by decide +kernel, by decide +kernel, by decide +kernel⟩, ⟨by decide, by decide⟩, z_mj1 (i := 13) rfl (by decide +kernel), rfl⟩
theorem d_Mm_weld_28 : decode prog_14_method_87_code 28 = .ok (.checkcast 215, 3) := zo_192 (d := 0) (e := 215) (zd_b zq_prog_14_method_87_code_0 28 rfl rfl rfl) (zd_b zq_prog_14_method_87_code_0 29 rfl rfl rfl) (zd_b zq_prog_14_method_87_code_0 30 rfl rfl rfl)
theorem d_Mm_weld_31 : decode prog_14_method_87_code 31 = .ok (.astore_n 2, 1) := zo_77 (zd_b zq_prog_14_method_87_code_0 31 rfl rfl rfl)
theorem d_Mm_weld_32 : decode prog_14_method_87_code 32 = .ok (.aload_n 0, 1) := zo_42 (zd_b zq_prog_14_method_87_code_1 0 rfl rfl rfl)
theorem d_Mm_weld_33 : decode prog_14_method_87_code 33 = .ok (.aload_n 2, 1) := zo_44 (zd_b zq_prog_14_method_87_code_1 1 rfl rfl rfl)
theorem d_Mm_weld_34 : decode prog_14_method_87_code 34 = .ok (.iconst 4, 1) := zo_7 (zd_b zq_prog_14_method_87_code_1 2 rfl rfl rfl)
theorem d_Mm_weld_35 : decode prog_14_method_87_code 35 = .ok (.iaload, 1) := zo_46 (zd_b zq_prog_14_method_87_code_1 3 rfl rfl rfl)
theorem d_Mm_weld_36 : decode prog_14_method_87_code 36 = .ok (.iconst 1, 1) := zo_4 (zd_b zq_prog_14_method_87_code_1 4 rfl rfl rfl)
theorem d_Mm_weld_37 : decode prog_14_method_87_code 37 = .ok (.if_icmp .eq 12, 3) := zo_159 (d := 0) (e := 12) (zd_b zq_prog_14_method_87_code_1 5 rfl rfl rfl) (zd_b zq_prog_14_method_87_code_1 6 rfl rfl rfl) (zd_b zq_prog_14_method_87_code_1 7 rfl rfl rfl) (by decide +kernel)
theorem d_Mm_weld_40 : decode prog_14_method_87_code 40 = .ok (.aload_n 2, 1) := zo_44 (zd_b zq_prog_14_method_87_code_1 8 rfl rfl rfl)
theorem d_Mm_weld_41 : decode prog_14_method_87_code 41 = .ok (.iconst 2, 1) := zo_5 (zd_b zq_prog_14_method_87_code_1 9 rfl rfl rfl)
theorem d_Mm_weld_42 : decode prog_14_method_87_code 42 = .ok (.iaload, 1) := zo_46 (zd_b zq_prog_14_method_87_code_1 10 rfl rfl rfl)
theorem d_Mm_weld_43 : decode prog_14_method_87_code 43 = .ok (.bipush 32, 2) := zo_16 (d := 32) (zd_b zq_prog_14_method_87_code_1 11 rfl rfl rfl) (zd_b zq_prog_14_method_87_code_1 12 rfl rfl rfl) (by decide +kernel)
theorem d_Mm_weld_45 : decode prog_14_method_87_code 45 = .ok (.iand, 1) := zo_126 (zd_b zq_prog_14_method_87_code_1 13 rfl rfl rfl)
theorem d_Mm_weld_46 : decode prog_14_method_87_code 46 = .ok (.ifCond .eq 7, 3) := zo_153 (d := 0) (e := 7) (zd_b zq_prog_14_method_87_code_1 14 rfl rfl rfl) (zd_b zq_prog_14_method_87_code_1 15 rfl rfl rfl) (zd_b zq_prog_14_method_87_code_1 16 rfl rfl rfl) (by decide +kernel)
theorem d_Mm_weld_53 : decode prog_14_method_87_code 53 = .ok (.iconst 0, 1) := zo_3 (zd_b zq_prog_14_method_87_code_1 21 rfl rfl rfl)
theorem d_Mm_weld_54 : decode prog_14_method_87_code 54 = .ok (.iconst 2, 1) := zo_5 (zd_b zq_prog_14_method_87_code_1 22 rfl rfl rfl)
theorem d_Mm_weld_55 : decode prog_14_method_87_code 55 = .ok (.invokevirtual 103, 3) := zo_182 (d := 0) (e := 103) (zd_b zq_prog_14_method_87_code_1 23 rfl rfl rfl) (zd_b zq_prog_14_method_87_code_1 24 rfl rfl rfl) (zd_b zq_prog_14_method_87_code_1 25 rfl rfl rfl)
theorem d_Mm_weld_58 : decode prog_14_method_87_code 58 = .ok (.ifCond .ne 22, 3) := zo_154 (d := 0) (e := 22) (zd_b zq_prog_14_method_87_code_1 26 rfl rfl rfl) (zd_b zq_prog_14_method_87_code_1 27 rfl rfl rfl) (zd_b zq_prog_14_method_87_code_1 28 rfl rfl rfl) (by decide +kernel)
theorem d_Mm_weld_61 : decode prog_14_method_87_code 61 = .ok (.aload_n 0, 1) := zo_42 (zd_b zq_prog_14_method_87_code_1 29 rfl rfl rfl)
theorem d_Mm_weld_62 : decode prog_14_method_87_code 62 = .ok (.aload_n 2, 1) := zo_44 (zd_b zq_prog_14_method_87_code_1 30 rfl rfl rfl)
theorem d_Mm_weld_63 : decode prog_14_method_87_code 63 = .ok (.iconst 5, 1) := zo_8 (zd_b zq_prog_14_method_87_code_1 31 rfl rfl rfl)
theorem d_Mm_weld_64 : decode prog_14_method_87_code 64 = .ok (.iaload, 1) := zo_46 (zd_b zq_prog_14_method_87_code_2 0 rfl rfl rfl)
theorem d_Mm_weld_65 : decode prog_14_method_87_code 65 = .ok (.ifCond .eq 7, 3) := zo_153 (d := 0) (e := 7) (zd_b zq_prog_14_method_87_code_2 1 rfl rfl rfl) (zd_b zq_prog_14_method_87_code_2 2 rfl rfl rfl) (zd_b zq_prog_14_method_87_code_2 3 rfl rfl rfl) (by decide +kernel)
theorem d_Mm_weld_72 : decode prog_14_method_87_code 72 = .ok (.iconst 0, 1) := zo_3 (zd_b zq_prog_14_method_87_code_2 8 rfl rfl rfl)
theorem d_Mm_weld_73 : decode prog_14_method_87_code 73 = .ok (.iconst 3, 1) := zo_6 (zd_b zq_prog_14_method_87_code_2 9 rfl rfl rfl)
theorem d_Mm_weld_74 : decode prog_14_method_87_code 74 = .ok (.invokevirtual 103, 3) := zo_182 (d := 0) (e := 103) (zd_b zq_prog_14_method_87_code_2 10 rfl rfl rfl) (zd_b zq_prog_14_method_87_code_2 11 rfl rfl rfl) (zd_b zq_prog_14_method_87_code_2 12 rfl rfl rfl)
theorem d_Mm_weld_77 : decode prog_14_method_87_code 77 = .ok (.ifCond .eq 5, 3) := zo_153 (d := 0) (e := 5) (zd_b zq_prog_14_method_87_code_2 13 rfl rfl rfl) (zd_b zq_prog_14_method_87_code_2 14 rfl rfl rfl) (zd_b zq_prog_14_method_87_code_2 15 rfl rfl rfl) (by decide +kernel)
theorem d_Mm_weld_82 : decode prog_14_method_87_code 82 = .ok (.aload_n 2, 1) := zo_44 (zd_b zq_prog_14_method_87_code_2 18 rfl rfl rfl)
theorem d_Mm_weld_83 : decode prog_14_method_87_code 83 = .ok (.iconst 2, 1) := zo_5 (zd_b zq_prog_14_method_87_code_2 19 rfl rfl rfl)
theorem d_Mm_weld_84 : decode prog_14_method_87_code 84 = .ok (.iaload, 1) := zo_46 (zd_b zq_prog_14_method_87_code_2 20 rfl rfl rfl)
theorem d_Mm_weld_85 : decode prog_14_method_87_code 85 = .ok (.iconst 4, 1) := zo_7 (zd_b zq_prog_14_method_87_code_2 21 rfl rfl rfl)
theorem d_Mm_weld_86 : decode prog_14_method_87_code 86 = .ok (.iand, 1) := zo_126 (zd_b zq_prog_14_method_87_code_2 22 rfl rfl rfl)
theorem d_Mm_weld_87 : decode prog_14_method_87_code 87 = .ok (.ifCond .eq 7, 3) := zo_153 (d := 0) (e := 7) (zd_b zq_prog_14_method_87_code_2 23 rfl rfl rfl) (zd_b zq_prog_14_method_87_code_2 24 rfl rfl rfl) (zd_b zq_prog_14_method_87_code_2 25 rfl rfl rfl) (by decide +kernel)
theorem d_Mm_weld_94 : decode prog_14_method_87_code 94 = .ok (.iconst 0, 1) := zo_3 (zd_b zq_prog_14_method_87_code_2 30 rfl rfl rfl)
theorem d_Mm_weld_95 : decode prog_14_method_87_code 95 = .ok (.istore_n 3, 1) := zo_62 (zd_b zq_prog_14_method_87_code_2 31 rfl rfl rfl)
theorem d_Mm_weld_96 : decode prog_14_method_87_code 96 = .ok (.aload_n 2, 1) := zo_44 (zd_b zq_prog_14_method_87_code_3 0 rfl rfl rfl)
theorem d_Mm_weld_97 : decode prog_14_method_87_code 97 = .ok (.iconst 2, 1) := zo_5 (zd_b zq_prog_14_method_87_code_3 1 rfl rfl rfl)
theorem d_Mm_weld_98 : decode prog_14_method_87_code 98 = .ok (.dup2, 1) := zo_92 (zd_b zq_prog_14_method_87_code_3 2 rfl rfl rfl)
theorem d_Mm_weld_99 : decode prog_14_method_87_code 99 = .ok (.iaload, 1) := zo_46 (zd_b zq_prog_14_method_87_code_3 3 rfl rfl rfl)
theorem d_Mm_weld_100 : decode prog_14_method_87_code 100 = .ok (.bipush (-5), 2) := zo_16 (d := 251) (zd_b zq_prog_14_method_87_code_3 4 rfl rfl rfl) (zd_b zq_prog_14_method_87_code_3 5 rfl rfl rfl) (by decide +kernel)
theorem d_Mm_weld_102 : decode prog_14_method_87_code 102 = .ok (.iand, 1) := zo_126 (zd_b zq_prog_14_method_87_code_3 6 rfl rfl rfl)
theorem d_Mm_weld_103 : decode prog_14_method_87_code 103 = .ok (.iastore, 1) := zo_79 (zd_b zq_prog_14_method_87_code_3 7 rfl rfl rfl)
theorem d_Mm_weld_104 : decode prog_14_method_87_code 104 = .ok (.iload_n 3, 1) := zo_29 (zd_b zq_prog_14_method_87_code_3 8 rfl rfl rfl)
theorem d_Mm_weld_105 : decode prog_14_method_87_code 105 = .ok (.ireturn, 1) := zo_172 (zd_b zq_prog_14_method_87_code_3 9 rfl rfl rfl)
theorem d_Mm_weld_90 : decode prog_14_method_87_code 90 = .ok (.iconst 1, 1) := zo_4 (zd_b zq_prog_14_method_87_code_2 26 rfl rfl rfl)
theorem d_Mm_weld_91 : decode prog_14_method_87_code 91 = .ok (.goto 4, 3) := zo_167 (d := 0) (e := 4) (zd_b zq_prog_14_method_87_code_2 27 rfl rfl rfl) (zd_b zq_prog_14_method_87_code_2 28 rfl rfl rfl) (zd_b zq_prog_14_method_87_code_2 29 rfl rfl rfl) (by decide +kernel)
set_option maxHeartbeats 4000000 in
set_option maxRecDepth 100000 in
theorem Qx_Mm_weldN {g : zG} {ad : Nat → Nat} {t : zTT} {u : zNN} {w : zW} (hI : IV g ad t u w) (k : Nat) (hk : k < u.1 5) (h1 : ¬ (t.2 5 k).2.1 4 = 1) (h2 : (t.2 5 k).2.1 2 &&& 32 = 0) (h3 : (t.2 5 k).2.1 5 = 0) : zMB g M_Mm_weld [.ref (ad 52), .int (nI k)] w (fun o w1 => o = .inl (some (.int (if (t.2 5 k).2.1 2 &&& 4 = 0 then 0 else 1))) ∧ IV g ad (t.1, vup t.2 5 k ((t.2 5 k).1, upd ((t.2 5 k).2.1) 2 ((t.2 5 k).2.1 2 &&& (-5)), (t.2 5 k).2.2)) u w1) 0 0 := by
  obtain ⟨e_m, wf_m, k_m⟩ := hI.1.2 52 (by decide)
  obtain ⟨v_m_th, rfl⟩ := kd_52.mp k_m
  refine y_of (by decide) rfl (Nat.le_of_ble_eq_true rfl) (y_base (cs := [((ad 52), .inr (12, [.int v_m_th, .ref (ad 53), .int (nI ((t.1 52).2.2 0)), .ref (ad 54), .ref (ad 55), .ref (ad 56), .ref (ad 57), .ref (ad 58), .ref (ad 59), .ref (ad 60), .ref (ad 61), .int ((t.1 52).1 0), .int ((t.1 52).1 1), .int ((t.1 52).1 2), .int ((t.1 52).1 3), .int ((t.1 52).1 4), .int ((t.1 52).1 5), .ref (ad 62), .ref (ad 63), .ref (ad 64), .int ((t.1 52).1 6), .int ((t.1 52).1 7), .int ((t.1 52).1 8), .int ((t.1 52).1 9), .int ((t.1 52).1 10), .ref (ad 65), .ref (ad 66), .ref (ad 67), .ref (ad 68), .long ((t.1 52).2.1 0), .long ((t.1 52).2.1 1)]))]) (hI.1.I [52] _ rfl (by decide) (by decide) (List.forall_mem_cons.mpr ⟨wf_m, (fun _ h => nomatch h)⟩)) ?_)
  refine y_lvE (lv2 := [(0, .ref (ad 52)), (1, .int (nI k))]) rfl ?_
  refine y_aload_n d_Mm_weld_0 rfl 0 rfl ?_
  refine y_iconst d_Mm_weld_1 (v := 0) (by decide) ?_
  refine y_put fp_Mm_84 d_Mm_weld_2 (fun h => nomatch h) rfl rfl (q0 := 0) rfl (Nat.le_of_ble_eq_true rfl) (cs' := [((ad 52), .inr (12, [.int 0, .ref (ad 53), .int (nI ((t.1 52).2.2 0)), .ref (ad 54), .ref (ad 55), .ref (ad 56), .ref (ad 57), .ref (ad 58), .ref (ad 59), .ref (ad 60), .ref (ad 61), .int ((t.1 52).1 0), .int ((t.1 52).1 1), .int ((t.1 52).1 2), .int ((t.1 52).1 3), .int ((t.1 52).1 4), .int ((t.1 52).1 5), .ref (ad 62), .ref (ad 63), .ref (ad 64), .int ((t.1 52).1 6), .int ((t.1 52).1 7), .int ((t.1 52).1 8), .int ((t.1 52).1 9), .int ((t.1 52).1 10), .ref (ad 65), .ref (ad 66), .ref (ad 67), .ref (ad 68), .long ((t.1 52).2.1 0), .long ((t.1 52).2.1 1)]))]) rfl ?_
  refine y_aload_n d_Mm_weld_5 rfl 0 rfl ?_
  refine y_aload_n d_Mm_weld_6 rfl 0 rfl ?_
  refine y_iload_n d_Mm_weld_7 rfl 1 rfl ?_
  refine yw_callV (As := [.int (nI k)]) (rest := [.ref (ad 52)]) (q0 := 0) rfl rfl ln_Mm_301 w_im_Mm_noCasting w_se_Mm_noCasting ok_Mm_weld_Mm_noCasting d_Mm_weld_8 (fun wA hA => Q_noCasting0 (hI.gen (t2 := t) (is := [52]) (L2 := []) hA rfl ⟨kd_52.mpr ⟨_, rfl⟩, trivial⟩ (by decide) (by decide) (fun _ h => nomatch h) (fun _ h => nomatch h) (fun _ _ _ => rfl) (fun h => h) rfl) (nI k) ⟨k, hk, rfl⟩) rfl rfl (Nat.le_of_ble_eq_true rfl) (by omega) (by omega) (fun wA8 hA8 E wB8 hx => ?_) (fun wA8 hA8 v wB8 hx => ?_)
  · exact absurd hx.1 (by simp)
  · obtain ⟨e1, e2⟩ := hx
    cases e1
    refine yw_st (st2 := [.int 0, .ref (ad 52)]) rfl ?_
    subst e2
    refine y_go hA8 ?_
    refine y_iconst d_Mm_weld_11 (v := 1) (by decide) ?_
    refine y_callV (As := [.int 0, .int 1]) (rest := []) (csC := [((ad 52), .inr (12, [.int 0, .ref (ad 53), .int (nI ((t.1 52).2.2 0)), .ref (ad 54), .ref (ad 55), .ref (ad 56), .ref (ad 57), .ref (ad 58), .ref (ad 59), .ref (ad 60), .ref (ad 61), .int ((t.1 52).1 0), .int ((t.1 52).1 1), .int ((t.1 52).1 2), .int ((t.1 52).1 3), .int ((t.1 52).1 4), .int ((t.1 52).1 5), .ref (ad 62), .ref (ad 63), .ref (ad 64), .int ((t.1 52).1 6), .int ((t.1 52).1 7), .int ((t.1 52).1 8), .int ((t.1 52).1 9), .int ((t.1 52).1 10), .ref (ad 65), .ref (ad 66), .ref (ad 67), .ref (ad 68), .long ((t.1 52).2.1 0), .long ((t.1 52).2.1 1)]))]) (is := [0]) (q0 := 0) rfl rfl ln_Mm_103 w_im_Mm_fails w_se_Mm_fails ok_Mm_weld_Mm_fails d_Mm_weld_12 (C_Mm_fails0 g (ad 52) (ad 53) (ad 54) (ad 55) (ad 56) (ad 57) (ad 58) (ad 59) (ad 60) (ad 61) (ad 62) (ad 63) (ad 64) (ad 65) (ad 66) (ad 67) (ad 68) 0 (nI ((t.1 52).2.2 0)) ((t.1 52).1 0) ((t.1 52).1 1) ((t.1 52).1 2) ((t.1 52).1 3) ((t.1 52).1 4) ((t.1 52).1 5) ((t.1 52).1 6) ((t.1 52).1 7) ((t.1 52).1 8) ((t.1 52).1 9) ((t.1 52).1 10) ((t.1 52).2.1 0) ((t.1 52).2.1 1) 1) rfl rfl (Nat.le_of_ble_eq_true rfl) rfl (by decide) (by omega) (by omega) (fun E cs1 hx => ?_) (fun v cs1 hx => ?_)
    · exact absurd hx.1 (by simp)
    · obtain ⟨e1, rfl⟩ := hx
      cases e1
      refine ⟨rfl, ?_⟩
      refine y_st (st2 := [.int 0]) rfl ?_
      refine y_cs (cs2 := [((ad 52), .inr (12, [.int 0, .ref (ad 53), .int (nI ((t.1 52).2.2 0)), .ref (ad 54), .ref (ad 55), .ref (ad 56), .ref (ad 57), .ref (ad 58), .ref (ad 59), .ref (ad 60), .ref (ad 61), .int ((t.1 52).1 0), .int ((t.1 52).1 1), .int ((t.1 52).1 2), .int ((t.1 52).1 3), .int ((t.1 52).1 4), .int ((t.1 52).1 5), .ref (ad 62), .ref (ad 63), .ref (ad 64), .int ((t.1 52).1 6), .int ((t.1 52).1 7), .int ((t.1 52).1 8), .int ((t.1 52).1 9), .int ((t.1 52).1 10), .ref (ad 65), .ref (ad 66), .ref (ad 67), .ref (ad 68), .long ((t.1 52).2.1 0), .long ((t.1 52).2.1 1)]))]) rfl ?_
      refine y_if_eq (tgt := 20) d_Mm_weld_15 (by decide) (fun c_15 => ?_) (fun c_15 => ?_)
      · refine y_aload_n d_Mm_weld_20 rfl 0 rfl ?_
        refine y_get fs_Mm_78 d_Mm_weld_21 (q0 := 0) rfl rfl ?_
        refine y_iload_n d_Mm_weld_24 rfl 1 rfl ?_
        refine yw_callVL (As := [.int (nI k)]) (rest := []) (ci := 13) rfl (fun wA hA => ((hI.gen (t2 := t) (is := [52]) (L2 := []) hA rfl ⟨kd_52.mpr ⟨_, rfl⟩, trivial⟩ (by decide) (by decide) (fun _ h => nomatch h) (fun _ h => nomatch h) (fun _ _ _ => rfl) (fun h => h) rfl).2.1.1 5 (by decide)).ob) ln_Mm_211 w_im_AL_get w_se_AL_get ok_Mm_weld_AL_get d_Mm_weld_25 (fun wA hA => Q_get ((hI.gen (t2 := t) (is := [52]) (L2 := []) hA rfl ⟨kd_52.mpr ⟨_, rfl⟩, trivial⟩ (by decide) (by decide) (fun _ h => nomatch h) (fun _ h => nomatch h) (fun _ _ _ => rfl) (fun h => h) rfl).2.1.1 5 (by decide)) hk) rfl rfl (Nat.le_of_ble_eq_true rfl) (by omega) (by omega) (fun wA25 hA25 E wB25 hx => ?_) (fun wA25 hA25 v wB25 hx => ?_)
        · exact absurd hx.1 (by simp)
        · obtain ⟨e1, e2⟩ := hx
          cases e1
          refine yw_st (st2 := [.ref (u.2.2 5 k)]) rfl ?_
          subst e2
          refine y_go hA25 ?_
          refine y_end (fun wC1 hC1 => ?_)
          have hI9 := (hI.gen (t2 := t) (is := [52]) (L2 := []) hC1 rfl ⟨kd_52.mpr ⟨_, rfl⟩, trivial⟩ (by decide) (by decide) (fun _ h => nomatch h) (fun _ h => nomatch h) (fun _ _ _ => rfl) (fun h => h) rfl)
          have hI := hI9
          obtain ⟨nf_c, hw_c, h0_c⟩ := hI.2.1.2.1 5 (by decide) k hk
          refine y_base (cs := [((ad 52), .inr (12, [.int 0, .ref (ad 53), .int (nI ((t.1 52).2.2 0)), .ref (ad 54), .ref (ad 55), .ref (ad 56), .ref (ad 57), .ref (ad 58), .ref (ad 59), .ref (ad 60), .ref (ad 61), .int ((t.1 52).1 0), .int ((t.1 52).1 1), .int ((t.1 52).1 2), .int ((t.1 52).1 3), .int ((t.1 52).1 4), .int ((t.1 52).1 5), .ref (ad 62), .ref (ad 63), .ref (ad 64), .int ((t.1 52).1 6), .int ((t.1 52).1 7), .int ((t.1 52).1 8), .int ((t.1 52).1 9), .int ((t.1 52).1 10), .ref (ad 65), .ref (ad 66), .ref (ad 67), .ref (ad 68), .long ((t.1 52).2.1 0), .long ((t.1 52).2.1 1)])), ((u.2.2 5 k), .inl (0, 6, .inl ((t.2 5 k).2.1)))]) (z_I.kd (List.forall_mem_cons.mpr ⟨hC1.at (q0 := 0) rfl, (List.forall_mem_cons.mpr ⟨hw_c, (fun _ h => nomatch h)⟩)⟩) (by simp [z_kd])) ?_
          refine y_castA (t := 0) (by decide) lk_Mm_215 d_Mm_weld_28 (q0 := 1) rfl ?_
          refine y_astore_n (lv' := [(2, .ref (u.2.2 5 k)), (0, .ref (ad 52)), (1, .int (nI k))]) d_Mm_weld_31 rfl (by decide) rfl ?_
          refine y_aload_n d_Mm_weld_32 rfl 1 rfl ?_
          refine y_aload_n d_Mm_weld_33 rfl 0 rfl ?_
          refine y_iconst d_Mm_weld_34 (v := 4) (by decide) ?_
          refine y_iald d_Mm_weld_35 (q0 := 1) rfl (fun q => q.elim (by decide) (by decide)) (v := ((t.2 5 k).2.1) 4) rfl ?_
          refine y_iconst d_Mm_weld_36 (v := 1) (by decide) ?_
          refine y_icmp_eq (tgt := 49) d_Mm_weld_37 (by decide) (fun c_37 => ?_) (fun c_37 => ?_)
          · exact absurd c_37 h1
          · refine y_aload_n d_Mm_weld_40 rfl 0 rfl ?_
            refine y_iconst d_Mm_weld_41 (v := 2) (by decide) ?_
            refine y_iald d_Mm_weld_42 (q0 := 1) rfl (fun q => q.elim (by decide) (by decide)) (v := ((t.2 5 k).2.1) 2) rfl ?_
            refine y_bipush d_Mm_weld_43 (v := 32) (by decide) ?_
            refine y_iand d_Mm_weld_45 (v := (((t.2 5 k).2.1) 2) &&& 32) rfl ?_
            refine y_if_eq (tgt := 53) d_Mm_weld_46 (by decide) (fun c_46 => ?_) (fun c_46 => ?_)
            · refine y_iconst d_Mm_weld_53 (v := 0) (by decide) ?_
              refine y_iconst d_Mm_weld_54 (v := 2) (by decide) ?_
              refine y_callV (As := [.int 0, .int 2]) (rest := []) (csC := [((ad 52), .inr (12, [.int 0, .ref (ad 53), .int (nI ((t.1 52).2.2 0)), .ref (ad 54), .ref (ad 55), .ref (ad 56), .ref (ad 57), .ref (ad 58), .ref (ad 59), .ref (ad 60), .ref (ad 61), .int ((t.1 52).1 0), .int ((t.1 52).1 1), .int ((t.1 52).1 2), .int ((t.1 52).1 3), .int ((t.1 52).1 4), .int ((t.1 52).1 5), .ref (ad 62), .ref (ad 63), .ref (ad 64), .int ((t.1 52).1 6), .int ((t.1 52).1 7), .int ((t.1 52).1 8), .int ((t.1 52).1 9), .int ((t.1 52).1 10), .ref (ad 65), .ref (ad 66), .ref (ad 67), .ref (ad 68), .long ((t.1 52).2.1 0), .long ((t.1 52).2.1 1)]))]) (is := [0]) (q0 := 0) rfl rfl ln_Mm_103 w_im_Mm_fails w_se_Mm_fails ok_Mm_weld_Mm_fails d_Mm_weld_55 (C_Mm_fails0 g (ad 52) (ad 53) (ad 54) (ad 55) (ad 56) (ad 57) (ad 58) (ad 59) (ad 60) (ad 61) (ad 62) (ad 63) (ad 64) (ad 65) (ad 66) (ad 67) (ad 68) 0 (nI ((t.1 52).2.2 0)) ((t.1 52).1 0) ((t.1 52).1 1) ((t.1 52).1 2) ((t.1 52).1 3) ((t.1 52).1 4) ((t.1 52).1 5) ((t.1 52).1 6) ((t.1 52).1 7) ((t.1 52).1 8) ((t.1 52).1 9) ((t.1 52).1 10) ((t.1 52).2.1 0) ((t.1 52).2.1 1) 2) rfl rfl (Nat.le_of_ble_eq_true rfl) rfl (by decide) (by omega) (by omega) (fun E cs1 hx => ?_) (fun v cs1 hx => ?_)
              · exact absurd hx.1 (by simp)
              · obtain ⟨e1, rfl⟩ := hx
                cases e1
                refine ⟨rfl, ?_⟩
                refine y_st (st2 := [.int 0]) rfl ?_
                refine y_cs (cs2 := [((ad 52), .inr (12, [.int 0, .ref (ad 53), .int (nI ((t.1 52).2.2 0)), .ref (ad 54), .ref (ad 55), .ref (ad 56), .ref (ad 57), .ref (ad 58), .ref (ad 59), .ref (ad 60), .ref (ad 61), .int ((t.1 52).1 0), .int ((t.1 52).1 1), .int ((t.1 52).1 2), .int ((t.1 52).1 3), .int ((t.1 52).1 4), .int ((t.1 52).1 5), .ref (ad 62), .ref (ad 63), .ref (ad 64), .int ((t.1 52).1 6), .int ((t.1 52).1 7), .int ((t.1 52).1 8), .int ((t.1 52).1 9), .int ((t.1 52).1 10), .ref (ad 65), .ref (ad 66), .ref (ad 67), .ref (ad 68), .long ((t.1 52).2.1 0), .long ((t.1 52).2.1 1)])), ((u.2.2 5 k), .inl (0, 6, .inl ((t.2 5 k).2.1)))]) rfl ?_
                refine y_if_ne (tgt := 80) d_Mm_weld_58 (by decide) (fun c_58 => ?_) (fun c_58 => ?_)
                · exact absurd c_58 (by decide)
                · refine y_aload_n d_Mm_weld_61 rfl 1 rfl ?_
                  refine y_aload_n d_Mm_weld_62 rfl 0 rfl ?_
                  refine y_iconst d_Mm_weld_63 (v := 5) (by decide) ?_
                  refine y_iald d_Mm_weld_64 (q0 := 1) rfl (fun q => q.elim (by decide) (by decide)) (v := ((t.2 5 k).2.1) 5) rfl ?_
                  refine y_if_eq (tgt := 72) d_Mm_weld_65 (by decide) (fun c_65 => ?_) (fun c_65 => ?_)
                  · refine y_iconst d_Mm_weld_72 (v := 0) (by decide) ?_
                    refine y_iconst d_Mm_weld_73 (v := 3) (by decide) ?_
                    refine y_callV (As := [.int 0, .int 3]) (rest := []) (csC := [((ad 52), .inr (12, [.int 0, .ref (ad 53), .int (nI ((t.1 52).2.2 0)), .ref (ad 54), .ref (ad 55), .ref (ad 56), .ref (ad 57), .ref (ad 58), .ref (ad 59), .ref (ad 60), .ref (ad 61), .int ((t.1 52).1 0), .int ((t.1 52).1 1), .int ((t.1 52).1 2), .int ((t.1 52).1 3), .int ((t.1 52).1 4), .int ((t.1 52).1 5), .ref (ad 62), .ref (ad 63), .ref (ad 64), .int ((t.1 52).1 6), .int ((t.1 52).1 7), .int ((t.1 52).1 8), .int ((t.1 52).1 9), .int ((t.1 52).1 10), .ref (ad 65), .ref (ad 66), .ref (ad 67), .ref (ad 68), .long ((t.1 52).2.1 0), .long ((t.1 52).2.1 1)]))]) (is := [0]) (q0 := 0) rfl rfl ln_Mm_103 w_im_Mm_fails w_se_Mm_fails ok_Mm_weld_Mm_fails d_Mm_weld_74 (C_Mm_fails0 g (ad 52) (ad 53) (ad 54) (ad 55) (ad 56) (ad 57) (ad 58) (ad 59) (ad 60) (ad 61) (ad 62) (ad 63) (ad 64) (ad 65) (ad 66) (ad 67) (ad 68) 0 (nI ((t.1 52).2.2 0)) ((t.1 52).1 0) ((t.1 52).1 1) ((t.1 52).1 2) ((t.1 52).1 3) ((t.1 52).1 4) ((t.1 52).1 5) ((t.1 52).1 6) ((t.1 52).1 7) ((t.1 52).1 8) ((t.1 52).1 9) ((t.1 52).1 10) ((t.1 52).2.1 0) ((t.1 52).2.1 1) 3) rfl rfl (Nat.le_of_ble_eq_true rfl) rfl (by decide) (by omega) (by omega) (fun E cs1 hx => ?_) (fun v cs1 hx => ?_)
                    · exact absurd hx.1 (by simp)
                    · obtain ⟨e1, rfl⟩ := hx
                      cases e1
                      refine ⟨rfl, ?_⟩
                      refine y_st (st2 := [.int 0]) rfl ?_
                      refine y_cs (cs2 := [((ad 52), .inr (12, [.int 0, .ref (ad 53), .int (nI ((t.1 52).2.2 0)), .ref (ad 54), .ref (ad 55), .ref (ad 56), .ref (ad 57), .ref (ad 58), .ref (ad 59), .ref (ad 60), .ref (ad 61), .int ((t.1 52).1 0), .int ((t.1 52).1 1), .int ((t.1 52).1 2), .int ((t.1 52).1 3), .int ((t.1 52).1 4), .int ((t.1 52).1 5), .ref (ad 62), .ref (ad 63), .ref (ad 64), .int ((t.1 52).1 6), .int ((t.1 52).1 7), .int ((t.1 52).1 8), .int ((t.1 52).1 9), .int ((t.1 52).1 10), .ref (ad 65), .ref (ad 66), .ref (ad 67), .ref (ad 68), .long ((t.1 52).2.1 0), .long ((t.1 52).2.1 1)])), ((u.2.2 5 k), .inl (0, 6, .inl ((t.2 5 k).2.1)))]) rfl ?_
                      refine y_if_eq (tgt := 82) d_Mm_weld_77 (by decide) (fun c_77 => ?_) (fun c_77 => ?_)
                      · refine y_aload_n d_Mm_weld_82 rfl 0 rfl ?_
                        refine y_iconst d_Mm_weld_83 (v := 2) (by decide) ?_
                        refine y_iald d_Mm_weld_84 (q0 := 1) rfl (fun q => q.elim (by decide) (by decide)) (v := ((t.2 5 k).2.1) 2) rfl ?_
                        refine y_iconst d_Mm_weld_85 (v := 4) (by decide) ?_
                        refine y_iand d_Mm_weld_86 (v := (((t.2 5 k).2.1) 2) &&& 4) rfl ?_
                        refine y_if_eq (tgt := 94) d_Mm_weld_87 (by decide) (fun c_87 => ?_) (fun c_87 => ?_)
                        · refine y_iconst d_Mm_weld_94 (v := 0) (by decide) ?_
                          refine y_istore_n (lv' := [(3, .int 0), (2, .ref (u.2.2 5 k)), (0, .ref (ad 52)), (1, .int (nI k))]) d_Mm_weld_95 rfl (by decide) rfl ?_
                          refine y_aload_n d_Mm_weld_96 rfl 1 rfl ?_
                          refine y_iconst d_Mm_weld_97 (v := 2) (by decide) ?_
                          refine y_dup2_11 d_Mm_weld_98 rfl rfl ?_
                          refine y_iald d_Mm_weld_99 (q0 := 1) rfl (fun q => q.elim (by decide) (by decide)) (v := ((t.2 5 k).2.1) 2) rfl ?_
                          refine y_bipush d_Mm_weld_100 (v := (-5)) (by decide) ?_
                          refine y_iand d_Mm_weld_102 (v := (((t.2 5 k).2.1) 2) &&& (-5)) rfl ?_
                          refine y_iast d_Mm_weld_103 (q0 := 1) rfl (fun q => q.elim (by decide) (by decide)) (f' := upd ((t.2 5 k).2.1) 2 ((((t.2 5 k).2.1) 2) &&& (-5))) rfl (cs' := [((ad 52), .inr (12, [.int 0, .ref (ad 53), .int (nI ((t.1 52).2.2 0)), .ref (ad 54), .ref (ad 55), .ref (ad 56), .ref (ad 57), .ref (ad 58), .ref (ad 59), .ref (ad 60), .ref (ad 61), .int ((t.1 52).1 0), .int ((t.1 52).1 1), .int ((t.1 52).1 2), .int ((t.1 52).1 3), .int ((t.1 52).1 4), .int ((t.1 52).1 5), .ref (ad 62), .ref (ad 63), .ref (ad 64), .int ((t.1 52).1 6), .int ((t.1 52).1 7), .int ((t.1 52).1 8), .int ((t.1 52).1 9), .int ((t.1 52).1 10), .ref (ad 65), .ref (ad 66), .ref (ad 67), .ref (ad 68), .long ((t.1 52).2.1 0), .long ((t.1 52).2.1 1)])), ((u.2.2 5 k), .inl (0, 6, .inl (upd ((t.2 5 k).2.1) 2 ((((t.2 5 k).2.1) 2) &&& (-5)))))]) rfl ?_
                          refine y_iload_n d_Mm_weld_104 rfl 0 rfl ?_
                          refine y_iret d_Mm_weld_105 rfl rfl ?_
                          exact fun w1 h1 => ⟨(by first | exact congrArg (fun x : Int32 => (.inl (some (.int x)) : zO)) (if_pos c_87).symm | exact congrArg (fun x : Int32 => (.inl (some (.int x)) : zO)) (if_neg c_87).symm), (hI.gen1 (M := 5) (j := k) (v2 := ((t.2 5 k).1, upd ((t.2 5 k).2.1) 2 ((((t.2 5 k).2.1) 2) &&& (-5)), (t.2 5 k).2.2)) (t2 := (t.1, vup t.2 5 k ((t.2 5 k).1, upd ((t.2 5 k).2.1) 2 ((t.2 5 k).2.1 2 &&& (-5)), (t.2 5 k).2.2))) (is := [52]) (L2 := [(u.2.2 5 k)]) (by decide) hk (Or.inr (Or.inr (Or.inr (Or.inr rfl)))) h1 rfl ⟨kd_52.mpr ⟨_, rfl⟩, trivial⟩ (by decide) (by decide) (List.forall_mem_cons.mpr ⟨nf_c, (fun _ h => nomatch h)⟩) (List.forall_mem_cons.mpr ⟨(Or.inl rfl), (fun _ h => nomatch h)⟩) (fun _ _ _ => rfl) (fun h => h) ⟨nf_c, h1.at (q0 := 1) rfl, h0_c⟩ rfl)⟩
                        · refine y_iconst d_Mm_weld_90 (v := 1) (by decide) ?_
                          refine y_goto (tgt := 95) d_Mm_weld_91 (by decide) ?_
                          refine y_istore_n (lv' := [(3, .int 1), (2, .ref (u.2.2 5 k)), (0, .ref (ad 52)), (1, .int (nI k))]) d_Mm_weld_95 rfl (by decide) rfl ?_
                          refine y_aload_n d_Mm_weld_96 rfl 1 rfl ?_
                          refine y_iconst d_Mm_weld_97 (v := 2) (by decide) ?_
                          refine y_dup2_11 d_Mm_weld_98 rfl rfl ?_
                          refine y_iald d_Mm_weld_99 (q0 := 1) rfl (fun q => q.elim (by decide) (by decide)) (v := ((t.2 5 k).2.1) 2) rfl ?_
                          refine y_bipush d_Mm_weld_100 (v := (-5)) (by decide) ?_
                          refine y_iand d_Mm_weld_102 (v := (((t.2 5 k).2.1) 2) &&& (-5)) rfl ?_
                          refine y_iast d_Mm_weld_103 (q0 := 1) rfl (fun q => q.elim (by decide) (by decide)) (f' := upd ((t.2 5 k).2.1) 2 ((((t.2 5 k).2.1) 2) &&& (-5))) rfl (cs' := [((ad 52), .inr (12, [.int 0, .ref (ad 53), .int (nI ((t.1 52).2.2 0)), .ref (ad 54), .ref (ad 55), .ref (ad 56), .ref (ad 57), .ref (ad 58), .ref (ad 59), .ref (ad 60), .ref (ad 61), .int ((t.1 52).1 0), .int ((t.1 52).1 1), .int ((t.1 52).1 2), .int ((t.1 52).1 3), .int ((t.1 52).1 4), .int ((t.1 52).1 5), .ref (ad 62), .ref (ad 63), .ref (ad 64), .int ((t.1 52).1 6), .int ((t.1 52).1 7), .int ((t.1 52).1 8), .int ((t.1 52).1 9), .int ((t.1 52).1 10), .ref (ad 65), .ref (ad 66), .ref (ad 67), .ref (ad 68), .long ((t.1 52).2.1 0), .long ((t.1 52).2.1 1)])), ((u.2.2 5 k), .inl (0, 6, .inl (upd ((t.2 5 k).2.1) 2 ((((t.2 5 k).2.1) 2) &&& (-5)))))]) rfl ?_
                          refine y_iload_n d_Mm_weld_104 rfl 0 rfl ?_
                          refine y_iret d_Mm_weld_105 rfl rfl ?_
                          exact fun w1 h1 => ⟨(by first | exact congrArg (fun x : Int32 => (.inl (some (.int x)) : zO)) (if_pos c_87).symm | exact congrArg (fun x : Int32 => (.inl (some (.int x)) : zO)) (if_neg c_87).symm), (hI.gen1 (M := 5) (j := k) (v2 := ((t.2 5 k).1, upd ((t.2 5 k).2.1) 2 ((((t.2 5 k).2.1) 2) &&& (-5)), (t.2 5 k).2.2)) (t2 := (t.1, vup t.2 5 k ((t.2 5 k).1, upd ((t.2 5 k).2.1) 2 ((t.2 5 k).2.1 2 &&& (-5)), (t.2 5 k).2.2))) (is := [52]) (L2 := [(u.2.2 5 k)]) (by decide) hk (Or.inr (Or.inr (Or.inr (Or.inr rfl)))) h1 rfl ⟨kd_52.mpr ⟨_, rfl⟩, trivial⟩ (by decide) (by decide) (List.forall_mem_cons.mpr ⟨nf_c, (fun _ h => nomatch h)⟩) (List.forall_mem_cons.mpr ⟨(Or.inl rfl), (fun _ h => nomatch h)⟩) (fun _ _ _ => rfl) (fun h => h) ⟨nf_c, h1.at (q0 := 1) rfl, h0_c⟩ rfl)⟩
                      · exact absurd c_77 (by decide)
                  · exact absurd h3 c_65
            · exact absurd h2 c_46
      · exact absurd c_15 (by decide)
theorem d_Mm_weld_68 : decode prog_14_method_87_code 68 = .ok (.iconst 1, 1) := zo_4 (zd_b zq_prog_14_method_87_code_2 4 rfl rfl rfl)
theorem d_Mm_weld_69 : decode prog_14_method_87_code 69 = .ok (.goto 4, 3) := zo_167 (d := 0) (e := 4) (zd_b zq_prog_14_method_87_code_2 5 rfl rfl rfl) (zd_b zq_prog_14_method_87_code_2 6 rfl rfl rfl) (zd_b zq_prog_14_method_87_code_2 7 rfl rfl rfl) (by decide +kernel)
theorem d_Mm_weld_80 : decode prog_14_method_87_code 80 = .ok (.iconst 0, 1) := zo_3 (zd_b zq_prog_14_method_87_code_2 16 rfl rfl rfl)
theorem d_Mm_weld_81 : decode prog_14_method_87_code 81 = .ok (.ireturn, 1) := zo_172 (zd_b zq_prog_14_method_87_code_2 17 rfl rfl rfl)
set_option maxHeartbeats 4000000 in
set_option maxRecDepth 100000 in
theorem Qx_Mm_weldS {g : zG} {ad : Nat → Nat} {t : zTT} {u : zNN} {w : zW} (hI : IV g ad t u w) (k : Nat) (hk : k < u.1 5) (h1 : ¬ (t.2 5 k).2.1 4 = 1) (h2 : (t.2 5 k).2.1 2 &&& 32 = 0) (h3 : ¬ (t.2 5 k).2.1 5 = 0) : zMB g M_Mm_weld [.ref (ad 52), .int (nI k)] w (fun o w1 => o = .inl (some (.int 0)) ∧ IV g ad t u w1) 0 0 := by
  obtain ⟨e_m, wf_m, k_m⟩ := hI.1.2 52 (by decide)
  obtain ⟨v_m_th, rfl⟩ := kd_52.mp k_m
  refine y_of (by decide) rfl (Nat.le_of_ble_eq_true rfl) (y_base (cs := [((ad 52), .inr (12, [.int v_m_th, .ref (ad 53), .int (nI ((t.1 52).2.2 0)), .ref (ad 54), .ref (ad 55), .ref (ad 56), .ref (ad 57), .ref (ad 58), .ref (ad 59), .ref (ad 60), .ref (ad 61), .int ((t.1 52).1 0), .int ((t.1 52).1 1), .int ((t.1 52).1 2), .int ((t.1 52).1 3), .int ((t.1 52).1 4), .int ((t.1 52).1 5), .ref (ad 62), .ref (ad 63), .ref (ad 64), .int ((t.1 52).1 6), .int ((t.1 52).1 7), .int ((t.1 52).1 8), .int ((t.1 52).1 9), .int ((t.1 52).1 10), .ref (ad 65), .ref (ad 66), .ref (ad 67), .ref (ad 68), .long ((t.1 52).2.1 0), .long ((t.1 52).2.1 1)]))]) (hI.1.I [52] _ rfl (by decide) (by decide) (List.forall_mem_cons.mpr ⟨wf_m, (fun _ h => nomatch h)⟩)) ?_)
  refine y_lvE (lv2 := [(0, .ref (ad 52)), (1, .int (nI k))]) rfl ?_
  refine y_aload_n d_Mm_weld_0 rfl 0 rfl ?_
  refine y_iconst d_Mm_weld_1 (v := 0) (by decide) ?_
  refine y_put fp_Mm_84 d_Mm_weld_2 (fun h => nomatch h) rfl rfl (q0 := 0) rfl (Nat.le_of_ble_eq_true rfl) (cs' := [((ad 52), .inr (12, [.int 0, .ref (ad 53), .int (nI ((t.1 52).2.2 0)), .ref (ad 54), .ref (ad 55), .ref (ad 56), .ref (ad 57), .ref (ad 58), .ref (ad 59), .ref (ad 60), .ref (ad 61), .int ((t.1 52).1 0), .int ((t.1 52).1 1), .int ((t.1 52).1 2), .int ((t.1 52).1 3), .int ((t.1 52).1 4), .int ((t.1 52).1 5), .ref (ad 62), .ref (ad 63), .ref (ad 64), .int ((t.1 52).1 6), .int ((t.1 52).1 7), .int ((t.1 52).1 8), .int ((t.1 52).1 9), .int ((t.1 52).1 10), .ref (ad 65), .ref (ad 66), .ref (ad 67), .ref (ad 68), .long ((t.1 52).2.1 0), .long ((t.1 52).2.1 1)]))]) rfl ?_
  refine y_aload_n d_Mm_weld_5 rfl 0 rfl ?_
  refine y_aload_n d_Mm_weld_6 rfl 0 rfl ?_
  refine y_iload_n d_Mm_weld_7 rfl 1 rfl ?_
  refine yw_callV (As := [.int (nI k)]) (rest := [.ref (ad 52)]) (q0 := 0) rfl rfl ln_Mm_301 w_im_Mm_noCasting w_se_Mm_noCasting ok_Mm_weld_Mm_noCasting d_Mm_weld_8 (fun wA hA => Q_noCasting0 (hI.gen (t2 := t) (is := [52]) (L2 := []) hA rfl ⟨kd_52.mpr ⟨_, rfl⟩, trivial⟩ (by decide) (by decide) (fun _ h => nomatch h) (fun _ h => nomatch h) (fun _ _ _ => rfl) (fun h => h) rfl) (nI k) ⟨k, hk, rfl⟩) rfl rfl (Nat.le_of_ble_eq_true rfl) (by omega) (by omega) (fun wA8 hA8 E wB8 hx => ?_) (fun wA8 hA8 v wB8 hx => ?_)
  · exact absurd hx.1 (by simp)
  · obtain ⟨e1, e2⟩ := hx
    cases e1
    refine yw_st (st2 := [.int 0, .ref (ad 52)]) rfl ?_
    subst e2
    refine y_go hA8 ?_
    refine y_iconst d_Mm_weld_11 (v := 1) (by decide) ?_
    refine y_callV (As := [.int 0, .int 1]) (rest := []) (csC := [((ad 52), .inr (12, [.int 0, .ref (ad 53), .int (nI ((t.1 52).2.2 0)), .ref (ad 54), .ref (ad 55), .ref (ad 56), .ref (ad 57), .ref (ad 58), .ref (ad 59), .ref (ad 60), .ref (ad 61), .int ((t.1 52).1 0), .int ((t.1 52).1 1), .int ((t.1 52).1 2), .int ((t.1 52).1 3), .int ((t.1 52).1 4), .int ((t.1 52).1 5), .ref (ad 62), .ref (ad 63), .ref (ad 64), .int ((t.1 52).1 6), .int ((t.1 52).1 7), .int ((t.1 52).1 8), .int ((t.1 52).1 9), .int ((t.1 52).1 10), .ref (ad 65), .ref (ad 66), .ref (ad 67), .ref (ad 68), .long ((t.1 52).2.1 0), .long ((t.1 52).2.1 1)]))]) (is := [0]) (q0 := 0) rfl rfl ln_Mm_103 w_im_Mm_fails w_se_Mm_fails ok_Mm_weld_Mm_fails d_Mm_weld_12 (C_Mm_fails0 g (ad 52) (ad 53) (ad 54) (ad 55) (ad 56) (ad 57) (ad 58) (ad 59) (ad 60) (ad 61) (ad 62) (ad 63) (ad 64) (ad 65) (ad 66) (ad 67) (ad 68) 0 (nI ((t.1 52).2.2 0)) ((t.1 52).1 0) ((t.1 52).1 1) ((t.1 52).1 2) ((t.1 52).1 3) ((t.1 52).1 4) ((t.1 52).1 5) ((t.1 52).1 6) ((t.1 52).1 7) ((t.1 52).1 8) ((t.1 52).1 9) ((t.1 52).1 10) ((t.1 52).2.1 0) ((t.1 52).2.1 1) 1) rfl rfl (Nat.le_of_ble_eq_true rfl) rfl (by decide) (by omega) (by omega) (fun E cs1 hx => ?_) (fun v cs1 hx => ?_)
    · exact absurd hx.1 (by simp)
    · obtain ⟨e1, rfl⟩ := hx
      cases e1
      refine ⟨rfl, ?_⟩
      refine y_st (st2 := [.int 0]) rfl ?_
      refine y_cs (cs2 := [((ad 52), .inr (12, [.int 0, .ref (ad 53), .int (nI ((t.1 52).2.2 0)), .ref (ad 54), .ref (ad 55), .ref (ad 56), .ref (ad 57), .ref (ad 58), .ref (ad 59), .ref (ad 60), .ref (ad 61), .int ((t.1 52).1 0), .int ((t.1 52).1 1), .int ((t.1 52).1 2), .int ((t.1 52).1 3), .int ((t.1 52).1 4), .int ((t.1 52).1 5), .ref (ad 62), .ref (ad 63), .ref (ad 64), .int ((t.1 52).1 6), .int ((t.1 52).1 7), .int ((t.1 52).1 8), .int ((t.1 52).1 9), .int ((t.1 52).1 10), .ref (ad 65), .ref (ad 66), .ref (ad 67), .ref (ad 68), .long ((t.1 52).2.1 0), .long ((t.1 52).2.1 1)]))]) rfl ?_
      refine y_if_eq (tgt := 20) d_Mm_weld_15 (by decide) (fun c_15 => ?_) (fun c_15 => ?_)
      · refine y_aload_n d_Mm_weld_20 rfl 0 rfl ?_
        refine y_get fs_Mm_78 d_Mm_weld_21 (q0 := 0) rfl rfl ?_
        refine y_iload_n d_Mm_weld_24 rfl 1 rfl ?_
        refine yw_callVL (As := [.int (nI k)]) (rest := []) (ci := 13) rfl (fun wA hA => ((hI.gen (t2 := t) (is := [52]) (L2 := []) hA rfl ⟨kd_52.mpr ⟨_, rfl⟩, trivial⟩ (by decide) (by decide) (fun _ h => nomatch h) (fun _ h => nomatch h) (fun _ _ _ => rfl) (fun h => h) rfl).2.1.1 5 (by decide)).ob) ln_Mm_211 w_im_AL_get w_se_AL_get ok_Mm_weld_AL_get d_Mm_weld_25 (fun wA hA => Q_get ((hI.gen (t2 := t) (is := [52]) (L2 := []) hA rfl ⟨kd_52.mpr ⟨_, rfl⟩, trivial⟩ (by decide) (by decide) (fun _ h => nomatch h) (fun _ h => nomatch h) (fun _ _ _ => rfl) (fun h => h) rfl).2.1.1 5 (by decide)) hk) rfl rfl (Nat.le_of_ble_eq_true rfl) (by omega) (by omega) (fun wA25 hA25 E wB25 hx => ?_) (fun wA25 hA25 v wB25 hx => ?_)
        · exact absurd hx.1 (by simp)
        · obtain ⟨e1, e2⟩ := hx
          cases e1
          refine yw_st (st2 := [.ref (u.2.2 5 k)]) rfl ?_
          subst e2
          refine y_go hA25 ?_
          refine y_end (fun wC1 hC1 => ?_)
          have hI9 := (hI.gen (t2 := t) (is := [52]) (L2 := []) hC1 rfl ⟨kd_52.mpr ⟨_, rfl⟩, trivial⟩ (by decide) (by decide) (fun _ h => nomatch h) (fun _ h => nomatch h) (fun _ _ _ => rfl) (fun h => h) rfl)
          have hI := hI9
          obtain ⟨nf_c, hw_c, h0_c⟩ := hI.2.1.2.1 5 (by decide) k hk
          refine y_base (cs := [((ad 52), .inr (12, [.int 0, .ref (ad 53), .int (nI ((t.1 52).2.2 0)), .ref (ad 54), .ref (ad 55), .ref (ad 56), .ref (ad 57), .ref (ad 58), .ref (ad 59), .ref (ad 60), .ref (ad 61), .int ((t.1 52).1 0), .int ((t.1 52).1 1), .int ((t.1 52).1 2), .int ((t.1 52).1 3), .int ((t.1 52).1 4), .int ((t.1 52).1 5), .ref (ad 62), .ref (ad 63), .ref (ad 64), .int ((t.1 52).1 6), .int ((t.1 52).1 7), .int ((t.1 52).1 8), .int ((t.1 52).1 9), .int ((t.1 52).1 10), .ref (ad 65), .ref (ad 66), .ref (ad 67), .ref (ad 68), .long ((t.1 52).2.1 0), .long ((t.1 52).2.1 1)])), ((u.2.2 5 k), .inl (0, 6, .inl ((t.2 5 k).2.1)))]) (z_I.kd (List.forall_mem_cons.mpr ⟨hC1.at (q0 := 0) rfl, (List.forall_mem_cons.mpr ⟨hw_c, (fun _ h => nomatch h)⟩)⟩) (by simp [z_kd])) ?_
          refine y_castA (t := 0) (by decide) lk_Mm_215 d_Mm_weld_28 (q0 := 1) rfl ?_
          refine y_astore_n (lv' := [(2, .ref (u.2.2 5 k)), (0, .ref (ad 52)), (1, .int (nI k))]) d_Mm_weld_31 rfl (by decide) rfl ?_
          refine y_aload_n d_Mm_weld_32 rfl 1 rfl ?_
          refine y_aload_n d_Mm_weld_33 rfl 0 rfl ?_
          refine y_iconst d_Mm_weld_34 (v := 4) (by decide) ?_
          refine y_iald d_Mm_weld_35 (q0 := 1) rfl (fun q => q.elim (by decide) (by decide)) (v := ((t.2 5 k).2.1) 4) rfl ?_
          refine y_iconst d_Mm_weld_36 (v := 1) (by decide) ?_
          refine y_icmp_eq (tgt := 49) d_Mm_weld_37 (by decide) (fun c_37 => ?_) (fun c_37 => ?_)
          · exact absurd c_37 h1
          · refine y_aload_n d_Mm_weld_40 rfl 0 rfl ?_
            refine y_iconst d_Mm_weld_41 (v := 2) (by decide) ?_
            refine y_iald d_Mm_weld_42 (q0 := 1) rfl (fun q => q.elim (by decide) (by decide)) (v := ((t.2 5 k).2.1) 2) rfl ?_
            refine y_bipush d_Mm_weld_43 (v := 32) (by decide) ?_
            refine y_iand d_Mm_weld_45 (v := (((t.2 5 k).2.1) 2) &&& 32) rfl ?_
            refine y_if_eq (tgt := 53) d_Mm_weld_46 (by decide) (fun c_46 => ?_) (fun c_46 => ?_)
            · refine y_iconst d_Mm_weld_53 (v := 0) (by decide) ?_
              refine y_iconst d_Mm_weld_54 (v := 2) (by decide) ?_
              refine y_callV (As := [.int 0, .int 2]) (rest := []) (csC := [((ad 52), .inr (12, [.int 0, .ref (ad 53), .int (nI ((t.1 52).2.2 0)), .ref (ad 54), .ref (ad 55), .ref (ad 56), .ref (ad 57), .ref (ad 58), .ref (ad 59), .ref (ad 60), .ref (ad 61), .int ((t.1 52).1 0), .int ((t.1 52).1 1), .int ((t.1 52).1 2), .int ((t.1 52).1 3), .int ((t.1 52).1 4), .int ((t.1 52).1 5), .ref (ad 62), .ref (ad 63), .ref (ad 64), .int ((t.1 52).1 6), .int ((t.1 52).1 7), .int ((t.1 52).1 8), .int ((t.1 52).1 9), .int ((t.1 52).1 10), .ref (ad 65), .ref (ad 66), .ref (ad 67), .ref (ad 68), .long ((t.1 52).2.1 0), .long ((t.1 52).2.1 1)]))]) (is := [0]) (q0 := 0) rfl rfl ln_Mm_103 w_im_Mm_fails w_se_Mm_fails ok_Mm_weld_Mm_fails d_Mm_weld_55 (C_Mm_fails0 g (ad 52) (ad 53) (ad 54) (ad 55) (ad 56) (ad 57) (ad 58) (ad 59) (ad 60) (ad 61) (ad 62) (ad 63) (ad 64) (ad 65) (ad 66) (ad 67) (ad 68) 0 (nI ((t.1 52).2.2 0)) ((t.1 52).1 0) ((t.1 52).1 1) ((t.1 52).1 2) ((t.1 52).1 3) ((t.1 52).1 4) ((t.1 52).1 5) ((t.1 52).1 6) ((t.1 52).1 7) ((t.1 52).1 8) ((t.1 52).1 9) ((t.1 52).1 10) ((t.1 52).2.1 0) ((t.1 52).2.1 1) 2) rfl rfl (Nat.le_of_ble_eq_true rfl) rfl (by decide) (by omega) (by omega) (fun E cs1 hx => ?_) (fun v cs1 hx => ?_)
              · exact absurd hx.1 (by simp)
              · obtain ⟨e1, rfl⟩ := hx
                cases e1
                refine ⟨rfl, ?_⟩
                refine y_st (st2 := [.int 0]) rfl ?_
                refine y_cs (cs2 := [((ad 52), .inr (12, [.int 0, .ref (ad 53), .int (nI ((t.1 52).2.2 0)), .ref (ad 54), .ref (ad 55), .ref (ad 56), .ref (ad 57), .ref (ad 58), .ref (ad 59), .ref (ad 60), .ref (ad 61), .int ((t.1 52).1 0), .int ((t.1 52).1 1), .int ((t.1 52).1 2), .int ((t.1 52).1 3), .int ((t.1 52).1 4), .int ((t.1 52).1 5), .ref (ad 62), .ref (ad 63), .ref (ad 64), .int ((t.1 52).1 6), .int ((t.1 52).1 7), .int ((t.1 52).1 8), .int ((t.1 52).1 9), .int ((t.1 52).1 10), .ref (ad 65), .ref (ad 66), .ref (ad 67), .ref (ad 68), .long ((t.1 52).2.1 0), .long ((t.1 52).2.1 1)])), ((u.2.2 5 k), .inl (0, 6, .inl ((t.2 5 k).2.1)))]) rfl ?_
                refine y_if_ne (tgt := 80) d_Mm_weld_58 (by decide) (fun c_58 => ?_) (fun c_58 => ?_)
                · exact absurd c_58 (by decide)
                · refine y_aload_n d_Mm_weld_61 rfl 1 rfl ?_
                  refine y_aload_n d_Mm_weld_62 rfl 0 rfl ?_
                  refine y_iconst d_Mm_weld_63 (v := 5) (by decide) ?_
                  refine y_iald d_Mm_weld_64 (q0 := 1) rfl (fun q => q.elim (by decide) (by decide)) (v := ((t.2 5 k).2.1) 5) rfl ?_
                  refine y_if_eq (tgt := 72) d_Mm_weld_65 (by decide) (fun c_65 => ?_) (fun c_65 => ?_)
                  · exact absurd c_65 h3
                  · refine y_iconst d_Mm_weld_68 (v := 1) (by decide) ?_
                    refine y_goto (tgt := 73) d_Mm_weld_69 (by decide) ?_
                    refine y_iconst d_Mm_weld_73 (v := 3) (by decide) ?_
                    refine y_callV (As := [.int 1, .int 3]) (rest := []) (csC := [((ad 52), .inr (12, [.int 0, .ref (ad 53), .int (nI ((t.1 52).2.2 0)), .ref (ad 54), .ref (ad 55), .ref (ad 56), .ref (ad 57), .ref (ad 58), .ref (ad 59), .ref (ad 60), .ref (ad 61), .int ((t.1 52).1 0), .int ((t.1 52).1 1), .int ((t.1 52).1 2), .int ((t.1 52).1 3), .int ((t.1 52).1 4), .int ((t.1 52).1 5), .ref (ad 62), .ref (ad 63), .ref (ad 64), .int ((t.1 52).1 6), .int ((t.1 52).1 7), .int ((t.1 52).1 8), .int ((t.1 52).1 9), .int ((t.1 52).1 10), .ref (ad 65), .ref (ad 66), .ref (ad 67), .ref (ad 68), .long ((t.1 52).2.1 0), .long ((t.1 52).2.1 1)]))]) (is := [0]) (q0 := 0) rfl rfl ln_Mm_103 w_im_Mm_fails w_se_Mm_fails ok_Mm_weld_Mm_fails d_Mm_weld_74 (C_Mm_fails3 g (ad 52) (ad 53) (ad 54) (ad 55) (ad 56) (ad 57) (ad 58) (ad 59) (ad 60) (ad 61) (ad 62) (ad 63) (ad 64) (ad 65) (ad 66) (ad 67) (ad 68) 0 (nI ((t.1 52).2.2 0)) ((t.1 52).1 0) ((t.1 52).1 1) ((t.1 52).1 2) ((t.1 52).1 3) ((t.1 52).1 4) ((t.1 52).1 5) ((t.1 52).1 6) ((t.1 52).1 7) ((t.1 52).1 8) ((t.1 52).1 9) ((t.1 52).1 10) ((t.1 52).2.1 0) ((t.1 52).2.1 1)) rfl rfl (Nat.le_of_ble_eq_true rfl) rfl (by decide) (by omega) (by omega) (fun E cs1 hx => ?_) (fun v cs1 hx => ?_)
                    · exact absurd hx.1 (by simp)
                    · obtain ⟨e1, rfl⟩ := hx
                      cases e1
                      refine ⟨rfl, ?_⟩
                      refine y_st (st2 := [.int 1]) rfl ?_
                      refine y_cs (cs2 := [((ad 52), .inr (12, [.int 3, .ref (ad 53), .int (nI ((t.1 52).2.2 0)), .ref (ad 54), .ref (ad 55), .ref (ad 56), .ref (ad 57), .ref (ad 58), .ref (ad 59), .ref (ad 60), .ref (ad 61), .int ((t.1 52).1 0), .int ((t.1 52).1 1), .int ((t.1 52).1 2), .int ((t.1 52).1 3), .int ((t.1 52).1 4), .int ((t.1 52).1 5), .ref (ad 62), .ref (ad 63), .ref (ad 64), .int ((t.1 52).1 6), .int ((t.1 52).1 7), .int ((t.1 52).1 8), .int ((t.1 52).1 9), .int ((t.1 52).1 10), .ref (ad 65), .ref (ad 66), .ref (ad 67), .ref (ad 68), .long ((t.1 52).2.1 0), .long ((t.1 52).2.1 1)])), ((u.2.2 5 k), .inl (0, 6, .inl ((t.2 5 k).2.1)))]) rfl ?_
                      refine y_if_eq (tgt := 82) d_Mm_weld_77 (by decide) (fun c_77 => ?_) (fun c_77 => ?_)
                      · exact absurd c_77 (by decide)
                      · refine y_iconst d_Mm_weld_80 (v := 0) (by decide) ?_
                        refine y_iret d_Mm_weld_81 rfl rfl ?_
                        exact fun w1 h1 => ⟨rfl, (hI.gen (t2 := t) (is := [52]) (L2 := [(u.2.2 5 k)]) h1 rfl ⟨kd_52.mpr ⟨_, rfl⟩, trivial⟩ (by decide) (by decide) (List.forall_mem_cons.mpr ⟨nf_c, (fun _ h => nomatch h)⟩) (List.forall_mem_cons.mpr ⟨⟨_, hw_c, h1.at (q0 := 1) rfl⟩, (fun _ h => nomatch h)⟩) (fun _ _ _ => rfl) (fun h => h) rfl)⟩
            · exact absurd h2 c_46
      · exact absurd c_15 (by decide)
theorem d_Mm_weld_49 : decode prog_14_method_87_code 49 = .ok (.iconst 1, 1) := zo_4 (zd_b zq_prog_14_method_87_code_1 17 rfl rfl rfl)
theorem d_Mm_weld_50 : decode prog_14_method_87_code 50 = .ok (.goto 4, 3) := zo_167 (d := 0) (e := 4) (zd_b zq_prog_14_method_87_code_1 18 rfl rfl rfl) (zd_b zq_prog_14_method_87_code_1 19 rfl rfl rfl) (zd_b zq_prog_14_method_87_code_1 20 rfl rfl rfl) (by decide +kernel)
set_option maxHeartbeats 4000000 in
set_option maxRecDepth 100000 in
theorem Qx_Mm_weldU {g : zG} {ad : Nat → Nat} {t : zTT} {u : zNN} {w : zW} (hI : IV g ad t u w) (k : Nat) (hk : k < u.1 5) (h12 : ¬ (¬ (t.2 5 k).2.1 4 = 1 ∧ (t.2 5 k).2.1 2 &&& 32 = 0)) : zMB g M_Mm_weld [.ref (ad 52), .int (nI k)] w (fun o w1 => o = .inl (some (.int 0)) ∧ IV g ad t u w1) 0 0 := by
  obtain ⟨e_m, wf_m, k_m⟩ := hI.1.2 52 (by decide)
  obtain ⟨v_m_th, rfl⟩ := kd_52.mp k_m
  refine y_of (by decide) rfl (Nat.le_of_ble_eq_true rfl) (y_base (cs := [((ad 52), .inr (12, [.int v_m_th, .ref (ad 53), .int (nI ((t.1 52).2.2 0)), .ref (ad 54), .ref (ad 55), .ref (ad 56), .ref (ad 57), .ref (ad 58), .ref (ad 59), .ref (ad 60), .ref (ad 61), .int ((t.1 52).1 0), .int ((t.1 52).1 1), .int ((t.1 52).1 2), .int ((t.1 52).1 3), .int ((t.1 52).1 4), .int ((t.1 52).1 5), .ref (ad 62), .ref (ad 63), .ref (ad 64), .int ((t.1 52).1 6), .int ((t.1 52).1 7), .int ((t.1 52).1 8), .int ((t.1 52).1 9), .int ((t.1 52).1 10), .ref (ad 65), .ref (ad 66), .ref (ad 67), .ref (ad 68), .long ((t.1 52).2.1 0), .long ((t.1 52).2.1 1)]))]) (hI.1.I [52] _ rfl (by decide) (by decide) (List.forall_mem_cons.mpr ⟨wf_m, (fun _ h => nomatch h)⟩)) ?_)
  refine y_lvE (lv2 := [(0, .ref (ad 52)), (1, .int (nI k))]) rfl ?_
  refine y_aload_n d_Mm_weld_0 rfl 0 rfl ?_
  refine y_iconst d_Mm_weld_1 (v := 0) (by decide) ?_
  refine y_put fp_Mm_84 d_Mm_weld_2 (fun h => nomatch h) rfl rfl (q0 := 0) rfl (Nat.le_of_ble_eq_true rfl) (cs' := [((ad 52), .inr (12, [.int 0, .ref (ad 53), .int (nI ((t.1 52).2.2 0)), .ref (ad 54), .ref (ad 55), .ref (ad 56), .ref (ad 57), .ref (ad 58), .ref (ad 59), .ref (ad 60), .ref (ad 61), .int ((t.1 52).1 0), .int ((t.1 52).1 1), .int ((t.1 52).1 2), .int ((t.1 52).1 3), .int ((t.1 52).1 4), .int ((t.1 52).1 5), .ref (ad 62), .ref (ad 63), .ref (ad 64), .int ((t.1 52).1 6), .int ((t.1 52).1 7), .int ((t.1 52).1 8), .int ((t.1 52).1 9), .int ((t.1 52).1 10), .ref (ad 65), .ref (ad 66), .ref (ad 67), .ref (ad 68), .long ((t.1 52).2.1 0), .long ((t.1 52).2.1 1)]))]) rfl ?_
  refine y_aload_n d_Mm_weld_5 rfl 0 rfl ?_
  refine y_aload_n d_Mm_weld_6 rfl 0 rfl ?_
  refine y_iload_n d_Mm_weld_7 rfl 1 rfl ?_
  refine yw_callV (As := [.int (nI k)]) (rest := [.ref (ad 52)]) (q0 := 0) rfl rfl ln_Mm_301 w_im_Mm_noCasting w_se_Mm_noCasting ok_Mm_weld_Mm_noCasting d_Mm_weld_8 (fun wA hA => Q_noCasting0 (hI.gen (t2 := t) (is := [52]) (L2 := []) hA rfl ⟨kd_52.mpr ⟨_, rfl⟩, trivial⟩ (by decide) (by decide) (fun _ h => nomatch h) (fun _ h => nomatch h) (fun _ _ _ => rfl) (fun h => h) rfl) (nI k) ⟨k, hk, rfl⟩) rfl rfl (Nat.le_of_ble_eq_true rfl) (by omega) (by omega) (fun wA8 hA8 E wB8 hx => ?_) (fun wA8 hA8 v wB8 hx => ?_)
  · exact absurd hx.1 (by simp)
  · obtain ⟨e1, e2⟩ := hx
    cases e1
    refine yw_st (st2 := [.int 0, .ref (ad 52)]) rfl ?_
    subst e2
    refine y_go hA8 ?_
    refine y_iconst d_Mm_weld_11 (v := 1) (by decide) ?_
    refine y_callV (As := [.int 0, .int 1]) (rest := []) (csC := [((ad 52), .inr (12, [.int 0, .ref (ad 53), .int (nI ((t.1 52).2.2 0)), .ref (ad 54), .ref (ad 55), .ref (ad 56), .ref (ad 57), .ref (ad 58), .ref (ad 59), .ref (ad 60), .ref (ad 61), .int ((t.1 52).1 0), .int ((t.1 52).1 1), .int ((t.1 52).1 2), .int ((t.1 52).1 3), .int ((t.1 52).1 4), .int ((t.1 52).1 5), .ref (ad 62), .ref (ad 63), .ref (ad 64), .int ((t.1 52).1 6), .int ((t.1 52).1 7), .int ((t.1 52).1 8), .int ((t.1 52).1 9), .int ((t.1 52).1 10), .ref (ad 65), .ref (ad 66), .ref (ad 67), .ref (ad 68), .long ((t.1 52).2.1 0), .long ((t.1 52).2.1 1)]))]) (is := [0]) (q0 := 0) rfl rfl ln_Mm_103 w_im_Mm_fails w_se_Mm_fails ok_Mm_weld_Mm_fails d_Mm_weld_12 (C_Mm_fails0 g (ad 52) (ad 53) (ad 54) (ad 55) (ad 56) (ad 57) (ad 58) (ad 59) (ad 60) (ad 61) (ad 62) (ad 63) (ad 64) (ad 65) (ad 66) (ad 67) (ad 68) 0 (nI ((t.1 52).2.2 0)) ((t.1 52).1 0) ((t.1 52).1 1) ((t.1 52).1 2) ((t.1 52).1 3) ((t.1 52).1 4) ((t.1 52).1 5) ((t.1 52).1 6) ((t.1 52).1 7) ((t.1 52).1 8) ((t.1 52).1 9) ((t.1 52).1 10) ((t.1 52).2.1 0) ((t.1 52).2.1 1) 1) rfl rfl (Nat.le_of_ble_eq_true rfl) rfl (by decide) (by omega) (by omega) (fun E cs1 hx => ?_) (fun v cs1 hx => ?_)
    · exact absurd hx.1 (by simp)
    · obtain ⟨e1, rfl⟩ := hx
      cases e1
      refine ⟨rfl, ?_⟩
      refine y_st (st2 := [.int 0]) rfl ?_
      refine y_cs (cs2 := [((ad 52), .inr (12, [.int 0, .ref (ad 53), .int (nI ((t.1 52).2.2 0)), .ref (ad 54), .ref (ad 55), .ref (ad 56), .ref (ad 57), .ref (ad 58), .ref (ad 59), .ref (ad 60), .ref (ad 61), .int ((t.1 52).1 0), .int ((t.1 52).1 1), .int ((t.1 52).1 2), .int ((t.1 52).1 3), .int ((t.1 52).1 4), .int ((t.1 52).1 5), .ref (ad 62), .ref (ad 63), .ref (ad 64), .int ((t.1 52).1 6), .int ((t.1 52).1 7), .int ((t.1 52).1 8), .int ((t.1 52).1 9), .int ((t.1 52).1 10), .ref (ad 65), .ref (ad 66), .ref (ad 67), .ref (ad 68), .long ((t.1 52).2.1 0), .long ((t.1 52).2.1 1)]))]) rfl ?_
      refine y_if_eq (tgt := 20) d_Mm_weld_15 (by decide) (fun c_15 => ?_) (fun c_15 => ?_)
      · refine y_aload_n d_Mm_weld_20 rfl 0 rfl ?_
        refine y_get fs_Mm_78 d_Mm_weld_21 (q0 := 0) rfl rfl ?_
        refine y_iload_n d_Mm_weld_24 rfl 1 rfl ?_
        refine yw_callVL (As := [.int (nI k)]) (rest := []) (ci := 13) rfl (fun wA hA => ((hI.gen (t2 := t) (is := [52]) (L2 := []) hA rfl ⟨kd_52.mpr ⟨_, rfl⟩, trivial⟩ (by decide) (by decide) (fun _ h => nomatch h) (fun _ h => nomatch h) (fun _ _ _ => rfl) (fun h => h) rfl).2.1.1 5 (by decide)).ob) ln_Mm_211 w_im_AL_get w_se_AL_get ok_Mm_weld_AL_get d_Mm_weld_25 (fun wA hA => Q_get ((hI.gen (t2 := t) (is := [52]) (L2 := []) hA rfl ⟨kd_52.mpr ⟨_, rfl⟩, trivial⟩ (by decide) (by decide) (fun _ h => nomatch h) (fun _ h => nomatch h) (fun _ _ _ => rfl) (fun h => h) rfl).2.1.1 5 (by decide)) hk) rfl rfl (Nat.le_of_ble_eq_true rfl) (by omega) (by omega) (fun wA25 hA25 E wB25 hx => ?_) (fun wA25 hA25 v wB25 hx => ?_)
        · exact absurd hx.1 (by simp)
        · obtain ⟨e1, e2⟩ := hx
          cases e1
          refine yw_st (st2 := [.ref (u.2.2 5 k)]) rfl ?_
          subst e2
          refine y_go hA25 ?_
          refine y_end (fun wC1 hC1 => ?_)
          have hI9 := (hI.gen (t2 := t) (is := [52]) (L2 := []) hC1 rfl ⟨kd_52.mpr ⟨_, rfl⟩, trivial⟩ (by decide) (by decide) (fun _ h => nomatch h) (fun _ h => nomatch h) (fun _ _ _ => rfl) (fun h => h) rfl)
          have hI := hI9
          obtain ⟨nf_c, hw_c, h0_c⟩ := hI.2.1.2.1 5 (by decide) k hk
          refine y_base (cs := [((ad 52), .inr (12, [.int 0, .ref (ad 53), .int (nI ((t.1 52).2.2 0)), .ref (ad 54), .ref (ad 55), .ref (ad 56), .ref (ad 57), .ref (ad 58), .ref (ad 59), .ref (ad 60), .ref (ad 61), .int ((t.1 52).1 0), .int ((t.1 52).1 1), .int ((t.1 52).1 2), .int ((t.1 52).1 3), .int ((t.1 52).1 4), .int ((t.1 52).1 5), .ref (ad 62), .ref (ad 63), .ref (ad 64), .int ((t.1 52).1 6), .int ((t.1 52).1 7), .int ((t.1 52).1 8), .int ((t.1 52).1 9), .int ((t.1 52).1 10), .ref (ad 65), .ref (ad 66), .ref (ad 67), .ref (ad 68), .long ((t.1 52).2.1 0), .long ((t.1 52).2.1 1)])), ((u.2.2 5 k), .inl (0, 6, .inl ((t.2 5 k).2.1)))]) (z_I.kd (List.forall_mem_cons.mpr ⟨hC1.at (q0 := 0) rfl, (List.forall_mem_cons.mpr ⟨hw_c, (fun _ h => nomatch h)⟩)⟩) (by simp [z_kd])) ?_
          refine y_castA (t := 0) (by decide) lk_Mm_215 d_Mm_weld_28 (q0 := 1) rfl ?_
          refine y_astore_n (lv' := [(2, .ref (u.2.2 5 k)), (0, .ref (ad 52)), (1, .int (nI k))]) d_Mm_weld_31 rfl (by decide) rfl ?_
          refine y_aload_n d_Mm_weld_32 rfl 1 rfl ?_
          refine y_aload_n d_Mm_weld_33 rfl 0 rfl ?_
          refine y_iconst d_Mm_weld_34 (v := 4) (by decide) ?_
          refine y_iald d_Mm_weld_35 (q0 := 1) rfl (fun q => q.elim (by decide) (by decide)) (v := ((t.2 5 k).2.1) 4) rfl ?_
          refine y_iconst d_Mm_weld_36 (v := 1) (by decide) ?_
          refine y_icmp_eq (tgt := 49) d_Mm_weld_37 (by decide) (fun c_37 => ?_) (fun c_37 => ?_)
          · refine y_iconst d_Mm_weld_49 (v := 1) (by decide) ?_
            refine y_goto (tgt := 54) d_Mm_weld_50 (by decide) ?_
            refine y_iconst d_Mm_weld_54 (v := 2) (by decide) ?_
            refine y_callV (As := [.int 1, .int 2]) (rest := []) (csC := [((ad 52), .inr (12, [.int 0, .ref (ad 53), .int (nI ((t.1 52).2.2 0)), .ref (ad 54), .ref (ad 55), .ref (ad 56), .ref (ad 57), .ref (ad 58), .ref (ad 59), .ref (ad 60), .ref (ad 61), .int ((t.1 52).1 0), .int ((t.1 52).1 1), .int ((t.1 52).1 2), .int ((t.1 52).1 3), .int ((t.1 52).1 4), .int ((t.1 52).1 5), .ref (ad 62), .ref (ad 63), .ref (ad 64), .int ((t.1 52).1 6), .int ((t.1 52).1 7), .int ((t.1 52).1 8), .int ((t.1 52).1 9), .int ((t.1 52).1 10), .ref (ad 65), .ref (ad 66), .ref (ad 67), .ref (ad 68), .long ((t.1 52).2.1 0), .long ((t.1 52).2.1 1)]))]) (is := [0]) (q0 := 0) rfl rfl ln_Mm_103 w_im_Mm_fails w_se_Mm_fails ok_Mm_weld_Mm_fails d_Mm_weld_55 (C_Mm_fails2 g (ad 52) (ad 53) (ad 54) (ad 55) (ad 56) (ad 57) (ad 58) (ad 59) (ad 60) (ad 61) (ad 62) (ad 63) (ad 64) (ad 65) (ad 66) (ad 67) (ad 68) 0 (nI ((t.1 52).2.2 0)) ((t.1 52).1 0) ((t.1 52).1 1) ((t.1 52).1 2) ((t.1 52).1 3) ((t.1 52).1 4) ((t.1 52).1 5) ((t.1 52).1 6) ((t.1 52).1 7) ((t.1 52).1 8) ((t.1 52).1 9) ((t.1 52).1 10) ((t.1 52).2.1 0) ((t.1 52).2.1 1)) rfl rfl (Nat.le_of_ble_eq_true rfl) rfl (by decide) (by omega) (by omega) (fun E cs1 hx => ?_) (fun v cs1 hx => ?_)
            · exact absurd hx.1 (by simp)
            · obtain ⟨e1, rfl⟩ := hx
              cases e1
              refine ⟨rfl, ?_⟩
              refine y_st (st2 := [.int 1]) rfl ?_
              refine y_cs (cs2 := [((ad 52), .inr (12, [.int 2, .ref (ad 53), .int (nI ((t.1 52).2.2 0)), .ref (ad 54), .ref (ad 55), .ref (ad 56), .ref (ad 57), .ref (ad 58), .ref (ad 59), .ref (ad 60), .ref (ad 61), .int ((t.1 52).1 0), .int ((t.1 52).1 1), .int ((t.1 52).1 2), .int ((t.1 52).1 3), .int ((t.1 52).1 4), .int ((t.1 52).1 5), .ref (ad 62), .ref (ad 63), .ref (ad 64), .int ((t.1 52).1 6), .int ((t.1 52).1 7), .int ((t.1 52).1 8), .int ((t.1 52).1 9), .int ((t.1 52).1 10), .ref (ad 65), .ref (ad 66), .ref (ad 67), .ref (ad 68), .long ((t.1 52).2.1 0), .long ((t.1 52).2.1 1)])), ((u.2.2 5 k), .inl (0, 6, .inl ((t.2 5 k).2.1)))]) rfl ?_
              refine y_if_ne (tgt := 80) d_Mm_weld_58 (by decide) (fun c_58 => ?_) (fun c_58 => ?_)
              · refine y_iconst d_Mm_weld_80 (v := 0) (by decide) ?_
                refine y_iret d_Mm_weld_81 rfl rfl ?_
                exact fun w1 h1 => ⟨rfl, (hI.gen (t2 := t) (is := [52]) (L2 := [(u.2.2 5 k)]) h1 rfl ⟨kd_52.mpr ⟨_, rfl⟩, trivial⟩ (by decide) (by decide) (List.forall_mem_cons.mpr ⟨nf_c, (fun _ h => nomatch h)⟩) (List.forall_mem_cons.mpr ⟨⟨_, hw_c, h1.at (q0 := 1) rfl⟩, (fun _ h => nomatch h)⟩) (fun _ _ _ => rfl) (fun h => h) rfl)⟩
              · exact absurd c_58 (by decide)
          · refine y_aload_n d_Mm_weld_40 rfl 0 rfl ?_
            refine y_iconst d_Mm_weld_41 (v := 2) (by decide) ?_
            refine y_iald d_Mm_weld_42 (q0 := 1) rfl (fun q => q.elim (by decide) (by decide)) (v := ((t.2 5 k).2.1) 2) rfl ?_
            refine y_bipush d_Mm_weld_43 (v := 32) (by decide) ?_
            refine y_iand d_Mm_weld_45 (v := (((t.2 5 k).2.1) 2) &&& 32) rfl ?_
            refine y_if_eq (tgt := 53) d_Mm_weld_46 (by decide) (fun c_46 => ?_) (fun c_46 => ?_)
            · exact absurd ⟨c_37, c_46⟩ h12
            · refine y_iconst d_Mm_weld_49 (v := 1) (by decide) ?_
              refine y_goto (tgt := 54) d_Mm_weld_50 (by decide) ?_
              refine y_iconst d_Mm_weld_54 (v := 2) (by decide) ?_
              refine y_callV (As := [.int 1, .int 2]) (rest := []) (csC := [((ad 52), .inr (12, [.int 0, .ref (ad 53), .int (nI ((t.1 52).2.2 0)), .ref (ad 54), .ref (ad 55), .ref (ad 56), .ref (ad 57), .ref (ad 58), .ref (ad 59), .ref (ad 60), .ref (ad 61), .int ((t.1 52).1 0), .int ((t.1 52).1 1), .int ((t.1 52).1 2), .int ((t.1 52).1 3), .int ((t.1 52).1 4), .int ((t.1 52).1 5), .ref (ad 62), .ref (ad 63), .ref (ad 64), .int ((t.1 52).1 6), .int ((t.1 52).1 7), .int ((t.1 52).1 8), .int ((t.1 52).1 9), .int ((t.1 52).1 10), .ref (ad 65), .ref (ad 66), .ref (ad 67), .ref (ad 68), .long ((t.1 52).2.1 0), .long ((t.1 52).2.1 1)]))]) (is := [0]) (q0 := 0) rfl rfl ln_Mm_103 w_im_Mm_fails w_se_Mm_fails ok_Mm_weld_Mm_fails d_Mm_weld_55 (C_Mm_fails2 g (ad 52) (ad 53) (ad 54) (ad 55) (ad 56) (ad 57) (ad 58) (ad 59) (ad 60) (ad 61) (ad 62) (ad 63) (ad 64) (ad 65) (ad 66) (ad 67) (ad 68) 0 (nI ((t.1 52).2.2 0)) ((t.1 52).1 0) ((t.1 52).1 1) ((t.1 52).1 2) ((t.1 52).1 3) ((t.1 52).1 4) ((t.1 52).1 5) ((t.1 52).1 6) ((t.1 52).1 7) ((t.1 52).1 8) ((t.1 52).1 9) ((t.1 52).1 10) ((t.1 52).2.1 0) ((t.1 52).2.1 1)) rfl rfl (Nat.le_of_ble_eq_true rfl) rfl (by decide) (by omega) (by omega) (fun E cs1 hx => ?_) (fun v cs1 hx => ?_)
              · exact absurd hx.1 (by simp)
              · obtain ⟨e1, rfl⟩ := hx
                cases e1
                refine ⟨rfl, ?_⟩
                refine y_st (st2 := [.int 1]) rfl ?_
                refine y_cs (cs2 := [((ad 52), .inr (12, [.int 2, .ref (ad 53), .int (nI ((t.1 52).2.2 0)), .ref (ad 54), .ref (ad 55), .ref (ad 56), .ref (ad 57), .ref (ad 58), .ref (ad 59), .ref (ad 60), .ref (ad 61), .int ((t.1 52).1 0), .int ((t.1 52).1 1), .int ((t.1 52).1 2), .int ((t.1 52).1 3), .int ((t.1 52).1 4), .int ((t.1 52).1 5), .ref (ad 62), .ref (ad 63), .ref (ad 64), .int ((t.1 52).1 6), .int ((t.1 52).1 7), .int ((t.1 52).1 8), .int ((t.1 52).1 9), .int ((t.1 52).1 10), .ref (ad 65), .ref (ad 66), .ref (ad 67), .ref (ad 68), .long ((t.1 52).2.1 0), .long ((t.1 52).2.1 1)])), ((u.2.2 5 k), .inl (0, 6, .inl ((t.2 5 k).2.1)))]) rfl ?_
                refine y_if_ne (tgt := 80) d_Mm_weld_58 (by decide) (fun c_58 => ?_) (fun c_58 => ?_)
                · refine y_iconst d_Mm_weld_80 (v := 0) (by decide) ?_
                  refine y_iret d_Mm_weld_81 rfl rfl ?_
                  exact fun w1 h1 => ⟨rfl, (hI.gen (t2 := t) (is := [52]) (L2 := [(u.2.2 5 k)]) h1 rfl ⟨kd_52.mpr ⟨_, rfl⟩, trivial⟩ (by decide) (by decide) (List.forall_mem_cons.mpr ⟨nf_c, (fun _ h => nomatch h)⟩) (List.forall_mem_cons.mpr ⟨⟨_, hw_c, h1.at (q0 := 1) rfl⟩, (fun _ h => nomatch h)⟩) (fun _ _ _ => rfl) (fun h => h) rfl)⟩
                · exact absurd c_58 (by decide)
      · exact absurd c_15 (by decide)
theorem d_Mm_deliver_18 : decode prog_14_method_88_code 18 = .ok (.aload_n 0, 1) := zo_42 (zd_b zq_prog_14_method_88_code_0 18 rfl rfl rfl)
theorem d_Mm_deliver_19 : decode prog_14_method_88_code 19 = .ok (.aload_n 0, 1) := zo_42 (zd_b zq_prog_14_method_88_code_0 19 rfl rfl rfl)
theorem d_Mm_deliver_20 : decode prog_14_method_88_code 20 = .ok (.getfield 78, 3) := zo_180 (d := 0) (e := 78) (zd_b zq_prog_14_method_88_code_0 20 rfl rfl rfl) (zd_b zq_prog_14_method_88_code_0 21 rfl rfl rfl) (zd_b zq_prog_14_method_88_code_0 22 rfl rfl rfl)
theorem d_Mm_deliver_23 : decode prog_14_method_88_code 23 = .ok (.iload_n 1, 1) := zo_27 (zd_b zq_prog_14_method_88_code_0 23 rfl rfl rfl)
theorem d_Mm_deliver_24 : decode prog_14_method_88_code 24 = .ok (.invokevirtual 211, 3) := zo_182 (d := 0) (e := 211) (zd_b zq_prog_14_method_88_code_0 24 rfl rfl rfl) (zd_b zq_prog_14_method_88_code_0 25 rfl rfl rfl) (zd_b zq_prog_14_method_88_code_0 26 rfl rfl rfl)
theorem ok_Mm_deliver_AL_get : z_ok M_Mm_deliver M_AL_get 1 := ⟨z_mj2 (i := 180) rfl (by decide +kernel), rfl, ⟨by decide +kernel, by decide +kernel, by decide +kernel⟩, ⟨by decide, by decide⟩, z_mj1 (i := 13) rfl (by decide +kernel), rfl⟩
theorem d_Mm_deliver_27 : decode prog_14_method_88_code 27 = .ok (.checkcast 215, 3) := zo_192 (d := 0) (e := 215) (zd_b zq_prog_14_method_88_code_0 27 rfl rfl rfl) (zd_b zq_prog_14_method_88_code_0 28 rfl rfl rfl) (zd_b zq_prog_14_method_88_code_0 29 rfl rfl rfl)
theorem d_Mm_deliver_30 : decode prog_14_method_88_code 30 = .ok (.iconst 5, 1) := zo_8 (zd_b zq_prog_14_method_88_code_0 30 rfl rfl rfl)
theorem d_Mm_deliver_31 : decode prog_14_method_88_code 31 = .ok (.iaload, 1) := zo_46 (zd_b zq_prog_14_method_88_code_0 31 rfl rfl rfl)
theorem d_Mm_deliver_32 : decode prog_14_method_88_code 32 = .ok (.ifCond .eq 7, 3) := zo_153 (d := 0) (e := 7) (zd_b zq_prog_14_method_88_code_1 0 rfl rfl rfl) (zd_b zq_prog_14_method_88_code_1 1 rfl rfl rfl) (zd_b zq_prog_14_method_88_code_1 2 rfl rfl rfl) (by decide +kernel)
theorem d_Mm_deliver_39 : decode prog_14_method_88_code 39 = .ok (.iconst 0, 1) := zo_3 (zd_b zq_prog_14_method_88_code_1 7 rfl rfl rfl)
theorem d_Mm_deliver_40 : decode prog_14_method_88_code 40 = .ok (.iconst 2, 1) := zo_5 (zd_b zq_prog_14_method_88_code_1 8 rfl rfl rfl)
theorem d_Mm_deliver_41 : decode prog_14_method_88_code 41 = .ok (.invokevirtual 103, 3) := zo_182 (d := 0) (e := 103) (zd_b zq_prog_14_method_88_code_1 9 rfl rfl rfl) (zd_b zq_prog_14_method_88_code_1 10 rfl rfl rfl) (zd_b zq_prog_14_method_88_code_1 11 rfl rfl rfl)
theorem d_Mm_deliver_44 : decode prog_14_method_88_code 44 = .ok (.ifCond .eq 5, 3) := zo_153 (d := 0) (e := 5) (zd_b zq_prog_14_method_88_code_1 12 rfl rfl rfl) (zd_b zq_prog_14_method_88_code_1 13 rfl rfl rfl) (zd_b zq_prog_14_method_88_code_1 14 rfl rfl rfl) (by decide +kernel)
theorem d_Mm_deliver_49 : decode prog_14_method_88_code 49 = .ok (.aload_n 0, 1) := zo_42 (zd_b zq_prog_14_method_88_code_1 17 rfl rfl rfl)
theorem d_Mm_deliver_50 : decode prog_14_method_88_code 50 = .ok (.getfield 78, 3) := zo_180 (d := 0) (e := 78) (zd_b zq_prog_14_method_88_code_1 18 rfl rfl rfl) (zd_b zq_prog_14_method_88_code_1 19 rfl rfl rfl) (zd_b zq_prog_14_method_88_code_1 20 rfl rfl rfl)
theorem d_Mm_deliver_53 : decode prog_14_method_88_code 53 = .ok (.iload_n 1, 1) := zo_27 (zd_b zq_prog_14_method_88_code_1 21 rfl rfl rfl)
theorem d_Mm_deliver_54 : decode prog_14_method_88_code 54 = .ok (.invokevirtual 211, 3) := zo_182 (d := 0) (e := 211) (zd_b zq_prog_14_method_88_code_1 22 rfl rfl rfl) (zd_b zq_prog_14_method_88_code_1 23 rfl rfl rfl) (zd_b zq_prog_14_method_88_code_1 24 rfl rfl rfl)
theorem d_Mm_deliver_57 : decode prog_14_method_88_code 57 = .ok (.checkcast 215, 3) := zo_192 (d := 0) (e := 215) (zd_b zq_prog_14_method_88_code_1 25 rfl rfl rfl) (zd_b zq_prog_14_method_88_code_1 26 rfl rfl rfl) (zd_b zq_prog_14_method_88_code_1 27 rfl rfl rfl)
theorem d_Mm_deliver_60 : decode prog_14_method_88_code 60 = .ok (.astore_n 2, 1) := zo_77 (zd_b zq_prog_14_method_88_code_1 28 rfl rfl rfl)
theorem d_Mm_deliver_61 : decode prog_14_method_88_code 61 = .ok (.aload_n 2, 1) := zo_44 (zd_b zq_prog_14_method_88_code_1 29 rfl rfl rfl)
theorem d_Mm_deliver_62 : decode prog_14_method_88_code 62 = .ok (.iconst 2, 1) := zo_5 (zd_b zq_prog_14_method_88_code_1 30 rfl rfl rfl)
theorem d_Mm_deliver_63 : decode prog_14_method_88_code 63 = .ok (.iaload, 1) := zo_46 (zd_b zq_prog_14_method_88_code_1 31 rfl rfl rfl)
theorem d_Mm_deliver_64 : decode prog_14_method_88_code 64 = .ok (.ifCond .eq 5, 3) := zo_153 (d := 0) (e := 5) (zd_b zq_prog_14_method_88_code_2 0 rfl rfl rfl) (zd_b zq_prog_14_method_88_code_2 1 rfl rfl rfl) (zd_b zq_prog_14_method_88_code_2 2 rfl rfl rfl) (by decide +kernel)
theorem d_Mm_deliver_69 : decode prog_14_method_88_code 69 = .ok (.aload_n 2, 1) := zo_44 (zd_b zq_prog_14_method_88_code_2 5 rfl rfl rfl)
theorem d_Mm_deliver_70 : decode prog_14_method_88_code 70 = .ok (.iconst 5, 1) := zo_8 (zd_b zq_prog_14_method_88_code_2 6 rfl rfl rfl)
theorem d_Mm_deliver_71 : decode prog_14_method_88_code 71 = .ok (.iconst 1, 1) := zo_4 (zd_b zq_prog_14_method_88_code_2 7 rfl rfl rfl)
theorem d_Mm_deliver_72 : decode prog_14_method_88_code 72 = .ok (.iastore, 1) := zo_79 (zd_b zq_prog_14_method_88_code_2 8 rfl rfl rfl)
theorem d_Mm_deliver_73 : decode prog_14_method_88_code 73 = .ok (.aload_n 0, 1) := zo_42 (zd_b zq_prog_14_method_88_code_2 9 rfl rfl rfl)
theorem d_Mm_deliver_74 : decode prog_14_method_88_code 74 = .ok (.dup, 1) := zo_89 (zd_b zq_prog_14_method_88_code_2 10 rfl rfl rfl)
theorem d_Mm_deliver_75 : decode prog_14_method_88_code 75 = .ok (.getfield 316, 3) := zo_180 (d := 1) (e := 60) (zd_b zq_prog_14_method_88_code_2 11 rfl rfl rfl) (zd_b zq_prog_14_method_88_code_2 12 rfl rfl rfl) (zd_b zq_prog_14_method_88_code_2 13 rfl rfl rfl)
theorem d_Mm_deliver_78 : decode prog_14_method_88_code 78 = .ok (.aload_n 2, 1) := zo_44 (zd_b zq_prog_14_method_88_code_2 14 rfl rfl rfl)
theorem d_Mm_deliver_79 : decode prog_14_method_88_code 79 = .ok (.iconst 0, 1) := zo_3 (zd_b zq_prog_14_method_88_code_2 15 rfl rfl rfl)
theorem d_Mm_deliver_80 : decode prog_14_method_88_code 80 = .ok (.iaload, 1) := zo_46 (zd_b zq_prog_14_method_88_code_2 16 rfl rfl rfl)
theorem d_Mm_deliver_81 : decode prog_14_method_88_code 81 = .ok (.i2l, 1) := zo_133 (zd_b zq_prog_14_method_88_code_2 17 rfl rfl rfl)
theorem d_Mm_deliver_82 : decode prog_14_method_88_code 82 = .ok (.ladd, 1) := zo_97 (zd_b zq_prog_14_method_88_code_2 18 rfl rfl rfl)
theorem d_Mm_deliver_83 : decode prog_14_method_88_code 83 = .ok (.putfield 316, 3) := zo_181 (d := 1) (e := 60) (zd_b zq_prog_14_method_88_code_2 19 rfl rfl rfl) (zd_b zq_prog_14_method_88_code_2 20 rfl rfl rfl) (zd_b zq_prog_14_method_88_code_2 21 rfl rfl rfl)
theorem fp_Mm_316 : z_fp "IronpourModel" 316 12 30 false .long := ⟨R_Mm, "IronpourModel", F_Mm, 31, t_Mm, rfl, u_Mm, by decide, t_Mm_ok, n_Mm, rfl, rfl, Or.inl ⟨z_mj7 (i := 113) rfl (by decide +kernel), Or.inl rfl, fun h => nomatch h⟩⟩
theorem d_Mm_deliver_86 : decode prog_14_method_88_code 86 = .ok (.iconst 1, 1) := zo_4 (zd_b zq_prog_14_method_88_code_2 22 rfl rfl rfl)
theorem d_Mm_deliver_87 : decode prog_14_method_88_code 87 = .ok (.ireturn, 1) := zo_172 (zd_b zq_prog_14_method_88_code_2 23 rfl rfl rfl)
set_option maxHeartbeats 4000000 in
set_option maxRecDepth 100000 in
theorem Qx_Mm_deliverY {g : zG} {ad : Nat → Nat} {t : zTT} {u : zNN} {w : zW} (hI : IV g ad t u w) (k : Nat) (hk : k < u.1 5) (h3 : (t.2 5 k).2.1 5 = 0) (h2 : (t.2 5 k).2.1 2 = 0) : zMB g M_Mm_deliver [.ref (ad 52), .int (nI k)] w (fun o w1 => o = .inl (some (.int 1)) ∧ IV g ad (zup t.1 [(52, ((t.1 52).1, (vp_updL ((t.1 52).2.1) 1 ((t.1 52).2.1 1 + ((t.2 5 k).2.1 0).toInt64)), (t.1 52).2.2))], vup t.2 5 k ((t.2 5 k).1, upd ((t.2 5 k).2.1) 5 (1), (t.2 5 k).2.2)) u w1) 0 0 := by
  obtain ⟨e_m, wf_m, k_m⟩ := hI.1.2 52 (by decide)
  obtain ⟨v_m_th, rfl⟩ := kd_52.mp k_m
  refine y_of (by decide) rfl (Nat.le_of_ble_eq_true rfl) (y_base (cs := [((ad 52), .inr (12, [.int v_m_th, .ref (ad 53), .int (nI ((t.1 52).2.2 0)), .ref (ad 54), .ref (ad 55), .ref (ad 56), .ref (ad 57), .ref (ad 58), .ref (ad 59), .ref (ad 60), .ref (ad 61), .int ((t.1 52).1 0), .int ((t.1 52).1 1), .int ((t.1 52).1 2), .int ((t.1 52).1 3), .int ((t.1 52).1 4), .int ((t.1 52).1 5), .ref (ad 62), .ref (ad 63), .ref (ad 64), .int ((t.1 52).1 6), .int ((t.1 52).1 7), .int ((t.1 52).1 8), .int ((t.1 52).1 9), .int ((t.1 52).1 10), .ref (ad 65), .ref (ad 66), .ref (ad 67), .ref (ad 68), .long ((t.1 52).2.1 0), .long ((t.1 52).2.1 1)]))]) (hI.1.I [52] _ rfl (by decide) (by decide) (List.forall_mem_cons.mpr ⟨wf_m, (fun _ h => nomatch h)⟩)) ?_)
  refine y_lvE (lv2 := [(0, .ref (ad 52)), (1, .int (nI k))]) rfl ?_
  refine y_aload_n d_Mm_deliver_0 rfl 0 rfl ?_
  refine y_iconst d_Mm_deliver_1 (v := 0) (by decide) ?_
  refine y_put fp_Mm_84 d_Mm_deliver_2 (fun h => nomatch h) rfl rfl (q0 := 0) rfl (Nat.le_of_ble_eq_true rfl) (cs' := [((ad 52), .inr (12, [.int 0, .ref (ad 53), .int (nI ((t.1 52).2.2 0)), .ref (ad 54), .ref (ad 55), .ref (ad 56), .ref (ad 57), .ref (ad 58), .ref (ad 59), .ref (ad 60), .ref (ad 61), .int ((t.1 52).1 0), .int ((t.1 52).1 1), .int ((t.1 52).1 2), .int ((t.1 52).1 3), .int ((t.1 52).1 4), .int ((t.1 52).1 5), .ref (ad 62), .ref (ad 63), .ref (ad 64), .int ((t.1 52).1 6), .int ((t.1 52).1 7), .int ((t.1 52).1 8), .int ((t.1 52).1 9), .int ((t.1 52).1 10), .ref (ad 65), .ref (ad 66), .ref (ad 67), .ref (ad 68), .long ((t.1 52).2.1 0), .long ((t.1 52).2.1 1)]))]) rfl ?_
  refine y_aload_n d_Mm_deliver_5 rfl 0 rfl ?_
  refine y_aload_n d_Mm_deliver_6 rfl 0 rfl ?_
  refine y_iload_n d_Mm_deliver_7 rfl 1 rfl ?_
  refine yw_callV (As := [.int (nI k)]) (rest := [.ref (ad 52)]) (q0 := 0) rfl rfl ln_Mm_301 w_im_Mm_noCasting w_se_Mm_noCasting ok_Mm_deliver_Mm_noCasting d_Mm_deliver_8 (fun wA hA => Q_noCasting0 (hI.gen (t2 := t) (is := [52]) (L2 := []) hA rfl ⟨kd_52.mpr ⟨_, rfl⟩, trivial⟩ (by decide) (by decide) (fun _ h => nomatch h) (fun _ h => nomatch h) (fun _ _ _ => rfl) (fun h => h) rfl) (nI k) ⟨k, hk, rfl⟩) rfl rfl (Nat.le_of_ble_eq_true rfl) (by omega) (by omega) (fun wA8 hA8 E wB8 hx => ?_) (fun wA8 hA8 v wB8 hx => ?_)
  · exact absurd hx.1 (by simp)
  · obtain ⟨e1, e2⟩ := hx
    cases e1
    refine yw_st (st2 := [.int 0, .ref (ad 52)]) rfl ?_
    subst e2
    refine y_go hA8 ?_
    refine y_iconst d_Mm_deliver_11 (v := 1) (by decide) ?_
    refine y_callV (As := [.int 0, .int 1]) (rest := []) (csC := [((ad 52), .inr (12, [.int 0, .ref (ad 53), .int (nI ((t.1 52).2.2 0)), .ref (ad 54), .ref (ad 55), .ref (ad 56), .ref (ad 57), .ref (ad 58), .ref (ad 59), .ref (ad 60), .ref (ad 61), .int ((t.1 52).1 0), .int ((t.1 52).1 1), .int ((t.1 52).1 2), .int ((t.1 52).1 3), .int ((t.1 52).1 4), .int ((t.1 52).1 5), .ref (ad 62), .ref (ad 63), .ref (ad 64), .int ((t.1 52).1 6), .int ((t.1 52).1 7), .int ((t.1 52).1 8), .int ((t.1 52).1 9), .int ((t.1 52).1 10), .ref (ad 65), .ref (ad 66), .ref (ad 67), .ref (ad 68), .long ((t.1 52).2.1 0), .long ((t.1 52).2.1 1)]))]) (is := [0]) (q0 := 0) rfl rfl ln_Mm_103 w_im_Mm_fails w_se_Mm_fails ok_Mm_deliver_Mm_fails d_Mm_deliver_12 (C_Mm_fails0 g (ad 52) (ad 53) (ad 54) (ad 55) (ad 56) (ad 57) (ad 58) (ad 59) (ad 60) (ad 61) (ad 62) (ad 63) (ad 64) (ad 65) (ad 66) (ad 67) (ad 68) 0 (nI ((t.1 52).2.2 0)) ((t.1 52).1 0) ((t.1 52).1 1) ((t.1 52).1 2) ((t.1 52).1 3) ((t.1 52).1 4) ((t.1 52).1 5) ((t.1 52).1 6) ((t.1 52).1 7) ((t.1 52).1 8) ((t.1 52).1 9) ((t.1 52).1 10) ((t.1 52).2.1 0) ((t.1 52).2.1 1) 1) rfl rfl (Nat.le_of_ble_eq_true rfl) rfl (by decide) (by omega) (by omega) (fun E cs1 hx => ?_) (fun v cs1 hx => ?_)
    · exact absurd hx.1 (by simp)
    · obtain ⟨e1, rfl⟩ := hx
      cases e1
      refine ⟨rfl, ?_⟩
      refine y_st (st2 := [.int 0]) rfl ?_
      refine y_cs (cs2 := [((ad 52), .inr (12, [.int 0, .ref (ad 53), .int (nI ((t.1 52).2.2 0)), .ref (ad 54), .ref (ad 55), .ref (ad 56), .ref (ad 57), .ref (ad 58), .ref (ad 59), .ref (ad 60), .ref (ad 61), .int ((t.1 52).1 0), .int ((t.1 52).1 1), .int ((t.1 52).1 2), .int ((t.1 52).1 3), .int ((t.1 52).1 4), .int ((t.1 52).1 5), .ref (ad 62), .ref (ad 63), .ref (ad 64), .int ((t.1 52).1 6), .int ((t.1 52).1 7), .int ((t.1 52).1 8), .int ((t.1 52).1 9), .int ((t.1 52).1 10), .ref (ad 65), .ref (ad 66), .ref (ad 67), .ref (ad 68), .long ((t.1 52).2.1 0), .long ((t.1 52).2.1 1)]))]) rfl ?_
      refine y_if_ne (tgt := 47) d_Mm_deliver_15 (by decide) (fun c_15 => ?_) (fun c_15 => ?_)
      · exact absurd c_15 (by decide)
      · refine y_aload_n d_Mm_deliver_18 rfl 0 rfl ?_
        refine y_aload_n d_Mm_deliver_19 rfl 0 rfl ?_
        refine y_get fs_Mm_78 d_Mm_deliver_20 (q0 := 0) rfl rfl ?_
        refine y_iload_n d_Mm_deliver_23 rfl 1 rfl ?_
        refine yw_callVL (As := [.int (nI k)]) (rest := [.ref (ad 52)]) (ci := 13) rfl (fun wA hA => ((hI.gen (t2 := t) (is := [52]) (L2 := []) hA rfl ⟨kd_52.mpr ⟨_, rfl⟩, trivial⟩ (by decide) (by decide) (fun _ h => nomatch h) (fun _ h => nomatch h) (fun _ _ _ => rfl) (fun h => h) rfl).2.1.1 5 (by decide)).ob) ln_Mm_211 w_im_AL_get w_se_AL_get ok_Mm_deliver_AL_get d_Mm_deliver_24 (fun wA hA => Q_get ((hI.gen (t2 := t) (is := [52]) (L2 := []) hA rfl ⟨kd_52.mpr ⟨_, rfl⟩, trivial⟩ (by decide) (by decide) (fun _ h => nomatch h) (fun _ h => nomatch h) (fun _ _ _ => rfl) (fun h => h) rfl).2.1.1 5 (by decide)) hk) rfl rfl (Nat.le_of_ble_eq_true rfl) (by omega) (by omega) (fun wA24 hA24 E wB24 hx => ?_) (fun wA24 hA24 v wB24 hx => ?_)
        · exact absurd hx.1 (by simp)
        · obtain ⟨e1, e2⟩ := hx
          cases e1
          refine yw_st (st2 := [.ref (u.2.2 5 k), .ref (ad 52)]) rfl ?_
          subst e2
          refine y_go hA24 ?_
          refine y_end (fun wC1 hC1 => ?_)
          have hI9 := (hI.gen (t2 := t) (is := [52]) (L2 := []) hC1 rfl ⟨kd_52.mpr ⟨_, rfl⟩, trivial⟩ (by decide) (by decide) (fun _ h => nomatch h) (fun _ h => nomatch h) (fun _ _ _ => rfl) (fun h => h) rfl)
          have hI := hI9
          obtain ⟨nf_c, hw_c, h0_c⟩ := hI.2.1.2.1 5 (by decide) k hk
          refine y_base (cs := [((ad 52), .inr (12, [.int 0, .ref (ad 53), .int (nI ((t.1 52).2.2 0)), .ref (ad 54), .ref (ad 55), .ref (ad 56), .ref (ad 57), .ref (ad 58), .ref (ad 59), .ref (ad 60), .ref (ad 61), .int ((t.1 52).1 0), .int ((t.1 52).1 1), .int ((t.1 52).1 2), .int ((t.1 52).1 3), .int ((t.1 52).1 4), .int ((t.1 52).1 5), .ref (ad 62), .ref (ad 63), .ref (ad 64), .int ((t.1 52).1 6), .int ((t.1 52).1 7), .int ((t.1 52).1 8), .int ((t.1 52).1 9), .int ((t.1 52).1 10), .ref (ad 65), .ref (ad 66), .ref (ad 67), .ref (ad 68), .long ((t.1 52).2.1 0), .long ((t.1 52).2.1 1)])), ((u.2.2 5 k), .inl (0, 6, .inl ((t.2 5 k).2.1)))]) (z_I.kd (List.forall_mem_cons.mpr ⟨hC1.at (q0 := 0) rfl, (List.forall_mem_cons.mpr ⟨hw_c, (fun _ h => nomatch h)⟩)⟩) (by simp [z_kd])) ?_
          refine y_castA (t := 0) (by decide) lk_Mm_215 d_Mm_deliver_27 (q0 := 1) rfl ?_
          refine y_iconst d_Mm_deliver_30 (v := 5) (by decide) ?_
          refine y_iald d_Mm_deliver_31 (q0 := 1) rfl (fun q => q.elim (by decide) (by decide)) (v := ((t.2 5 k).2.1) 5) rfl ?_
          refine y_if_eq (tgt := 39) d_Mm_deliver_32 (by decide) (fun c_32 => ?_) (fun c_32 => ?_)
          · refine y_iconst d_Mm_deliver_39 (v := 0) (by decide) ?_
            refine y_iconst d_Mm_deliver_40 (v := 2) (by decide) ?_
            refine y_callV (As := [.int 0, .int 2]) (rest := []) (csC := [((ad 52), .inr (12, [.int 0, .ref (ad 53), .int (nI ((t.1 52).2.2 0)), .ref (ad 54), .ref (ad 55), .ref (ad 56), .ref (ad 57), .ref (ad 58), .ref (ad 59), .ref (ad 60), .ref (ad 61), .int ((t.1 52).1 0), .int ((t.1 52).1 1), .int ((t.1 52).1 2), .int ((t.1 52).1 3), .int ((t.1 52).1 4), .int ((t.1 52).1 5), .ref (ad 62), .ref (ad 63), .ref (ad 64), .int ((t.1 52).1 6), .int ((t.1 52).1 7), .int ((t.1 52).1 8), .int ((t.1 52).1 9), .int ((t.1 52).1 10), .ref (ad 65), .ref (ad 66), .ref (ad 67), .ref (ad 68), .long ((t.1 52).2.1 0), .long ((t.1 52).2.1 1)]))]) (is := [0]) (q0 := 0) rfl rfl ln_Mm_103 w_im_Mm_fails w_se_Mm_fails ok_Mm_deliver_Mm_fails d_Mm_deliver_41 (C_Mm_fails0 g (ad 52) (ad 53) (ad 54) (ad 55) (ad 56) (ad 57) (ad 58) (ad 59) (ad 60) (ad 61) (ad 62) (ad 63) (ad 64) (ad 65) (ad 66) (ad 67) (ad 68) 0 (nI ((t.1 52).2.2 0)) ((t.1 52).1 0) ((t.1 52).1 1) ((t.1 52).1 2) ((t.1 52).1 3) ((t.1 52).1 4) ((t.1 52).1 5) ((t.1 52).1 6) ((t.1 52).1 7) ((t.1 52).1 8) ((t.1 52).1 9) ((t.1 52).1 10) ((t.1 52).2.1 0) ((t.1 52).2.1 1) 2) rfl rfl (Nat.le_of_ble_eq_true rfl) rfl (by decide) (by omega) (by omega) (fun E cs1 hx => ?_) (fun v cs1 hx => ?_)
            · exact absurd hx.1 (by simp)
            · obtain ⟨e1, rfl⟩ := hx
              cases e1
              refine ⟨rfl, ?_⟩
              refine y_st (st2 := [.int 0]) rfl ?_
              refine y_cs (cs2 := [((ad 52), .inr (12, [.int 0, .ref (ad 53), .int (nI ((t.1 52).2.2 0)), .ref (ad 54), .ref (ad 55), .ref (ad 56), .ref (ad 57), .ref (ad 58), .ref (ad 59), .ref (ad 60), .ref (ad 61), .int ((t.1 52).1 0), .int ((t.1 52).1 1), .int ((t.1 52).1 2), .int ((t.1 52).1 3), .int ((t.1 52).1 4), .int ((t.1 52).1 5), .ref (ad 62), .ref (ad 63), .ref (ad 64), .int ((t.1 52).1 6), .int ((t.1 52).1 7), .int ((t.1 52).1 8), .int ((t.1 52).1 9), .int ((t.1 52).1 10), .ref (ad 65), .ref (ad 66), .ref (ad 67), .ref (ad 68), .long ((t.1 52).2.1 0), .long ((t.1 52).2.1 1)])), ((u.2.2 5 k), .inl (0, 6, .inl ((t.2 5 k).2.1)))]) rfl ?_
              refine y_if_eq (tgt := 49) d_Mm_deliver_44 (by decide) (fun c_44 => ?_) (fun c_44 => ?_)
              · refine y_aload_n d_Mm_deliver_49 rfl 0 rfl ?_
                refine y_get fs_Mm_78 d_Mm_deliver_50 (q0 := 0) rfl rfl ?_
                refine y_iload_n d_Mm_deliver_53 rfl 1 rfl ?_
                refine yw_callVL (As := [.int (nI k)]) (rest := []) (ci := 13) rfl (fun wA hA => ((hI.gen (t2 := t) (is := [52]) (L2 := [(u.2.2 5 k)]) hA rfl ⟨kd_52.mpr ⟨_, rfl⟩, trivial⟩ (by decide) (by decide) (List.forall_mem_cons.mpr ⟨nf_c, (fun _ h => nomatch h)⟩) (List.forall_mem_cons.mpr ⟨⟨_, hw_c, hA.at (q0 := 1) rfl⟩, (fun _ h => nomatch h)⟩) (fun _ _ _ => rfl) (fun h => h) rfl).2.1.1 5 (by decide)).ob) ln_Mm_211 w_im_AL_get w_se_AL_get ok_Mm_deliver_AL_get d_Mm_deliver_54 (fun wA hA => Q_get ((hI.gen (t2 := t) (is := [52]) (L2 := [(u.2.2 5 k)]) hA rfl ⟨kd_52.mpr ⟨_, rfl⟩, trivial⟩ (by decide) (by decide) (List.forall_mem_cons.mpr ⟨nf_c, (fun _ h => nomatch h)⟩) (List.forall_mem_cons.mpr ⟨⟨_, hw_c, hA.at (q0 := 1) rfl⟩, (fun _ h => nomatch h)⟩) (fun _ _ _ => rfl) (fun h => h) rfl).2.1.1 5 (by decide)) hk) rfl rfl (Nat.le_of_ble_eq_true rfl) (by omega) (by omega) (fun wA54 hA54 E wB54 hx => ?_) (fun wA54 hA54 v wB54 hx => ?_)
                · exact absurd hx.1 (by simp)
                · obtain ⟨e1, e2⟩ := hx
                  cases e1
                  refine yw_st (st2 := [.ref (u.2.2 5 k)]) rfl ?_
                  subst e2
                  refine y_go hA54 ?_
                  refine y_castA (t := 0) (by decide) lk_Mm_215 d_Mm_deliver_57 (q0 := 1) rfl ?_
                  refine y_astore_n (lv' := [(2, .ref (u.2.2 5 k)), (0, .ref (ad 52)), (1, .int (nI k))]) d_Mm_deliver_60 rfl (by decide) rfl ?_
                  refine y_aload_n d_Mm_deliver_61 rfl 0 rfl ?_
                  refine y_iconst d_Mm_deliver_62 (v := 2) (by decide) ?_
                  refine y_iald d_Mm_deliver_63 (q0 := 1) rfl (fun q => q.elim (by decide) (by decide)) (v := ((t.2 5 k).2.1) 2) rfl ?_
                  refine y_if_eq (tgt := 69) d_Mm_deliver_64 (by decide) (fun c_64 => ?_) (fun c_64 => ?_)
                  · refine y_aload_n d_Mm_deliver_69 rfl 0 rfl ?_
                    refine y_iconst d_Mm_deliver_70 (v := 5) (by decide) ?_
                    refine y_iconst d_Mm_deliver_71 (v := 1) (by decide) ?_
                    refine y_iast d_Mm_deliver_72 (q0 := 1) rfl (fun q => q.elim (by decide) (by decide)) (f' := upd ((t.2 5 k).2.1) 5 1) rfl (cs' := [((ad 52), .inr (12, [.int 0, .ref (ad 53), .int (nI ((t.1 52).2.2 0)), .ref (ad 54), .ref (ad 55), .ref (ad 56), .ref (ad 57), .ref (ad 58), .ref (ad 59), .ref (ad 60), .ref (ad 61), .int ((t.1 52).1 0), .int ((t.1 52).1 1), .int ((t.1 52).1 2), .int ((t.1 52).1 3), .int ((t.1 52).1 4), .int ((t.1 52).1 5), .ref (ad 62), .ref (ad 63), .ref (ad 64), .int ((t.1 52).1 6), .int ((t.1 52).1 7), .int ((t.1 52).1 8), .int ((t.1 52).1 9), .int ((t.1 52).1 10), .ref (ad 65), .ref (ad 66), .ref (ad 67), .ref (ad 68), .long ((t.1 52).2.1 0), .long ((t.1 52).2.1 1)])), ((u.2.2 5 k), .inl (0, 6, .inl (upd ((t.2 5 k).2.1) 5 1)))]) rfl ?_
                    refine y_aload_n d_Mm_deliver_73 rfl 1 rfl ?_
                    refine y_dup d_Mm_deliver_74 rfl ?_
                    refine y_get fs_Mm_316 d_Mm_deliver_75 (q0 := 0) rfl rfl ?_
                    refine y_aload_n d_Mm_deliver_78 rfl 0 rfl ?_
                    refine y_iconst d_Mm_deliver_79 (v := 0) (by decide) ?_
                    refine y_iald d_Mm_deliver_80 (q0 := 1) rfl (fun q => q.elim (by decide) (by decide)) (v := (upd ((t.2 5 k).2.1) 5 1) 0) rfl ?_
                    refine y_i2l d_Mm_deliver_81 (v := ((upd ((t.2 5 k).2.1) 5 1) 0).toInt64) rfl ?_
                    refine y_ladd d_Mm_deliver_82 (v := ((t.1 52).2.1 1) + (((upd ((t.2 5 k).2.1) 5 1) 0).toInt64)) rfl ?_
                    refine y_put fp_Mm_316 d_Mm_deliver_83 (fun h => nomatch h) rfl rfl (q0 := 0) rfl (Nat.le_of_ble_eq_true rfl) (cs' := [((ad 52), .inr (12, [.int 0, .ref (ad 53), .int (nI ((t.1 52).2.2 0)), .ref (ad 54), .ref (ad 55), .ref (ad 56), .ref (ad 57), .ref (ad 58), .ref (ad 59), .ref (ad 60), .ref (ad 61), .int ((t.1 52).1 0), .int ((t.1 52).1 1), .int ((t.1 52).1 2), .int ((t.1 52).1 3), .int ((t.1 52).1 4), .int ((t.1 52).1 5), .ref (ad 62), .ref (ad 63), .ref (ad 64), .int ((t.1 52).1 6), .int ((t.1 52).1 7), .int ((t.1 52).1 8), .int ((t.1 52).1 9), .int ((t.1 52).1 10), .ref (ad 65), .ref (ad 66), .ref (ad 67), .ref (ad 68), .long ((t.1 52).2.1 0), .long (((t.1 52).2.1 1) + (((upd ((t.2 5 k).2.1) 5 1) 0).toInt64))])), ((u.2.2 5 k), .inl (0, 6, .inl (upd ((t.2 5 k).2.1) 5 1)))]) rfl ?_
                    refine y_iconst d_Mm_deliver_86 (v := 1) (by decide) ?_
                    refine y_iret d_Mm_deliver_87 rfl rfl ?_
                    exact fun w1 h1 => ⟨rfl, (hI.gen1 (M := 5) (j := k) (v2 := ((t.2 5 k).1, upd ((t.2 5 k).2.1) 5 1, (t.2 5 k).2.2)) (t2 := (zup t.1 [(52, ((t.1 52).1, (vp_updL ((t.1 52).2.1) 1 ((t.1 52).2.1 1 + ((t.2 5 k).2.1 0).toInt64)), (t.1 52).2.2))], vup t.2 5 k ((t.2 5 k).1, upd ((t.2 5 k).2.1) 5 (1), (t.2 5 k).2.2))) (is := [52]) (L2 := [(u.2.2 5 k)]) (by decide) hk (Or.inr (Or.inr (Or.inr (Or.inr rfl)))) h1 rfl ⟨kd_52.mpr ⟨_, rfl⟩, trivial⟩ (by decide) (by decide) (List.forall_mem_cons.mpr ⟨nf_c, (fun _ h => nomatch h)⟩) (List.forall_mem_cons.mpr ⟨(Or.inl rfl), (fun _ h => nomatch h)⟩) (fun i hi hn => zup_out (fun q => hn ((by decide : ∀ j ∈ ([52] : List Nat), j ∈ ([52] : List Nat)) i q))) (fun h => h) ⟨nf_c, h1.at (q0 := 1) rfl, h0_c⟩ rfl)⟩
                  · exact absurd h2 c_64
              · exact absurd c_44 (by decide)
          · exact absurd h3 c_32
theorem d_Mm_deliver_67 : decode prog_14_method_88_code 67 = .ok (.iconst 0, 1) := zo_3 (zd_b zq_prog_14_method_88_code_2 3 rfl rfl rfl)
theorem d_Mm_deliver_68 : decode prog_14_method_88_code 68 = .ok (.ireturn, 1) := zo_172 (zd_b zq_prog_14_method_88_code_2 4 rfl rfl rfl)
set_option maxHeartbeats 4000000 in
set_option maxRecDepth 100000 in
theorem Qx_Mm_deliverN {g : zG} {ad : Nat → Nat} {t : zTT} {u : zNN} {w : zW} (hI : IV g ad t u w) (k : Nat) (hk : k < u.1 5) (h3 : (t.2 5 k).2.1 5 = 0) (h2 : ¬ (t.2 5 k).2.1 2 = 0) : zMB g M_Mm_deliver [.ref (ad 52), .int (nI k)] w (fun o w1 => o = .inl (some (.int 0)) ∧ IV g ad t u w1) 0 0 := by
  obtain ⟨e_m, wf_m, k_m⟩ := hI.1.2 52 (by decide)
  obtain ⟨v_m_th, rfl⟩ := kd_52.mp k_m
  refine y_of (by decide) rfl (Nat.le_of_ble_eq_true rfl) (y_base (cs := [((ad 52), .inr (12, [.int v_m_th, .ref (ad 53), .int (nI ((t.1 52).2.2 0)), .ref (ad 54), .ref (ad 55), .ref (ad 56), .ref (ad 57), .ref (ad 58), .ref (ad 59), .ref (ad 60), .ref (ad 61), .int ((t.1 52).1 0), .int ((t.1 52).1 1), .int ((t.1 52).1 2), .int ((t.1 52).1 3), .int ((t.1 52).1 4), .int ((t.1 52).1 5), .ref (ad 62), .ref (ad 63), .ref (ad 64), .int ((t.1 52).1 6), .int ((t.1 52).1 7), .int ((t.1 52).1 8), .int ((t.1 52).1 9), .int ((t.1 52).1 10), .ref (ad 65), .ref (ad 66), .ref (ad 67), .ref (ad 68), .long ((t.1 52).2.1 0), .long ((t.1 52).2.1 1)]))]) (hI.1.I [52] _ rfl (by decide) (by decide) (List.forall_mem_cons.mpr ⟨wf_m, (fun _ h => nomatch h)⟩)) ?_)
  refine y_lvE (lv2 := [(0, .ref (ad 52)), (1, .int (nI k))]) rfl ?_
  refine y_aload_n d_Mm_deliver_0 rfl 0 rfl ?_
  refine y_iconst d_Mm_deliver_1 (v := 0) (by decide) ?_
  refine y_put fp_Mm_84 d_Mm_deliver_2 (fun h => nomatch h) rfl rfl (q0 := 0) rfl (Nat.le_of_ble_eq_true rfl) (cs' := [((ad 52), .inr (12, [.int 0, .ref (ad 53), .int (nI ((t.1 52).2.2 0)), .ref (ad 54), .ref (ad 55), .ref (ad 56), .ref (ad 57), .ref (ad 58), .ref (ad 59), .ref (ad 60), .ref (ad 61), .int ((t.1 52).1 0), .int ((t.1 52).1 1), .int ((t.1 52).1 2), .int ((t.1 52).1 3), .int ((t.1 52).1 4), .int ((t.1 52).1 5), .ref (ad 62), .ref (ad 63), .ref (ad 64), .int ((t.1 52).1 6), .int ((t.1 52).1 7), .int ((t.1 52).1 8), .int ((t.1 52).1 9), .int ((t.1 52).1 10), .ref (ad 65), .ref (ad 66), .ref (ad 67), .ref (ad 68), .long ((t.1 52).2.1 0), .long ((t.1 52).2.1 1)]))]) rfl ?_
  refine y_aload_n d_Mm_deliver_5 rfl 0 rfl ?_
  refine y_aload_n d_Mm_deliver_6 rfl 0 rfl ?_
  refine y_iload_n d_Mm_deliver_7 rfl 1 rfl ?_
  refine yw_callV (As := [.int (nI k)]) (rest := [.ref (ad 52)]) (q0 := 0) rfl rfl ln_Mm_301 w_im_Mm_noCasting w_se_Mm_noCasting ok_Mm_deliver_Mm_noCasting d_Mm_deliver_8 (fun wA hA => Q_noCasting0 (hI.gen (t2 := t) (is := [52]) (L2 := []) hA rfl ⟨kd_52.mpr ⟨_, rfl⟩, trivial⟩ (by decide) (by decide) (fun _ h => nomatch h) (fun _ h => nomatch h) (fun _ _ _ => rfl) (fun h => h) rfl) (nI k) ⟨k, hk, rfl⟩) rfl rfl (Nat.le_of_ble_eq_true rfl) (by omega) (by omega) (fun wA8 hA8 E wB8 hx => ?_) (fun wA8 hA8 v wB8 hx => ?_)
  · exact absurd hx.1 (by simp)
  · obtain ⟨e1, e2⟩ := hx
    cases e1
    refine yw_st (st2 := [.int 0, .ref (ad 52)]) rfl ?_
    subst e2
    refine y_go hA8 ?_
    refine y_iconst d_Mm_deliver_11 (v := 1) (by decide) ?_
    refine y_callV (As := [.int 0, .int 1]) (rest := []) (csC := [((ad 52), .inr (12, [.int 0, .ref (ad 53), .int (nI ((t.1 52).2.2 0)), .ref (ad 54), .ref (ad 55), .ref (ad 56), .ref (ad 57), .ref (ad 58), .ref (ad 59), .ref (ad 60), .ref (ad 61), .int ((t.1 52).1 0), .int ((t.1 52).1 1), .int ((t.1 52).1 2), .int ((t.1 52).1 3), .int ((t.1 52).1 4), .int ((t.1 52).1 5), .ref (ad 62), .ref (ad 63), .ref (ad 64), .int ((t.1 52).1 6), .int ((t.1 52).1 7), .int ((t.1 52).1 8), .int ((t.1 52).1 9), .int ((t.1 52).1 10), .ref (ad 65), .ref (ad 66), .ref (ad 67), .ref (ad 68), .long ((t.1 52).2.1 0), .long ((t.1 52).2.1 1)]))]) (is := [0]) (q0 := 0) rfl rfl ln_Mm_103 w_im_Mm_fails w_se_Mm_fails ok_Mm_deliver_Mm_fails d_Mm_deliver_12 (C_Mm_fails0 g (ad 52) (ad 53) (ad 54) (ad 55) (ad 56) (ad 57) (ad 58) (ad 59) (ad 60) (ad 61) (ad 62) (ad 63) (ad 64) (ad 65) (ad 66) (ad 67) (ad 68) 0 (nI ((t.1 52).2.2 0)) ((t.1 52).1 0) ((t.1 52).1 1) ((t.1 52).1 2) ((t.1 52).1 3) ((t.1 52).1 4) ((t.1 52).1 5) ((t.1 52).1 6) ((t.1 52).1 7) ((t.1 52).1 8) ((t.1 52).1 9) ((t.1 52).1 10) ((t.1 52).2.1 0) ((t.1 52).2.1 1) 1) rfl rfl (Nat.le_of_ble_eq_true rfl) rfl (by decide) (by omega) (by omega) (fun E cs1 hx => ?_) (fun v cs1 hx => ?_)
    · exact absurd hx.1 (by simp)
    · obtain ⟨e1, rfl⟩ := hx
      cases e1
      refine ⟨rfl, ?_⟩
      refine y_st (st2 := [.int 0]) rfl ?_
      refine y_cs (cs2 := [((ad 52), .inr (12, [.int 0, .ref (ad 53), .int (nI ((t.1 52).2.2 0)), .ref (ad 54), .ref (ad 55), .ref (ad 56), .ref (ad 57), .ref (ad 58), .ref (ad 59), .ref (ad 60), .ref (ad 61), .int ((t.1 52).1 0), .int ((t.1 52).1 1), .int ((t.1 52).1 2), .int ((t.1 52).1 3), .int ((t.1 52).1 4), .int ((t.1 52).1 5), .ref (ad 62), .ref (ad 63), .ref (ad 64), .int ((t.1 52).1 6), .int ((t.1 52).1 7), .int ((t.1 52).1 8), .int ((t.1 52).1 9), .int ((t.1 52).1 10), .ref (ad 65), .ref (ad 66), .ref (ad 67), .ref (ad 68), .long ((t.1 52).2.1 0), .long ((t.1 52).2.1 1)]))]) rfl ?_
      refine y_if_ne (tgt := 47) d_Mm_deliver_15 (by decide) (fun c_15 => ?_) (fun c_15 => ?_)
      · exact absurd c_15 (by decide)
      · refine y_aload_n d_Mm_deliver_18 rfl 0 rfl ?_
        refine y_aload_n d_Mm_deliver_19 rfl 0 rfl ?_
        refine y_get fs_Mm_78 d_Mm_deliver_20 (q0 := 0) rfl rfl ?_
        refine y_iload_n d_Mm_deliver_23 rfl 1 rfl ?_
        refine yw_callVL (As := [.int (nI k)]) (rest := [.ref (ad 52)]) (ci := 13) rfl (fun wA hA => ((hI.gen (t2 := t) (is := [52]) (L2 := []) hA rfl ⟨kd_52.mpr ⟨_, rfl⟩, trivial⟩ (by decide) (by decide) (fun _ h => nomatch h) (fun _ h => nomatch h) (fun _ _ _ => rfl) (fun h => h) rfl).2.1.1 5 (by decide)).ob) ln_Mm_211 w_im_AL_get w_se_AL_get ok_Mm_deliver_AL_get d_Mm_deliver_24 (fun wA hA => Q_get ((hI.gen (t2 := t) (is := [52]) (L2 := []) hA rfl ⟨kd_52.mpr ⟨_, rfl⟩, trivial⟩ (by decide) (by decide) (fun _ h => nomatch h) (fun _ h => nomatch h) (fun _ _ _ => rfl) (fun h => h) rfl).2.1.1 5 (by decide)) hk) rfl rfl (Nat.le_of_ble_eq_true rfl) (by omega) (by omega) (fun wA24 hA24 E wB24 hx => ?_) (fun wA24 hA24 v wB24 hx => ?_)
        · exact absurd hx.1 (by simp)
        · obtain ⟨e1, e2⟩ := hx
          cases e1
          refine yw_st (st2 := [.ref (u.2.2 5 k), .ref (ad 52)]) rfl ?_
          subst e2
          refine y_go hA24 ?_
          refine y_end (fun wC1 hC1 => ?_)
          have hI9 := (hI.gen (t2 := t) (is := [52]) (L2 := []) hC1 rfl ⟨kd_52.mpr ⟨_, rfl⟩, trivial⟩ (by decide) (by decide) (fun _ h => nomatch h) (fun _ h => nomatch h) (fun _ _ _ => rfl) (fun h => h) rfl)
          have hI := hI9
          obtain ⟨nf_c, hw_c, h0_c⟩ := hI.2.1.2.1 5 (by decide) k hk
          refine y_base (cs := [((ad 52), .inr (12, [.int 0, .ref (ad 53), .int (nI ((t.1 52).2.2 0)), .ref (ad 54), .ref (ad 55), .ref (ad 56), .ref (ad 57), .ref (ad 58), .ref (ad 59), .ref (ad 60), .ref (ad 61), .int ((t.1 52).1 0), .int ((t.1 52).1 1), .int ((t.1 52).1 2), .int ((t.1 52).1 3), .int ((t.1 52).1 4), .int ((t.1 52).1 5), .ref (ad 62), .ref (ad 63), .ref (ad 64), .int ((t.1 52).1 6), .int ((t.1 52).1 7), .int ((t.1 52).1 8), .int ((t.1 52).1 9), .int ((t.1 52).1 10), .ref (ad 65), .ref (ad 66), .ref (ad 67), .ref (ad 68), .long ((t.1 52).2.1 0), .long ((t.1 52).2.1 1)])), ((u.2.2 5 k), .inl (0, 6, .inl ((t.2 5 k).2.1)))]) (z_I.kd (List.forall_mem_cons.mpr ⟨hC1.at (q0 := 0) rfl, (List.forall_mem_cons.mpr ⟨hw_c, (fun _ h => nomatch h)⟩)⟩) (by simp [z_kd])) ?_
          refine y_castA (t := 0) (by decide) lk_Mm_215 d_Mm_deliver_27 (q0 := 1) rfl ?_
          refine y_iconst d_Mm_deliver_30 (v := 5) (by decide) ?_
          refine y_iald d_Mm_deliver_31 (q0 := 1) rfl (fun q => q.elim (by decide) (by decide)) (v := ((t.2 5 k).2.1) 5) rfl ?_
          refine y_if_eq (tgt := 39) d_Mm_deliver_32 (by decide) (fun c_32 => ?_) (fun c_32 => ?_)
          · refine y_iconst d_Mm_deliver_39 (v := 0) (by decide) ?_
            refine y_iconst d_Mm_deliver_40 (v := 2) (by decide) ?_
            refine y_callV (As := [.int 0, .int 2]) (rest := []) (csC := [((ad 52), .inr (12, [.int 0, .ref (ad 53), .int (nI ((t.1 52).2.2 0)), .ref (ad 54), .ref (ad 55), .ref (ad 56), .ref (ad 57), .ref (ad 58), .ref (ad 59), .ref (ad 60), .ref (ad 61), .int ((t.1 52).1 0), .int ((t.1 52).1 1), .int ((t.1 52).1 2), .int ((t.1 52).1 3), .int ((t.1 52).1 4), .int ((t.1 52).1 5), .ref (ad 62), .ref (ad 63), .ref (ad 64), .int ((t.1 52).1 6), .int ((t.1 52).1 7), .int ((t.1 52).1 8), .int ((t.1 52).1 9), .int ((t.1 52).1 10), .ref (ad 65), .ref (ad 66), .ref (ad 67), .ref (ad 68), .long ((t.1 52).2.1 0), .long ((t.1 52).2.1 1)]))]) (is := [0]) (q0 := 0) rfl rfl ln_Mm_103 w_im_Mm_fails w_se_Mm_fails ok_Mm_deliver_Mm_fails d_Mm_deliver_41 (C_Mm_fails0 g (ad 52) (ad 53) (ad 54) (ad 55) (ad 56) (ad 57) (ad 58) (ad 59) (ad 60) (ad 61) (ad 62) (ad 63) (ad 64) (ad 65) (ad 66) (ad 67) (ad 68) 0 (nI ((t.1 52).2.2 0)) ((t.1 52).1 0) ((t.1 52).1 1) ((t.1 52).1 2) ((t.1 52).1 3) ((t.1 52).1 4) ((t.1 52).1 5) ((t.1 52).1 6) ((t.1 52).1 7) ((t.1 52).1 8) ((t.1 52).1 9) ((t.1 52).1 10) ((t.1 52).2.1 0) ((t.1 52).2.1 1) 2) rfl rfl (Nat.le_of_ble_eq_true rfl) rfl (by decide) (by omega) (by omega) (fun E cs1 hx => ?_) (fun v cs1 hx => ?_)
            · exact absurd hx.1 (by simp)
            · obtain ⟨e1, rfl⟩ := hx
              cases e1
              refine ⟨rfl, ?_⟩
              refine y_st (st2 := [.int 0]) rfl ?_
              refine y_cs (cs2 := [((ad 52), .inr (12, [.int 0, .ref (ad 53), .int (nI ((t.1 52).2.2 0)), .ref (ad 54), .ref (ad 55), .ref (ad 56), .ref (ad 57), .ref (ad 58), .ref (ad 59), .ref (ad 60), .ref (ad 61), .int ((t.1 52).1 0), .int ((t.1 52).1 1), .int ((t.1 52).1 2), .int ((t.1 52).1 3), .int ((t.1 52).1 4), .int ((t.1 52).1 5), .ref (ad 62), .ref (ad 63), .ref (ad 64), .int ((t.1 52).1 6), .int ((t.1 52).1 7), .int ((t.1 52).1 8), .int ((t.1 52).1 9), .int ((t.1 52).1 10), .ref (ad 65), .ref (ad 66), .ref (ad 67), .ref (ad 68), .long ((t.1 52).2.1 0), .long ((t.1 52).2.1 1)])), ((u.2.2 5 k), .inl (0, 6, .inl ((t.2 5 k).2.1)))]) rfl ?_
              refine y_if_eq (tgt := 49) d_Mm_deliver_44 (by decide) (fun c_44 => ?_) (fun c_44 => ?_)
              · refine y_aload_n d_Mm_deliver_49 rfl 0 rfl ?_
                refine y_get fs_Mm_78 d_Mm_deliver_50 (q0 := 0) rfl rfl ?_
                refine y_iload_n d_Mm_deliver_53 rfl 1 rfl ?_
                refine yw_callVL (As := [.int (nI k)]) (rest := []) (ci := 13) rfl (fun wA hA => ((hI.gen (t2 := t) (is := [52]) (L2 := [(u.2.2 5 k)]) hA rfl ⟨kd_52.mpr ⟨_, rfl⟩, trivial⟩ (by decide) (by decide) (List.forall_mem_cons.mpr ⟨nf_c, (fun _ h => nomatch h)⟩) (List.forall_mem_cons.mpr ⟨⟨_, hw_c, hA.at (q0 := 1) rfl⟩, (fun _ h => nomatch h)⟩) (fun _ _ _ => rfl) (fun h => h) rfl).2.1.1 5 (by decide)).ob) ln_Mm_211 w_im_AL_get w_se_AL_get ok_Mm_deliver_AL_get d_Mm_deliver_54 (fun wA hA => Q_get ((hI.gen (t2 := t) (is := [52]) (L2 := [(u.2.2 5 k)]) hA rfl ⟨kd_52.mpr ⟨_, rfl⟩, trivial⟩ (by decide) (by decide) (List.forall_mem_cons.mpr ⟨nf_c, (fun _ h => nomatch h)⟩) (List.forall_mem_cons.mpr ⟨⟨_, hw_c, hA.at (q0 := 1) rfl⟩, (fun _ h => nomatch h)⟩) (fun _ _ _ => rfl) (fun h => h) rfl).2.1.1 5 (by decide)) hk) rfl rfl (Nat.le_of_ble_eq_true rfl) (by omega) (by omega) (fun wA54 hA54 E wB54 hx => ?_) (fun wA54 hA54 v wB54 hx => ?_)
                · exact absurd hx.1 (by simp)
                · obtain ⟨e1, e2⟩ := hx
                  cases e1
                  refine yw_st (st2 := [.ref (u.2.2 5 k)]) rfl ?_
                  subst e2
                  refine y_go hA54 ?_
                  refine y_castA (t := 0) (by decide) lk_Mm_215 d_Mm_deliver_57 (q0 := 1) rfl ?_
                  refine y_astore_n (lv' := [(2, .ref (u.2.2 5 k)), (0, .ref (ad 52)), (1, .int (nI k))]) d_Mm_deliver_60 rfl (by decide) rfl ?_
                  refine y_aload_n d_Mm_deliver_61 rfl 0 rfl ?_
                  refine y_iconst d_Mm_deliver_62 (v := 2) (by decide) ?_
                  refine y_iald d_Mm_deliver_63 (q0 := 1) rfl (fun q => q.elim (by decide) (by decide)) (v := ((t.2 5 k).2.1) 2) rfl ?_
                  refine y_if_eq (tgt := 69) d_Mm_deliver_64 (by decide) (fun c_64 => ?_) (fun c_64 => ?_)
                  · exact absurd c_64 h2
                  · refine y_iconst d_Mm_deliver_67 (v := 0) (by decide) ?_
                    refine y_iret d_Mm_deliver_68 rfl rfl ?_
                    exact fun w1 h1 => ⟨rfl, (hI.gen (t2 := t) (is := [52]) (L2 := [(u.2.2 5 k)]) h1 rfl ⟨kd_52.mpr ⟨_, rfl⟩, trivial⟩ (by decide) (by decide) (List.forall_mem_cons.mpr ⟨nf_c, (fun _ h => nomatch h)⟩) (List.forall_mem_cons.mpr ⟨⟨_, hw_c, h1.at (q0 := 1) rfl⟩, (fun _ h => nomatch h)⟩) (fun _ _ _ => rfl) (fun h => h) rfl)⟩
              · exact absurd c_44 (by decide)
          · exact absurd h3 c_32
theorem d_Mm_deliver_35 : decode prog_14_method_88_code 35 = .ok (.iconst 1, 1) := zo_4 (zd_b zq_prog_14_method_88_code_1 3 rfl rfl rfl)
theorem d_Mm_deliver_36 : decode prog_14_method_88_code 36 = .ok (.goto 4, 3) := zo_167 (d := 0) (e := 4) (zd_b zq_prog_14_method_88_code_1 4 rfl rfl rfl) (zd_b zq_prog_14_method_88_code_1 5 rfl rfl rfl) (zd_b zq_prog_14_method_88_code_1 6 rfl rfl rfl) (by decide +kernel)
set_option maxHeartbeats 4000000 in
set_option maxRecDepth 100000 in
theorem Qx_Mm_deliverS {g : zG} {ad : Nat → Nat} {t : zTT} {u : zNN} {w : zW} (hI : IV g ad t u w) (k : Nat) (hk : k < u.1 5) (h3 : ¬ (t.2 5 k).2.1 5 = 0) : zMB g M_Mm_deliver [.ref (ad 52), .int (nI k)] w (fun o w1 => o = .inl (some (.int 0)) ∧ IV g ad t u w1) 0 0 := by
  obtain ⟨e_m, wf_m, k_m⟩ := hI.1.2 52 (by decide)
  obtain ⟨v_m_th, rfl⟩ := kd_52.mp k_m
  refine y_of (by decide) rfl (Nat.le_of_ble_eq_true rfl) (y_base (cs := [((ad 52), .inr (12, [.int v_m_th, .ref (ad 53), .int (nI ((t.1 52).2.2 0)), .ref (ad 54), .ref (ad 55), .ref (ad 56), .ref (ad 57), .ref (ad 58), .ref (ad 59), .ref (ad 60), .ref (ad 61), .int ((t.1 52).1 0), .int ((t.1 52).1 1), .int ((t.1 52).1 2), .int ((t.1 52).1 3), .int ((t.1 52).1 4), .int ((t.1 52).1 5), .ref (ad 62), .ref (ad 63), .ref (ad 64), .int ((t.1 52).1 6), .int ((t.1 52).1 7), .int ((t.1 52).1 8), .int ((t.1 52).1 9), .int ((t.1 52).1 10), .ref (ad 65), .ref (ad 66), .ref (ad 67), .ref (ad 68), .long ((t.1 52).2.1 0), .long ((t.1 52).2.1 1)]))]) (hI.1.I [52] _ rfl (by decide) (by decide) (List.forall_mem_cons.mpr ⟨wf_m, (fun _ h => nomatch h)⟩)) ?_)
  refine y_lvE (lv2 := [(0, .ref (ad 52)), (1, .int (nI k))]) rfl ?_
  refine y_aload_n d_Mm_deliver_0 rfl 0 rfl ?_
  refine y_iconst d_Mm_deliver_1 (v := 0) (by decide) ?_
  refine y_put fp_Mm_84 d_Mm_deliver_2 (fun h => nomatch h) rfl rfl (q0 := 0) rfl (Nat.le_of_ble_eq_true rfl) (cs' := [((ad 52), .inr (12, [.int 0, .ref (ad 53), .int (nI ((t.1 52).2.2 0)), .ref (ad 54), .ref (ad 55), .ref (ad 56), .ref (ad 57), .ref (ad 58), .ref (ad 59), .ref (ad 60), .ref (ad 61), .int ((t.1 52).1 0), .int ((t.1 52).1 1), .int ((t.1 52).1 2), .int ((t.1 52).1 3), .int ((t.1 52).1 4), .int ((t.1 52).1 5), .ref (ad 62), .ref (ad 63), .ref (ad 64), .int ((t.1 52).1 6), .int ((t.1 52).1 7), .int ((t.1 52).1 8), .int ((t.1 52).1 9), .int ((t.1 52).1 10), .ref (ad 65), .ref (ad 66), .ref (ad 67), .ref (ad 68), .long ((t.1 52).2.1 0), .long ((t.1 52).2.1 1)]))]) rfl ?_
  refine y_aload_n d_Mm_deliver_5 rfl 0 rfl ?_
  refine y_aload_n d_Mm_deliver_6 rfl 0 rfl ?_
  refine y_iload_n d_Mm_deliver_7 rfl 1 rfl ?_
  refine yw_callV (As := [.int (nI k)]) (rest := [.ref (ad 52)]) (q0 := 0) rfl rfl ln_Mm_301 w_im_Mm_noCasting w_se_Mm_noCasting ok_Mm_deliver_Mm_noCasting d_Mm_deliver_8 (fun wA hA => Q_noCasting0 (hI.gen (t2 := t) (is := [52]) (L2 := []) hA rfl ⟨kd_52.mpr ⟨_, rfl⟩, trivial⟩ (by decide) (by decide) (fun _ h => nomatch h) (fun _ h => nomatch h) (fun _ _ _ => rfl) (fun h => h) rfl) (nI k) ⟨k, hk, rfl⟩) rfl rfl (Nat.le_of_ble_eq_true rfl) (by omega) (by omega) (fun wA8 hA8 E wB8 hx => ?_) (fun wA8 hA8 v wB8 hx => ?_)
  · exact absurd hx.1 (by simp)
  · obtain ⟨e1, e2⟩ := hx
    cases e1
    refine yw_st (st2 := [.int 0, .ref (ad 52)]) rfl ?_
    subst e2
    refine y_go hA8 ?_
    refine y_iconst d_Mm_deliver_11 (v := 1) (by decide) ?_
    refine y_callV (As := [.int 0, .int 1]) (rest := []) (csC := [((ad 52), .inr (12, [.int 0, .ref (ad 53), .int (nI ((t.1 52).2.2 0)), .ref (ad 54), .ref (ad 55), .ref (ad 56), .ref (ad 57), .ref (ad 58), .ref (ad 59), .ref (ad 60), .ref (ad 61), .int ((t.1 52).1 0), .int ((t.1 52).1 1), .int ((t.1 52).1 2), .int ((t.1 52).1 3), .int ((t.1 52).1 4), .int ((t.1 52).1 5), .ref (ad 62), .ref (ad 63), .ref (ad 64), .int ((t.1 52).1 6), .int ((t.1 52).1 7), .int ((t.1 52).1 8), .int ((t.1 52).1 9), .int ((t.1 52).1 10), .ref (ad 65), .ref (ad 66), .ref (ad 67), .ref (ad 68), .long ((t.1 52).2.1 0), .long ((t.1 52).2.1 1)]))]) (is := [0]) (q0 := 0) rfl rfl ln_Mm_103 w_im_Mm_fails w_se_Mm_fails ok_Mm_deliver_Mm_fails d_Mm_deliver_12 (C_Mm_fails0 g (ad 52) (ad 53) (ad 54) (ad 55) (ad 56) (ad 57) (ad 58) (ad 59) (ad 60) (ad 61) (ad 62) (ad 63) (ad 64) (ad 65) (ad 66) (ad 67) (ad 68) 0 (nI ((t.1 52).2.2 0)) ((t.1 52).1 0) ((t.1 52).1 1) ((t.1 52).1 2) ((t.1 52).1 3) ((t.1 52).1 4) ((t.1 52).1 5) ((t.1 52).1 6) ((t.1 52).1 7) ((t.1 52).1 8) ((t.1 52).1 9) ((t.1 52).1 10) ((t.1 52).2.1 0) ((t.1 52).2.1 1) 1) rfl rfl (Nat.le_of_ble_eq_true rfl) rfl (by decide) (by omega) (by omega) (fun E cs1 hx => ?_) (fun v cs1 hx => ?_)
    · exact absurd hx.1 (by simp)
    · obtain ⟨e1, rfl⟩ := hx
      cases e1
      refine ⟨rfl, ?_⟩
      refine y_st (st2 := [.int 0]) rfl ?_
      refine y_cs (cs2 := [((ad 52), .inr (12, [.int 0, .ref (ad 53), .int (nI ((t.1 52).2.2 0)), .ref (ad 54), .ref (ad 55), .ref (ad 56), .ref (ad 57), .ref (ad 58), .ref (ad 59), .ref (ad 60), .ref (ad 61), .int ((t.1 52).1 0), .int ((t.1 52).1 1), .int ((t.1 52).1 2), .int ((t.1 52).1 3), .int ((t.1 52).1 4), .int ((t.1 52).1 5), .ref (ad 62), .ref (ad 63), .ref (ad 64), .int ((t.1 52).1 6), .int ((t.1 52).1 7), .int ((t.1 52).1 8), .int ((t.1 52).1 9), .int ((t.1 52).1 10), .ref (ad 65), .ref (ad 66), .ref (ad 67), .ref (ad 68), .long ((t.1 52).2.1 0), .long ((t.1 52).2.1 1)]))]) rfl ?_
      refine y_if_ne (tgt := 47) d_Mm_deliver_15 (by decide) (fun c_15 => ?_) (fun c_15 => ?_)
      · exact absurd c_15 (by decide)
      · refine y_aload_n d_Mm_deliver_18 rfl 0 rfl ?_
        refine y_aload_n d_Mm_deliver_19 rfl 0 rfl ?_
        refine y_get fs_Mm_78 d_Mm_deliver_20 (q0 := 0) rfl rfl ?_
        refine y_iload_n d_Mm_deliver_23 rfl 1 rfl ?_
        refine yw_callVL (As := [.int (nI k)]) (rest := [.ref (ad 52)]) (ci := 13) rfl (fun wA hA => ((hI.gen (t2 := t) (is := [52]) (L2 := []) hA rfl ⟨kd_52.mpr ⟨_, rfl⟩, trivial⟩ (by decide) (by decide) (fun _ h => nomatch h) (fun _ h => nomatch h) (fun _ _ _ => rfl) (fun h => h) rfl).2.1.1 5 (by decide)).ob) ln_Mm_211 w_im_AL_get w_se_AL_get ok_Mm_deliver_AL_get d_Mm_deliver_24 (fun wA hA => Q_get ((hI.gen (t2 := t) (is := [52]) (L2 := []) hA rfl ⟨kd_52.mpr ⟨_, rfl⟩, trivial⟩ (by decide) (by decide) (fun _ h => nomatch h) (fun _ h => nomatch h) (fun _ _ _ => rfl) (fun h => h) rfl).2.1.1 5 (by decide)) hk) rfl rfl (Nat.le_of_ble_eq_true rfl) (by omega) (by omega) (fun wA24 hA24 E wB24 hx => ?_) (fun wA24 hA24 v wB24 hx => ?_)
        · exact absurd hx.1 (by simp)
        · obtain ⟨e1, e2⟩ := hx
          cases e1
          refine yw_st (st2 := [.ref (u.2.2 5 k), .ref (ad 52)]) rfl ?_
          subst e2
          refine y_go hA24 ?_
          refine y_end (fun wC1 hC1 => ?_)
          have hI9 := (hI.gen (t2 := t) (is := [52]) (L2 := []) hC1 rfl ⟨kd_52.mpr ⟨_, rfl⟩, trivial⟩ (by decide) (by decide) (fun _ h => nomatch h) (fun _ h => nomatch h) (fun _ _ _ => rfl) (fun h => h) rfl)
          have hI := hI9
          obtain ⟨nf_c, hw_c, h0_c⟩ := hI.2.1.2.1 5 (by decide) k hk
          refine y_base (cs := [((ad 52), .inr (12, [.int 0, .ref (ad 53), .int (nI ((t.1 52).2.2 0)), .ref (ad 54), .ref (ad 55), .ref (ad 56), .ref (ad 57), .ref (ad 58), .ref (ad 59), .ref (ad 60), .ref (ad 61), .int ((t.1 52).1 0), .int ((t.1 52).1 1), .int ((t.1 52).1 2), .int ((t.1 52).1 3), .int ((t.1 52).1 4), .int ((t.1 52).1 5), .ref (ad 62), .ref (ad 63), .ref (ad 64), .int ((t.1 52).1 6), .int ((t.1 52).1 7), .int ((t.1 52).1 8), .int ((t.1 52).1 9), .int ((t.1 52).1 10), .ref (ad 65), .ref (ad 66), .ref (ad 67), .ref (ad 68), .long ((t.1 52).2.1 0), .long ((t.1 52).2.1 1)])), ((u.2.2 5 k), .inl (0, 6, .inl ((t.2 5 k).2.1)))]) (z_I.kd (List.forall_mem_cons.mpr ⟨hC1.at (q0 := 0) rfl, (List.forall_mem_cons.mpr ⟨hw_c, (fun _ h => nomatch h)⟩)⟩) (by simp [z_kd])) ?_
          refine y_castA (t := 0) (by decide) lk_Mm_215 d_Mm_deliver_27 (q0 := 1) rfl ?_
          refine y_iconst d_Mm_deliver_30 (v := 5) (by decide) ?_
          refine y_iald d_Mm_deliver_31 (q0 := 1) rfl (fun q => q.elim (by decide) (by decide)) (v := ((t.2 5 k).2.1) 5) rfl ?_
          refine y_if_eq (tgt := 39) d_Mm_deliver_32 (by decide) (fun c_32 => ?_) (fun c_32 => ?_)
          · exact absurd c_32 h3
          · refine y_iconst d_Mm_deliver_35 (v := 1) (by decide) ?_
            refine y_goto (tgt := 40) d_Mm_deliver_36 (by decide) ?_
            refine y_iconst d_Mm_deliver_40 (v := 2) (by decide) ?_
            refine y_callV (As := [.int 1, .int 2]) (rest := []) (csC := [((ad 52), .inr (12, [.int 0, .ref (ad 53), .int (nI ((t.1 52).2.2 0)), .ref (ad 54), .ref (ad 55), .ref (ad 56), .ref (ad 57), .ref (ad 58), .ref (ad 59), .ref (ad 60), .ref (ad 61), .int ((t.1 52).1 0), .int ((t.1 52).1 1), .int ((t.1 52).1 2), .int ((t.1 52).1 3), .int ((t.1 52).1 4), .int ((t.1 52).1 5), .ref (ad 62), .ref (ad 63), .ref (ad 64), .int ((t.1 52).1 6), .int ((t.1 52).1 7), .int ((t.1 52).1 8), .int ((t.1 52).1 9), .int ((t.1 52).1 10), .ref (ad 65), .ref (ad 66), .ref (ad 67), .ref (ad 68), .long ((t.1 52).2.1 0), .long ((t.1 52).2.1 1)]))]) (is := [0]) (q0 := 0) rfl rfl ln_Mm_103 w_im_Mm_fails w_se_Mm_fails ok_Mm_deliver_Mm_fails d_Mm_deliver_41 (C_Mm_fails2 g (ad 52) (ad 53) (ad 54) (ad 55) (ad 56) (ad 57) (ad 58) (ad 59) (ad 60) (ad 61) (ad 62) (ad 63) (ad 64) (ad 65) (ad 66) (ad 67) (ad 68) 0 (nI ((t.1 52).2.2 0)) ((t.1 52).1 0) ((t.1 52).1 1) ((t.1 52).1 2) ((t.1 52).1 3) ((t.1 52).1 4) ((t.1 52).1 5) ((t.1 52).1 6) ((t.1 52).1 7) ((t.1 52).1 8) ((t.1 52).1 9) ((t.1 52).1 10) ((t.1 52).2.1 0) ((t.1 52).2.1 1)) rfl rfl (Nat.le_of_ble_eq_true rfl) rfl (by decide) (by omega) (by omega) (fun E cs1 hx => ?_) (fun v cs1 hx => ?_)
            · exact absurd hx.1 (by simp)
            · obtain ⟨e1, rfl⟩ := hx
              cases e1
              refine ⟨rfl, ?_⟩
              refine y_st (st2 := [.int 1]) rfl ?_
              refine y_cs (cs2 := [((ad 52), .inr (12, [.int 2, .ref (ad 53), .int (nI ((t.1 52).2.2 0)), .ref (ad 54), .ref (ad 55), .ref (ad 56), .ref (ad 57), .ref (ad 58), .ref (ad 59), .ref (ad 60), .ref (ad 61), .int ((t.1 52).1 0), .int ((t.1 52).1 1), .int ((t.1 52).1 2), .int ((t.1 52).1 3), .int ((t.1 52).1 4), .int ((t.1 52).1 5), .ref (ad 62), .ref (ad 63), .ref (ad 64), .int ((t.1 52).1 6), .int ((t.1 52).1 7), .int ((t.1 52).1 8), .int ((t.1 52).1 9), .int ((t.1 52).1 10), .ref (ad 65), .ref (ad 66), .ref (ad 67), .ref (ad 68), .long ((t.1 52).2.1 0), .long ((t.1 52).2.1 1)])), ((u.2.2 5 k), .inl (0, 6, .inl ((t.2 5 k).2.1)))]) rfl ?_
              refine y_if_eq (tgt := 49) d_Mm_deliver_44 (by decide) (fun c_44 => ?_) (fun c_44 => ?_)
              · exact absurd c_44 (by decide)
              · refine y_iconst d_Mm_deliver_47 (v := 0) (by decide) ?_
                refine y_iret d_Mm_deliver_48 rfl rfl ?_
                exact fun w1 h1 => ⟨rfl, (hI.gen (t2 := t) (is := [52]) (L2 := [(u.2.2 5 k)]) h1 rfl ⟨kd_52.mpr ⟨_, rfl⟩, trivial⟩ (by decide) (by decide) (List.forall_mem_cons.mpr ⟨nf_c, (fun _ h => nomatch h)⟩) (List.forall_mem_cons.mpr ⟨⟨_, hw_c, h1.at (q0 := 1) rfl⟩, (fun _ h => nomatch h)⟩) (fun _ _ _ => rfl) (fun h => h) rfl)⟩
end
section
theorem IW.gen0 {g : zG} {ad : Nat → Nat} {t t2 : zTT} {u : zNN} {w w1 : zW} (h : IW g ad t u w) {is L2 : List Nat} {cs1 : zC} {m : Nat} (h1 : z_I w w1 m cs1) (ha : (cs1.map Prod.fst).take m = is.map ad ++ L2) (hk : KDs ad t2 is cs1) (hb : ∀ i ∈ is, i < 71) (hl : ∀ i ∈ is, i ∉ z_lx) (hn : ∀ q ∈ L2, z_nf ad q) (hs : ∀ i, i < 71 → i ∉ is → t2.1 i = t.1 i) (ht : tOK t → tOK t2) (hE : ∀ L, L < 7 → ∀ k, k < u.1 L → EL ad L w1 (u.2.2 L k) (t2.2 L k)) (hB : ∀ (q N : Nat) (f : Nat → Option Nat), z_nf ad q → w q = some (.inl (5, N, .inr (.inr (.inr (.inr f))))) → w1 q = some (.inl (5, N, .inr (.inr (.inr (.inr f)))))) : IW g ad t2 u w1 := by
  have hke := h1.ke ha
  refine ⟨h.1.st2 h1 ha hk hb hn hs, ⟨fun L hL => ?_, hE, h.2.1.2.2⟩, ht h.2.2⟩
  have hx : z_lx.getD L 0 < 71 ∧ z_lx.getD L 0 ∈ z_lx := (show ∀ L, L < 7 → z_lx.getD L 0 < 71 ∧ z_lx.getD L 0 ∈ z_lx by decide) L hL
  obtain ⟨md, dd, e1, e2⟩ := h.2.1.1 L hL
  have e1' : w1 (ad (z_lx.getD L 0)) = some (.inr (13, [.int md, .ref dd, .int (nI (u.1 L))])) := hke _ _ (fun h9 => by
    rcases List.mem_append.mp h9 with h9 | h9
    · obtain ⟨j, hj, e9⟩ := List.mem_map.mp h9
      have := h.1.1 j _ (hb j hj) hx.1 e9
      exact hl j hj (this ▸ hx.2)
    · exact hn _ h9 _ hx.1 rfl) e1
  refine ⟨md, dd, e1', ?_⟩
  rcases e2 with e2 | ⟨e2, N, f, e3, e4, e5, e6⟩
  · exact Or.inl e2
  · exact Or.inr ⟨e2, N, f, e3, e4, hB dd N f (h.1.n5 e5) e5, e6⟩
theorem IW.gen {g : zG} {ad : Nat → Nat} {t t2 : zTT} {u : zNN} {w w1 : zW} (h : IW g ad t u w) {is L2 : List Nat} {cs1 : zC} {m : Nat} (h1 : z_I w w1 m cs1) (ha : (cs1.map Prod.fst).take m = is.map ad ++ L2) (hk : KDs ad t2 is cs1) (hb : ∀ i ∈ is, i < 71) (hl : ∀ i ∈ is, i ∉ z_lx) (hn : ∀ q ∈ L2, z_nf ad q) (he : ∀ q ∈ L2, ∃ e, w q = some e ∧ w1 q = some e) (hs : ∀ i, i < 71 → i ∉ is → t2.1 i = t.1 i) (ht : tOK t → tOK t2) (ht2 : t2.2 = t.2) : IW g ad t2 u w1 := by
  have hke := h1.ke ha
  have hsim : ∀ q e, z_nf ad q → w q = some e → w1 q = some e := fun q e hq hw => by
    by_cases hm : q ∈ L2
    · obtain ⟨e1, a1, a2⟩ := he q hm
      rw [hw] at a1
      cases a1
      exact a2
    · refine hke q e (fun h9 => ?_) hw
      rcases List.mem_append.mp h9 with h9 | h9
      · obtain ⟨j, hj, e9⟩ := List.mem_map.mp h9
        exact hq j (hb j hj) e9
      · exact hm h9
  exact h.gen0 h1 ha hk hb hl hn hs ht (fun L hL k hk9 => by rw [ht2]; exact (h.2.1.2.1 L hL k hk9).ke3 (fun q e h0 h2 _ => hsim q e h0 h2)) (fun q N f h0 h2 => hsim q _ h0 h2)
theorem IVf.nfr {ad : Nat → Nat} {t : zTT} {w : zW} (h : IVf ad t w) {q : Nat} (hq : w q = none) : z_nf ad q := fun i hi e => by
  obtain ⟨e0, he, -⟩ := h.2 i hi
  rw [e, hq] at he
  cases he
theorem IW.nel {g : zG} {ad : Nat → Nat} {t : zTT} {u : zNN} {w : zW} (h : IW g ad t u w) {q : Nat} (hq : w q = none) : ∀ L, L < 7 → ∀ k, k < u.1 L → ¬ u.2.2 L k = q := fun L hL k hk e => by
  obtain ⟨e0, he, -⟩ := (h.2.1.2.1 L hL k hk).tag
  rw [e, hq] at he
  cases he
theorem IW.rem {g : zG} {ad : Nat → Nat} {t : zTT} {u : zNN} {w w1 : zW} (h : IW g ad t u w) {L m i : Nat} (hL : L < 7) (hn : u.1 L = m + 1) (hi : i ≤ m) (e2 : z_L g w1 (ad (z_lx.getD L 0)) m (u.2.1 L) (z_del (u.2.2 L) i)) (e3 : z_ke (fun q => q = ad (z_lx.getD L 0) ∨ u.2.1 L = some q) w w1) : IW g ad (tls t L (z_dlV (t.2 L) i)) (u_set u L m (u.2.1 L) (z_del (u.2.2 L) i)) w1 := by
  refine h.list hL e2 (fun q hq => Or.inl hq) e3 (fun k hk => ?_) (fun j k hj hk e => ?_)
  · unfold z_del z_dlV
    by_cases q : k < i
    · rw [if_pos q, if_pos q]; exact h.2.1.2.1 L hL k (by omega)
    · rw [if_neg q, if_neg q]; exact h.2.1.2.1 L hL (k + 1) (by omega)
  · unfold z_del at e
    have hin := h.2.1.2.2.2 L hL
    by_cases qj : j < i
    · rw [if_pos qj] at e
      by_cases qk : k < i
      · rw [if_pos qk] at e; exact hin j k (by omega) (by omega) e
      · rw [if_neg qk] at e; have := hin j (k + 1) (by omega) (by omega) e; omega
    · rw [if_neg qj] at e
      by_cases qk : k < i
      · rw [if_pos qk] at e; have := hin (j + 1) k (by omega) (by omega) e; omega
      · rw [if_neg qk] at e; have := hin (j + 1) (k + 1) (by omega) (by omega) e; omega
theorem IW.app {g : zG} {ad : Nat → Nat} {t : zTT} {u : zNN} {w w1 : zW} (h : IW g ad t u w) {L v : Nat} {vv : zV} {bk2 : Option Nat} (hL : L < 7) (hv : EL ad L w v vv) (hfr : ∀ k, k < u.1 L → ¬ u.2.2 L k = v) (e2 : z_L g w1 (ad (z_lx.getD L 0)) (u.1 L + 1) bk2 (z_app (u.2.2 L) (u.1 L) v)) (hb : ∀ q, bk2 = some q → u.2.1 L = some q ∨ w q = none) (e3 : z_ke (fun q => q = ad (z_lx.getD L 0) ∨ u.2.1 L = some q) w w1) : IW g ad (tls t L (z_apV (t.2 L) (u.1 L) vv)) (u_set u L (u.1 L + 1) bk2 (z_app (u.2.2 L) (u.1 L) v)) w1 := by
  refine h.list hL e2 hb e3 (fun k hk => ?_) (fun j k hj hk e => ?_)
  · unfold z_app z_apV
    by_cases q : k = u.1 L
    · rw [if_pos q, if_pos q]; exact hv
    · rw [if_neg q, if_neg q]; exact h.2.1.2.1 L hL k (by omega)
  · unfold z_app at e
    by_cases qj : j = u.1 L
    · rw [if_pos qj] at e
      by_cases qk : k = u.1 L
      · omega
      · rw [if_neg qk] at e; exact absurd e.symm (hfr k (by omega))
    · rw [if_neg qj] at e
      by_cases qk : k = u.1 L
      · rw [if_pos qk] at e; exact absurd e (hfr j (by omega))
      · rw [if_neg qk] at e; exact h.2.1.2.2.2 L hL j k (by omega) (by omega) e
section
variable {g : zG} {M : zM} {Ψ : zO → zW → Prop} {w0 : zW} {n pc : Nat} {lv lv' : List (Nat × Value)} {st : List Value} {cs cs' : zC} {kc ks : Nat}
theorem y_fdiv {x y : UInt32} (hd : decode M.2.1 pc = .ok (.fdiv, 1)) (hne : vf_n32 (FP.fdiv x y)) (k : DU g M Ψ w0 n (pc + 1) lv (.float (FP.fdiv x y) :: st) cs kc ks) : DU g M Ψ w0 n pc lv (.float y :: .float x :: st) cs kc ks := fun w p l e R s m args below meth c A mc ms H locs cells slots ls ws I C T => lv_fdiv C.1.1 C.1.2.1 hd hne (k w p l e R s m args below meth c A mc ms H locs cells slots ls ws I C T)
theorem y_ddiv {x y : UInt64} (hd : decode M.2.1 pc = .ok (.ddiv, 1)) (hne : vf_n64 (FP.ddiv x y)) (k : DU g M Ψ w0 n (pc + 1) lv (.double (FP.ddiv x y) :: st) cs kc ks) : DU g M Ψ w0 n pc lv (.double y :: .double x :: st) cs kc ks := fun w p l e R s m args below meth c A mc ms H locs cells slots ls ws I C T => lv_ddiv C.1.1 C.1.2.1 hd hne (k w p l e R s m args below meth c A mc ms H locs cells slots ls ws I C T)
theorem y_f2d {x : UInt32} (hd : decode M.2.1 pc = .ok (.f2d, 1)) (hne : vf_n64 (FP.f2d x)) (k : DU g M Ψ w0 n (pc + 1) lv (.double (FP.f2d x) :: st) cs kc ks) : DU g M Ψ w0 n pc lv (.float x :: st) cs kc ks := fun w p l e R s m args below meth c A mc ms H locs cells slots ls ws I C T => lv_f2d C.1.1 C.1.2.1 hd hne (k w p l e R s m args below meth c A mc ms H locs cells slots ls ws I C T)
end
end
section
theorem IVf.B {ad : Nat → Nat} {t : zTT} {w : zW} (h : IVf ad t w) (is : List Nat) (csF csE : zC) (ha : csF.map Prod.fst = is.map ad) (hn : is.Nodup) (hb : ∀ i ∈ is, i < 71) (hw : ∀ p ∈ csF, w p.1 = some p.2) (hwE : ∀ p ∈ csE, w p.1 = some p.2) (hf : ∀ p ∈ csE, z_nf ad p.1) (hk : (csE.map (fun p => z_kd p.2)).Nodup) : z_I w w (csF ++ csE).length (csF ++ csE) := by
  have h1 := h.I is csF ha hn hb hw
  have h2 := z_I.kd hwE hk
  refine z_I.mk (fun p hp => (List.mem_append.mp hp).elim (hw p) (hwE p)) ?_
  rw [List.map_append, List.nodup_append]
  refine ⟨h1.2.2.1, h2.2.2.1, fun x hx y hy e => ?_⟩
  obtain ⟨p, hp, rfl⟩ := List.mem_map.mp hy
  rw [ha] at hx
  obtain ⟨j, hj, e2⟩ := List.mem_map.mp hx
  exact hf p hp j (hb j hj) (e2.trans e)
theorem IW.kp {g : zG} {ad : Nat → Nat} {t : zTT} {u : zNN} {w w1 : zW} (h : IW g ad t u w) {L q : Nat} {e : zE} (hL : L < 7) (hq : z_nf ad q) (hw : w q = some e) (hk : (z_kd e).1 = 1 ∨ (z_kd e).2.1 < 5) (hke : z_ke (fun q => q = ad (z_lx.getD L 0) ∨ u.2.1 L = some q) w w1) : w1 q = some e :=
  hke q e (fun h9 => by
    rcases h9 with h9 | h9
    · exact hq _ ((show ∀ L, L < 7 → z_lx.getD L 0 < 71 by decide) L hL) h9.symm
    · obtain ⟨N, f, e5⟩ := (h.2.1.1 L hL).bk h9
      rw [hw] at e5
      cases e5
      rcases hk with c | c
      · cases c
      · exact absurd c (by show ¬ (5 : Nat) < 5; decide)) hw
theorem z_narc {v : Int32} (h : z_kind v) : vp_nar .char v = v := by
  rcases h with rfl | rfl | rfl | rfl | rfl | rfl <;> decide
theorem fill_ch {f g : Nat → Int32} (h : z_ch f) : z_ch (fa_fill f g 108) := fun k hk => by
  rw [fa_fill_in hk]
  exact h k hk
theorem cnt_cg {p q : Nat → Bool} : ∀ n, (∀ k, k < n → p k = q k) → fa_cnt p n = fa_cnt q n
  | 0, _ => rfl
  | n + 1, h => by rw [fa_cnt, fa_cnt, cnt_cg n (fun k hk => h k (by omega)), h n (by omega)]
theorem fill_gt {f g : Nat → Int32} : fa_cnt (fun k => decide (fa_fill f g 108 k = 103)) 12 = fa_cnt (fun k => decide (f k = 103)) 12 := cnt_cg 12 (fun k hk => by rw [fa_fill_in (by omega)])
theorem SZ.s34 {u : zNN} {m m2 : Nat} {bk bk2 : Option Nat} {el el2 : Nat → Nat} (h : SZ u) (hm : m ≤ 10) (he : m2 = m) : SZ (u_set (u_set u 3 m bk el) 4 m2 bk2 el2) := by
  obtain ⟨h0, h1, h2, h3, h4, h5, h6⟩ := h
  exact ⟨h0, h1, h2, hm, he, h5, h6⟩
theorem SZ.s56 {u : zNN} {m m2 : Nat} {bk bk2 : Option Nat} {el el2 : Nat → Nat} (h : SZ u) (hm : m ≤ 30) (he : m2 = m) : SZ (u_set (u_set u 5 m bk el) 6 m2 bk2 el2) := by
  obtain ⟨h0, h1, h2, h3, h4, h5, h6⟩ := h
  exact ⟨h0, h1, h2, h3, h4, hm, he⟩
theorem EL.elt3 {ad : Nat → Nat} {w : zW} {a : Nat} {v : zV} (h : EL ad 3 w a v) : z_elt w a := ⟨_, h.2.1, ⟨show (1 : Nat) < 5 by decide, cst_1⟩, fun q => by cases q⟩
theorem EL.elt4 {ad : Nat → Nat} {w : zW} {a : Nat} {v : zV} (h : EL ad 4 w a v) : z_elt w a := ⟨_, h.2.1, ⟨show (0 : Nat) < 5 by decide, cst_0⟩, fun q => by cases q⟩
theorem EL.elt5 {ad : Nat → Nat} {w : zW} {a : Nat} {v : zV} (h : EL ad 5 w a v) : z_elt w a := ⟨_, h.2.1, ⟨show (0 : Nat) < 5 by decide, cst_0⟩, fun q => by cases q⟩
theorem EL.elt6 {ad : Nat → Nat} {w : zW} {a : Nat} {v : zV} (h : EL ad 6 w a v) : z_elt w a := ⟨_, h.2, ⟨show (3 : Nat) < 5 by decide, cst_3⟩, fun q => by cases q⟩
end
section
theorem cst_Mo : Cond.castable R_Mo "java/lang/Object" ∈ z_nw := z_mk9 (i := 101) rfl (by decide +kernel)
theorem cst_Ca : Cond.castable R_Ca "java/lang/Object" ∈ z_nw := z_mk9 (i := 102) rfl (by decide +kernel)
theorem EL.eltc0 {ad : Nat → Nat} {w : zW} {a : Nat} {v : zV} (h : EL ad 0 w a v) : z_elt w a := by
  obtain ⟨c, h1, -⟩ := h.2
  exact ⟨_, h1, ⟨_, rfl, cst_Mo⟩, fun q => by cases q⟩
theorem EL.eltc1 {ad : Nat → Nat} {w : zW} {a : Nat} {v : zV} (h : EL ad 1 w a v) : z_elt w a := by
  obtain ⟨me, gr, h1, -⟩ := h.2
  exact ⟨_, h1, ⟨_, rfl, cst_Ca⟩, fun q => by cases q⟩
theorem SZ.s0 {u : zNN} {m : Nat} {bk : Option Nat} {el : Nat → Nat} (h : SZ u) (hm : m ≤ 10) : SZ (u_set u 0 m bk el) := by
  obtain ⟨h0, h1, h2, h3, h4, h5, h6⟩ := h
  exact ⟨hm, h1, h2, h3, h4, h5, h6⟩
theorem SZ.s1 {u : zNN} {m : Nat} {bk : Option Nat} {el : Nat → Nat} (h : SZ u) (hm : m ≤ 30) : SZ (u_set u 1 m bk el) := by
  obtain ⟨h0, h1, h2, h3, h4, h5, h6⟩ := h
  exact ⟨h0, hm, h2, h3, h4, h5, h6⟩
theorem z_nat {y : Int32} (h : 0 ≤ y) : ∃ m : Nat, m < 2 ^ 31 ∧ y = nI m := by
  obtain ⟨a, ha, e⟩ := z_in20 (x := y) (b := 2147483647) (by decide) ⟨h, Int32.le_iff_toInt_le.mpr (by
    have h1 := y.toInt_lt
    have h2 : (nI 2147483647).toInt = 2147483647 := by decide
    rw [h2]
    omega)⟩
  exact ⟨a, by omega, e⟩
theorem mn_sub {y : Int32} {n : Nat} (hy : 0 ≤ y) (hn : n ≤ 108) : 0 ≤ y - (if y < 2 * (nI n) then y else 2 * (nI n)) := by
  obtain ⟨m, hm, rfl⟩ := z_nat hy
  rw [show 2 * nI n = nI (2 * n) from pk_mul _ _]
  split
  · rw [Int32.sub_self]; decide
  · rename_i h
    have h2 := z_nlt (a := m) (b := 2 * n) (by omega) (by omega) h
    rw [nI_sub h2]
    exact Int32.not_lt.mp (nI_nneg (by omega))
theorem IW.elk {g : zG} {ad : Nat → Nat} {t : zTT} {u : zNN} {w w1 : zW} (h : IW g ad t u w) {L M a : Nat} (hL : L < 7) (hke : z_ke (fun q => q = ad (z_lx.getD L 0) ∨ u.2.1 L = some q) w w1) {v : zV} (hE : EL ad M w a v) : EL ad M w1 a v := hE.ke2 (fun q e hq hw hkk => h.kp hL hq hw hkk hke)
end
