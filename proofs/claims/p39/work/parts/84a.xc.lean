def TH (ad : Nat → Nat) (c : Int32) (w : zW) : Prop := ∃ fs : List Value, w (ad 52) = some (.inr (12, .int c :: fs))
def IVo (g : zG) (ad : Nat → Nat) (v : Int64) (t : zTT) (u : zNN) (w : zW) : Prop := ∃ s, (s 69).2.1 0 = v ∧ IV g ad (mg t s) u w
theorem IVo.of {g : zG} {ad : Nat → Nat} {v : Int64} {t T : zTT} {u : zNN} {w : zW} (h : IV g ad T u w) (h1 : ∀ i, ¬ tx i → T.1 i = t.1 i) (h2 : T.2 = t.2) (h3 : (T.1 69).2.1 0 = v) : IVo g ad v t u w := ⟨T.1, h3, by rw [mg_self t T h1 h2]; exact h⟩
theorem IVo.m {g : zG} {ad : Nat → Nat} {v : Int64} {t : zTT} {u : zNN} {w : zW} (h : IVo g ad v t u w) : IVm g ad t u w := by
  obtain ⟨s, -, h⟩ := h
  exact ⟨s, h⟩
theorem IVo.nil {g : zG} {ad : Nat → Nat} {v : Int64} {t : zTT} {u : zNN} {w w1 : zW} (h1 : z_I w w1 0 []) (hI : IVo g ad v t u w) : IVo g ad v t u w1 := (z_I.same (z_I.nil w) h1).symm ▸ hI
theorem IVo.zu {g : zG} {ad : Nat → Nat} {v : Int64} {t : zTT} {s : Nat → zP2} {V : Nat → Nat → zV} {l : List (Nat × zP2)} {u : zNN} {w : zW} (h : IV g ad (zup (mg t s).1 l, V) u w) (h3 : (zup (mg t s).1 l 69).2.1 0 = v) : IVo g ad v (zup t.1 l, V) u w := IVo.of h (fun i hi => zup_cg (P := fun i => ¬ tx i) (fun i hi => if_neg hi) l i hi) rfl h3
theorem IVo.tz {g : zG} {ad : Nat → Nat} {v : Int64} {t : zTT} {s : Nat → zP2} {l : List (Nat × zP2)} {u : zNN} {w : zW} (h : IV g ad (zup (mg t s).1 l, (mg t s).2) u w) (hl : ∀ i ∈ l.map Prod.fst, tx i) (h3 : (zup (mg t s).1 l 69).2.1 0 = v) : IVo g ad v t u w := IVo.of h (fun i hi => (zup_out (fun q => hi (hl i q))).trans (if_neg hi)) rfl h3
def zxA (Es : List String) (p : Int32 × Int32) (o : zO) : Prop := (p.1 = 0 ∧ o = .inl (some (.int p.2))) ∨ ∃ (k : Nat) (E : String), Es[k]? = some E ∧ p.1 = nI (k + 1) ∧ o = .inr E
theorem zxA.V {Es : List String} {p : Int32 × Int32} {v : Option Value} (h : zxA Es p (.inl v)) : ∃ x : Int32, v = some (.int x) ∧ p.1 = 0 ∧ p.2 = x := by
  rcases h with ⟨h1, h2⟩ | ⟨k, E, -, -, h2⟩
  · cases h2; exact ⟨_, rfl, h1, rfl⟩
  · cases h2
theorem zxA.X {Es : List String} {p : Int32 × Int32} {E : String} (h : zxA Es p (.inr E)) : ∃ k : Nat, Es[k]? = some E ∧ p.1 = nI (k + 1) := by
  rcases h with ⟨h1, h2⟩ | ⟨k, E2, h3, h4, h2⟩
  · cases h2
  · cases h2; exact ⟨k, h3, h4⟩
set_option maxHeartbeats 4000000 in
set_option maxRecDepth 100000 in
theorem Qe_Ip_alloyE {g : zG} {ad : Nat → Nat} {t : zTT} {u : zNN} {w : zW} (hI : IV g ad t u w) (x : Int32) (hx : ¬ ∃ k, k < u.1 1 ∧ x = nI k) : zMB g M_Ip_alloy [.ref (ad 0), .int x] w (fun o w1 => o = .inr "java/lang/IndexOutOfBoundsException" ∧ IV g ad t u w1) 1 6 := by
  obtain ⟨e_a, wf_a, k_a⟩ := hI.1.2 0 (by decide)
  obtain rfl := kd_0.mp k_a
  refine y_of (by decide) rfl (Nat.le_of_ble_eq_true rfl) (y_base (cs := [((ad 0), .inr (11, [.ref (ad 1), .ref (ad 5), .ref (ad 18), .ref (ad 31), .ref (ad 32), .ref (ad 36), .ref (ad 42), .ref (ad 45), .ref (ad 47), .ref (ad 49), .ref (ad 50), .ref (ad 51)]))]) (hI.1.I [0] _ rfl (by decide) (by decide) (List.forall_mem_cons.mpr ⟨wf_a, (fun _ h => nomatch h)⟩)) ?_)
  refine y_lvE (lv2 := [(0, .ref (ad 0)), (1, .int x)]) rfl ?_
  refine y_aload_n d_Ip_alloy_0 rfl 0 rfl ?_
  refine y_iload_n d_Ip_alloy_1 rfl 1 rfl ?_
  refine yw_callV (As := [.int x]) (rest := []) (q0 := 0) rfl rfl ln_Ip_436 w_im_Ip_castingAt w_se_Ip_castingAt ok_Ip_alloy_Ip_castingAt d_Ip_alloy_2 (fun wA hA => Q_castingAtE (hI.gen (t2 := t) (is := [0]) (L2 := []) hA rfl ⟨kd_0.mpr rfl, trivial⟩ (by decide) (by decide) (fun _ h => nomatch h) (fun _ h => nomatch h) (fun _ _ _ => rfl) (fun h => h) rfl) x hx) rfl rfl (Nat.le_of_ble_eq_true rfl) (by omega) (by omega) (fun wA2 hA2 E wB2 hx => ?_) (fun wA2 hA2 v wB2 hx => ?_)
  · obtain ⟨e1, e2⟩ := hx
    cases e1
    subst e2
    exact ⟨rfl, (hI.gen (t2 := t) (is := [0]) (L2 := []) hA2 rfl ⟨kd_0.mpr rfl, trivial⟩ (by decide) (by decide) (fun _ h => nomatch h) (fun _ h => nomatch h) (fun _ _ _ => rfl) (fun h => h) rfl)⟩
  · exact absurd hx.1 (by simp)
set_option maxHeartbeats 4000000 in
set_option maxRecDepth 100000 in
theorem Qe_Mm_alloyE {g : zG} {ad : Nat → Nat} {t : zTT} {u : zNN} {w : zW} (hI : IV g ad t u w) (x : Int32) (hx : ¬ ∃ k, k < u.1 5 ∧ x = nI k) : zMB g M_Mm_alloy [.ref (ad 52), .int x] w (fun o w1 => o = .inl (some (.int 0)) ∧ IV g ad t u w1 ∧ TH ad 1 w1) 0 0 := by
  obtain ⟨e_m, wf_m, k_m⟩ := hI.1.2 52 (by decide)
  obtain ⟨v_m_th, rfl⟩ := kd_52.mp k_m
  refine y_of (by decide) rfl (Nat.le_of_ble_eq_true rfl) (y_base (cs := [((ad 52), .inr (12, [.int v_m_th, .ref (ad 53), .int (nI ((t.1 52).2.2 0)), .ref (ad 54), .ref (ad 55), .ref (ad 56), .ref (ad 57), .ref (ad 58), .ref (ad 59), .ref (ad 60), .ref (ad 61), .int ((t.1 52).1 0), .int ((t.1 52).1 1), .int ((t.1 52).1 2), .int ((t.1 52).1 3), .int ((t.1 52).1 4), .int ((t.1 52).1 5), .ref (ad 62), .ref (ad 63), .ref (ad 64), .int ((t.1 52).1 6), .int ((t.1 52).1 7), .int ((t.1 52).1 8), .int ((t.1 52).1 9), .int ((t.1 52).1 10), .ref (ad 65), .ref (ad 66), .ref (ad 67), .ref (ad 68), .long ((t.1 52).2.1 0), .long ((t.1 52).2.1 1)]))]) (hI.1.I [52] _ rfl (by decide) (by decide) (List.forall_mem_cons.mpr ⟨wf_m, (fun _ h => nomatch h)⟩)) ?_)
  refine y_lvE (lv2 := [(0, .ref (ad 52)), (1, .int x)]) rfl ?_
  refine y_aload_n d_Mm_alloy_0 rfl 0 rfl ?_
  refine y_iconst d_Mm_alloy_1 (v := 0) (by decide) ?_
  refine y_put fp_Mm_84 d_Mm_alloy_2 (fun h => nomatch h) rfl rfl (q0 := 0) rfl (Nat.le_of_ble_eq_true rfl) (cs' := [((ad 52), .inr (12, [.int 0, .ref (ad 53), .int (nI ((t.1 52).2.2 0)), .ref (ad 54), .ref (ad 55), .ref (ad 56), .ref (ad 57), .ref (ad 58), .ref (ad 59), .ref (ad 60), .ref (ad 61), .int ((t.1 52).1 0), .int ((t.1 52).1 1), .int ((t.1 52).1 2), .int ((t.1 52).1 3), .int ((t.1 52).1 4), .int ((t.1 52).1 5), .ref (ad 62), .ref (ad 63), .ref (ad 64), .int ((t.1 52).1 6), .int ((t.1 52).1 7), .int ((t.1 52).1 8), .int ((t.1 52).1 9), .int ((t.1 52).1 10), .ref (ad 65), .ref (ad 66), .ref (ad 67), .ref (ad 68), .long ((t.1 52).2.1 0), .long ((t.1 52).2.1 1)]))]) rfl ?_
  refine y_aload_n d_Mm_alloy_5 rfl 0 rfl ?_
  refine y_aload_n d_Mm_alloy_6 rfl 0 rfl ?_
  refine y_iload_n d_Mm_alloy_7 rfl 1 rfl ?_
  refine yw_callV (As := [.int x]) (rest := [.ref (ad 52)]) (q0 := 0) rfl rfl ln_Mm_301 w_im_Mm_noCasting w_se_Mm_noCasting ok_Mm_alloy_Mm_noCasting d_Mm_alloy_8 (fun wA hA => Q_noCasting1 (hI.gen (t2 := t) (is := [52]) (L2 := []) hA rfl ⟨kd_52.mpr ⟨_, rfl⟩, trivial⟩ (by decide) (by decide) (fun _ h => nomatch h) (fun _ h => nomatch h) (fun _ _ _ => rfl) (fun h => h) rfl) x hx) rfl rfl (Nat.le_of_ble_eq_true rfl) (by omega) (by omega) (fun wA8 hA8 E wB8 hx => ?_) (fun wA8 hA8 v wB8 hx => ?_)
  · exact absurd hx.1 (by simp)
  · obtain ⟨e1, e2⟩ := hx
    cases e1
    refine yw_st (st2 := [.int 1, .ref (ad 52)]) rfl ?_
    subst e2
    refine y_go hA8 ?_
    refine y_iconst d_Mm_alloy_11 (v := 1) (by decide) ?_
    refine y_callV (As := [.int 1, .int 1]) (rest := []) (csC := [((ad 52), .inr (12, [.int 0, .ref (ad 53), .int (nI ((t.1 52).2.2 0)), .ref (ad 54), .ref (ad 55), .ref (ad 56), .ref (ad 57), .ref (ad 58), .ref (ad 59), .ref (ad 60), .ref (ad 61), .int ((t.1 52).1 0), .int ((t.1 52).1 1), .int ((t.1 52).1 2), .int ((t.1 52).1 3), .int ((t.1 52).1 4), .int ((t.1 52).1 5), .ref (ad 62), .ref (ad 63), .ref (ad 64), .int ((t.1 52).1 6), .int ((t.1 52).1 7), .int ((t.1 52).1 8), .int ((t.1 52).1 9), .int ((t.1 52).1 10), .ref (ad 65), .ref (ad 66), .ref (ad 67), .ref (ad 68), .long ((t.1 52).2.1 0), .long ((t.1 52).2.1 1)]))]) (is := [0]) (q0 := 0) rfl rfl ln_Mm_103 w_im_Mm_fails w_se_Mm_fails ok_Mm_alloy_Mm_fails d_Mm_alloy_12 (C_Mm_fails1 g (ad 52) (ad 53) (ad 54) (ad 55) (ad 56) (ad 57) (ad 58) (ad 59) (ad 60) (ad 61) (ad 62) (ad 63) (ad 64) (ad 65) (ad 66) (ad 67) (ad 68) 0 (nI ((t.1 52).2.2 0)) ((t.1 52).1 0) ((t.1 52).1 1) ((t.1 52).1 2) ((t.1 52).1 3) ((t.1 52).1 4) ((t.1 52).1 5) ((t.1 52).1 6) ((t.1 52).1 7) ((t.1 52).1 8) ((t.1 52).1 9) ((t.1 52).1 10) ((t.1 52).2.1 0) ((t.1 52).2.1 1)) rfl rfl (Nat.le_of_ble_eq_true rfl) rfl (by decide) (by omega) (by omega) (fun E cs1 hx => ?_) (fun v cs1 hx => ?_)
    · exact absurd hx.1 (by simp)
    · obtain ⟨e1, rfl⟩ := hx
      cases e1
      refine ⟨rfl, ?_⟩
      refine y_st (st2 := [.int 1]) rfl ?_
      refine y_cs (cs2 := [((ad 52), .inr (12, [.int 1, .ref (ad 53), .int (nI ((t.1 52).2.2 0)), .ref (ad 54), .ref (ad 55), .ref (ad 56), .ref (ad 57), .ref (ad 58), .ref (ad 59), .ref (ad 60), .ref (ad 61), .int ((t.1 52).1 0), .int ((t.1 52).1 1), .int ((t.1 52).1 2), .int ((t.1 52).1 3), .int ((t.1 52).1 4), .int ((t.1 52).1 5), .ref (ad 62), .ref (ad 63), .ref (ad 64), .int ((t.1 52).1 6), .int ((t.1 52).1 7), .int ((t.1 52).1 8), .int ((t.1 52).1 9), .int ((t.1 52).1 10), .ref (ad 65), .ref (ad 66), .ref (ad 67), .ref (ad 68), .long ((t.1 52).2.1 0), .long ((t.1 52).2.1 1)]))]) rfl ?_
      refine y_if_eq (tgt := 22) d_Mm_alloy_15 (by decide) (fun c_15 => ?_) (fun c_15 => ?_)
      · exact absurd c_15 (by decide)
      · refine y_iconst d_Mm_alloy_18 (v := 0) (by decide) ?_
        refine y_goto (tgt := 46) d_Mm_alloy_19 (by decide) ?_
        refine y_iret d_Mm_alloy_46 rfl rfl ?_
        exact fun w1 h1 => ⟨rfl, (hI.gen (t2 := t) (is := [52]) (L2 := []) h1 rfl ⟨kd_52.mpr ⟨_, rfl⟩, trivial⟩ (by decide) (by decide) (fun _ h => nomatch h) (fun _ h => nomatch h) (fun _ _ _ => rfl) (fun h => h) rfl), ⟨_, h1.at (q0 := 0) rfl⟩⟩
set_option maxHeartbeats 4000000 in
set_option maxRecDepth 100000 in
theorem Qe_Ip_alloyN {g : zG} {ad : Nat → Nat} {t : zTT} {u : zNN} {w : zW} (hI : IV g ad t u w) (k : Nat) (hk : k < u.1 1) : zMB g M_Ip_alloy [.ref (ad 0), .int (nI k)] w (fun o w1 => o = .inl (some (.int (if (t.2 1 k).1 0 < 20 then 103 else 100))) ∧ IV g ad t u w1) 1 6 := by
  obtain ⟨e_a, wf_a, k_a⟩ := hI.1.2 0 (by decide)
  obtain rfl := kd_0.mp k_a
  refine y_of (by decide) rfl (Nat.le_of_ble_eq_true rfl) (y_base (cs := [((ad 0), .inr (11, [.ref (ad 1), .ref (ad 5), .ref (ad 18), .ref (ad 31), .ref (ad 32), .ref (ad 36), .ref (ad 42), .ref (ad 45), .ref (ad 47), .ref (ad 49), .ref (ad 50), .ref (ad 51)]))]) (hI.1.I [0] _ rfl (by decide) (by decide) (List.forall_mem_cons.mpr ⟨wf_a, (fun _ h => nomatch h)⟩)) ?_)
  refine y_lvE (lv2 := [(0, .ref (ad 0)), (1, .int (nI k))]) rfl ?_
  refine y_aload_n d_Ip_alloy_0 rfl 0 rfl ?_
  refine y_iload_n d_Ip_alloy_1 rfl 1 rfl ?_
  refine yw_callV (As := [.int (nI k)]) (rest := []) (q0 := 0) rfl rfl ln_Ip_436 w_im_Ip_castingAt w_se_Ip_castingAt ok_Ip_alloy_Ip_castingAt d_Ip_alloy_2 (fun wA hA => Q_castingAtN (hI.gen (t2 := t) (is := [0]) (L2 := []) hA rfl ⟨kd_0.mpr rfl, trivial⟩ (by decide) (by decide) (fun _ h => nomatch h) (fun _ h => nomatch h) (fun _ _ _ => rfl) (fun h => h) rfl) k hk) rfl rfl (Nat.le_of_ble_eq_true rfl) (by omega) (by omega) (fun wA2 hA2 E wB2 hx => ?_) (fun wA2 hA2 v wB2 hx => ?_)
  · exact absurd hx.1 (by simp)
  · obtain ⟨e1, e2⟩ := hx
    cases e1
    refine yw_st (st2 := [.ref (u.2.2 1 k)]) rfl ?_
    subst e2
    refine y_go hA2 ?_
    refine y_end (fun wC1 hC1 => ?_)
    have hI9 := (hI.gen (t2 := t) (is := [0]) (L2 := []) hC1 rfl ⟨kd_0.mpr rfl, trivial⟩ (by decide) (by decide) (fun _ h => nomatch h) (fun _ h => nomatch h) (fun _ _ _ => rfl) (fun h => h) rfl)
    have hI := hI9
    obtain ⟨nf_c, me_c, gr_c, hw_c, nfm_c, hwm_c, nfg_c, hwg_c⟩ := hI.2.1.2.1 1 (by decide) k hk
    refine y_base (cs := [((ad 0), .inr (11, [.ref (ad 1), .ref (ad 5), .ref (ad 18), .ref (ad 31), .ref (ad 32), .ref (ad 36), .ref (ad 42), .ref (ad 45), .ref (ad 47), .ref (ad 49), .ref (ad 50), .ref (ad 51)])), ((u.2.2 1 k), .inr (0, [.ref me_c, .int ((t.2 1 k).1 0), .int ((t.2 1 k).1 1), .int ((t.2 1 k).1 2), .int ((t.2 1 k).1 3), .int ((t.2 1 k).1 4)])), (me_c, .inr (6, [.ref gr_c, .int ((t.2 1 k).1 5)])), (gr_c, .inl (3, 4, .inr (.inl ((t.2 1 k).2.2.1))))]) (z_I.kd (List.forall_mem_cons.mpr ⟨hC1.at (q0 := 0) rfl, (List.forall_mem_cons.mpr ⟨hw_c, (List.forall_mem_cons.mpr ⟨hwm_c, (List.forall_mem_cons.mpr ⟨hwg_c, (fun _ h => nomatch h)⟩)⟩)⟩)⟩) (by simp [z_kd])) ?_
    refine y_callV (As := []) (rest := []) (csC := [((u.2.2 1 k), .inr (0, [.ref me_c, .int ((t.2 1 k).1 0), .int ((t.2 1 k).1 1), .int ((t.2 1 k).1 2), .int ((t.2 1 k).1 3), .int ((t.2 1 k).1 4)])), (me_c, .inr (6, [.ref gr_c, .int ((t.2 1 k).1 5)])), (gr_c, .inl (3, 4, .inr (.inl ((t.2 1 k).2.2.1))))]) (is := [1, 2, 3]) (q0 := 1) rfl rfl ln_Ip_440 w_im_Ca_isDuctile w_se_Ca_isDuctile ok_Ip_alloy_Ca_isDuctile d_Ip_alloy_5 (C_Ca_isDuctile g (u.2.2 1 k) me_c gr_c ((t.2 1 k).2.2.1) ((t.2 1 k).1 5) ((t.2 1 k).1 0) ((t.2 1 k).1 1) ((t.2 1 k).1 2) ((t.2 1 k).1 3) ((t.2 1 k).1 4)) rfl rfl (Nat.le_of_ble_eq_true rfl) rfl (by decide) (by omega) (by omega) (fun E cs1 hx => ?_) (fun v cs1 hx => ?_)
    · exact absurd hx.1 (by simp)
    · obtain ⟨e1, rfl⟩ := hx
      cases e1
      refine ⟨rfl, ?_⟩
      refine y_st (st2 := [.int (if ((t.2 1 k).1 0) < 20 then 0 else 1)]) rfl ?_
      refine y_cs (cs2 := [((ad 0), .inr (11, [.ref (ad 1), .ref (ad 5), .ref (ad 18), .ref (ad 31), .ref (ad 32), .ref (ad 36), .ref (ad 42), .ref (ad 45), .ref (ad 47), .ref (ad 49), .ref (ad 50), .ref (ad 51)])), ((u.2.2 1 k), .inr (0, [.ref me_c, .int ((t.2 1 k).1 0), .int ((t.2 1 k).1 1), .int ((t.2 1 k).1 2), .int ((t.2 1 k).1 3), .int ((t.2 1 k).1 4)])), (me_c, .inr (6, [.ref gr_c, .int ((t.2 1 k).1 5)])), (gr_c, .inl (3, 4, .inr (.inl ((t.2 1 k).2.2.1))))]) rfl ?_
      refine y_if_eq (tgt := 16) d_Ip_alloy_8 (by decide) (fun c_8 => ?_) (fun c_8 => ?_)
      · refine y_bipush d_Ip_alloy_16 (v := 103) (by decide) ?_
        refine y_iret d_Ip_alloy_18 rfl rfl ?_
        exact fun w1 h1 => ⟨(by first | exact congrArg (fun x : Int32 => (.inl (some (.int x)) : zO)) (if_pos (du_0 c_8)).symm | exact congrArg (fun x : Int32 => (.inl (some (.int x)) : zO)) (if_neg (du_1 c_8)).symm), (hI.gen (t2 := t) (is := [0]) (L2 := [(u.2.2 1 k), me_c, gr_c]) h1 rfl ⟨kd_0.mpr rfl, trivial⟩ (by decide) (by decide) (List.forall_mem_cons.mpr ⟨nf_c, (List.forall_mem_cons.mpr ⟨nfm_c, (List.forall_mem_cons.mpr ⟨nfg_c, (fun _ h => nomatch h)⟩)⟩)⟩) (List.forall_mem_cons.mpr ⟨⟨_, hw_c, h1.at (q0 := 1) rfl⟩, (List.forall_mem_cons.mpr ⟨⟨_, hwm_c, h1.at (q0 := 2) rfl⟩, (List.forall_mem_cons.mpr ⟨⟨_, hwg_c, h1.at (q0 := 3) rfl⟩, (fun _ h => nomatch h)⟩)⟩)⟩) (fun _ _ _ => rfl) (fun h => h) rfl)⟩
      · refine y_bipush d_Ip_alloy_11 (v := 100) (by decide) ?_
        refine y_goto (tgt := 18) d_Ip_alloy_13 (by decide) ?_
        refine y_iret d_Ip_alloy_18 rfl rfl ?_
        exact fun w1 h1 => ⟨(by first | exact congrArg (fun x : Int32 => (.inl (some (.int x)) : zO)) (if_pos (du_0 c_8)).symm | exact congrArg (fun x : Int32 => (.inl (some (.int x)) : zO)) (if_neg (du_1 c_8)).symm), (hI.gen (t2 := t) (is := [0]) (L2 := [(u.2.2 1 k), me_c, gr_c]) h1 rfl ⟨kd_0.mpr rfl, trivial⟩ (by decide) (by decide) (List.forall_mem_cons.mpr ⟨nf_c, (List.forall_mem_cons.mpr ⟨nfm_c, (List.forall_mem_cons.mpr ⟨nfg_c, (fun _ h => nomatch h)⟩)⟩)⟩) (List.forall_mem_cons.mpr ⟨⟨_, hw_c, h1.at (q0 := 1) rfl⟩, (List.forall_mem_cons.mpr ⟨⟨_, hwm_c, h1.at (q0 := 2) rfl⟩, (List.forall_mem_cons.mpr ⟨⟨_, hwg_c, h1.at (q0 := 3) rfl⟩, (fun _ h => nomatch h)⟩)⟩)⟩) (fun _ _ _ => rfl) (fun h => h) rfl)⟩
set_option maxHeartbeats 4000000 in
set_option maxRecDepth 100000 in
theorem Qe_Mm_alloyN {g : zG} {ad : Nat → Nat} {t : zTT} {u : zNN} {w : zW} (hI : IV g ad t u w) (k : Nat) (hk : k < u.1 5) : zMB g M_Mm_alloy [.ref (ad 52), .int (nI k)] w (fun o w1 => o = .inl (some (.int (if (t.2 5 k).2.1 4 = 1 then 100 else 103))) ∧ IV g ad t u w1 ∧ TH ad 0 w1) 0 0 := by
  obtain ⟨e_m, wf_m, k_m⟩ := hI.1.2 52 (by decide)
  obtain ⟨v_m_th, rfl⟩ := kd_52.mp k_m
  refine y_of (by decide) rfl (Nat.le_of_ble_eq_true rfl) (y_base (cs := [((ad 52), .inr (12, [.int v_m_th, .ref (ad 53), .int (nI ((t.1 52).2.2 0)), .ref (ad 54), .ref (ad 55), .ref (ad 56), .ref (ad 57), .ref (ad 58), .ref (ad 59), .ref (ad 60), .ref (ad 61), .int ((t.1 52).1 0), .int ((t.1 52).1 1), .int ((t.1 52).1 2), .int ((t.1 52).1 3), .int ((t.1 52).1 4), .int ((t.1 52).1 5), .ref (ad 62), .ref (ad 63), .ref (ad 64), .int ((t.1 52).1 6), .int ((t.1 52).1 7), .int ((t.1 52).1 8), .int ((t.1 52).1 9), .int ((t.1 52).1 10), .ref (ad 65), .ref (ad 66), .ref (ad 67), .ref (ad 68), .long ((t.1 52).2.1 0), .long ((t.1 52).2.1 1)]))]) (hI.1.I [52] _ rfl (by decide) (by decide) (List.forall_mem_cons.mpr ⟨wf_m, (fun _ h => nomatch h)⟩)) ?_)
  refine y_lvE (lv2 := [(0, .ref (ad 52)), (1, .int (nI k))]) rfl ?_
  refine y_aload_n d_Mm_alloy_0 rfl 0 rfl ?_
  refine y_iconst d_Mm_alloy_1 (v := 0) (by decide) ?_
  refine y_put fp_Mm_84 d_Mm_alloy_2 (fun h => nomatch h) rfl rfl (q0 := 0) rfl (Nat.le_of_ble_eq_true rfl) (cs' := [((ad 52), .inr (12, [.int 0, .ref (ad 53), .int (nI ((t.1 52).2.2 0)), .ref (ad 54), .ref (ad 55), .ref (ad 56), .ref (ad 57), .ref (ad 58), .ref (ad 59), .ref (ad 60), .ref (ad 61), .int ((t.1 52).1 0), .int ((t.1 52).1 1), .int ((t.1 52).1 2), .int ((t.1 52).1 3), .int ((t.1 52).1 4), .int ((t.1 52).1 5), .ref (ad 62), .ref (ad 63), .ref (ad 64), .int ((t.1 52).1 6), .int ((t.1 52).1 7), .int ((t.1 52).1 8), .int ((t.1 52).1 9), .int ((t.1 52).1 10), .ref (ad 65), .ref (ad 66), .ref (ad 67), .ref (ad 68), .long ((t.1 52).2.1 0), .long ((t.1 52).2.1 1)]))]) rfl ?_
  refine y_aload_n d_Mm_alloy_5 rfl 0 rfl ?_
  refine y_aload_n d_Mm_alloy_6 rfl 0 rfl ?_
  refine y_iload_n d_Mm_alloy_7 rfl 1 rfl ?_
  refine yw_callV (As := [.int (nI k)]) (rest := [.ref (ad 52)]) (q0 := 0) rfl rfl ln_Mm_301 w_im_Mm_noCasting w_se_Mm_noCasting ok_Mm_alloy_Mm_noCasting d_Mm_alloy_8 (fun wA hA => Q_noCasting0 (hI.gen (t2 := t) (is := [52]) (L2 := []) hA rfl ⟨kd_52.mpr ⟨_, rfl⟩, trivial⟩ (by decide) (by decide) (fun _ h => nomatch h) (fun _ h => nomatch h) (fun _ _ _ => rfl) (fun h => h) rfl) (nI k) ⟨k, hk, rfl⟩) rfl rfl (Nat.le_of_ble_eq_true rfl) (by omega) (by omega) (fun wA8 hA8 E wB8 hx => ?_) (fun wA8 hA8 v wB8 hx => ?_)
  · exact absurd hx.1 (by simp)
  · obtain ⟨e1, e2⟩ := hx
    cases e1
    refine yw_st (st2 := [.int 0, .ref (ad 52)]) rfl ?_
    subst e2
    refine y_go hA8 ?_
    refine y_iconst d_Mm_alloy_11 (v := 1) (by decide) ?_
    refine y_callV (As := [.int 0, .int 1]) (rest := []) (csC := [((ad 52), .inr (12, [.int 0, .ref (ad 53), .int (nI ((t.1 52).2.2 0)), .ref (ad 54), .ref (ad 55), .ref (ad 56), .ref (ad 57), .ref (ad 58), .ref (ad 59), .ref (ad 60), .ref (ad 61), .int ((t.1 52).1 0), .int ((t.1 52).1 1), .int ((t.1 52).1 2), .int ((t.1 52).1 3), .int ((t.1 52).1 4), .int ((t.1 52).1 5), .ref (ad 62), .ref (ad 63), .ref (ad 64), .int ((t.1 52).1 6), .int ((t.1 52).1 7), .int ((t.1 52).1 8), .int ((t.1 52).1 9), .int ((t.1 52).1 10), .ref (ad 65), .ref (ad 66), .ref (ad 67), .ref (ad 68), .long ((t.1 52).2.1 0), .long ((t.1 52).2.1 1)]))]) (is := [0]) (q0 := 0) rfl rfl ln_Mm_103 w_im_Mm_fails w_se_Mm_fails ok_Mm_alloy_Mm_fails d_Mm_alloy_12 (C_Mm_fails0 g (ad 52) (ad 53) (ad 54) (ad 55) (ad 56) (ad 57) (ad 58) (ad 59) (ad 60) (ad 61) (ad 62) (ad 63) (ad 64) (ad 65) (ad 66) (ad 67) (ad 68) 0 (nI ((t.1 52).2.2 0)) ((t.1 52).1 0) ((t.1 52).1 1) ((t.1 52).1 2) ((t.1 52).1 3) ((t.1 52).1 4) ((t.1 52).1 5) ((t.1 52).1 6) ((t.1 52).1 7) ((t.1 52).1 8) ((t.1 52).1 9) ((t.1 52).1 10) ((t.1 52).2.1 0) ((t.1 52).2.1 1) 1) rfl rfl (Nat.le_of_ble_eq_true rfl) rfl (by decide) (by omega) (by omega) (fun E cs1 hx => ?_) (fun v cs1 hx => ?_)
    · exact absurd hx.1 (by simp)
    · obtain ⟨e1, rfl⟩ := hx
      cases e1
      refine ⟨rfl, ?_⟩
      refine y_st (st2 := [.int 0]) rfl ?_
      refine y_cs (cs2 := [((ad 52), .inr (12, [.int 0, .ref (ad 53), .int (nI ((t.1 52).2.2 0)), .ref (ad 54), .ref (ad 55), .ref (ad 56), .ref (ad 57), .ref (ad 58), .ref (ad 59), .ref (ad 60), .ref (ad 61), .int ((t.1 52).1 0), .int ((t.1 52).1 1), .int ((t.1 52).1 2), .int ((t.1 52).1 3), .int ((t.1 52).1 4), .int ((t.1 52).1 5), .ref (ad 62), .ref (ad 63), .ref (ad 64), .int ((t.1 52).1 6), .int ((t.1 52).1 7), .int ((t.1 52).1 8), .int ((t.1 52).1 9), .int ((t.1 52).1 10), .ref (ad 65), .ref (ad 66), .ref (ad 67), .ref (ad 68), .long ((t.1 52).2.1 0), .long ((t.1 52).2.1 1)]))]) rfl ?_
      refine y_if_eq (tgt := 22) d_Mm_alloy_15 (by decide) (fun c_15 => ?_) (fun c_15 => ?_)
      · refine y_aload_n d_Mm_alloy_22 rfl 0 rfl ?_
        refine y_get fs_Mm_78 d_Mm_alloy_23 (q0 := 0) rfl rfl ?_
        refine y_iload_n d_Mm_alloy_26 rfl 1 rfl ?_
        refine yw_callVL (As := [.int (nI k)]) (rest := []) (ci := 13) rfl (fun wA hA => ((hI.gen (t2 := t) (is := [52]) (L2 := []) hA rfl ⟨kd_52.mpr ⟨_, rfl⟩, trivial⟩ (by decide) (by decide) (fun _ h => nomatch h) (fun _ h => nomatch h) (fun _ _ _ => rfl) (fun h => h) rfl).2.1.1 5 (by decide)).ob) ln_Mm_211 w_im_AL_get w_se_AL_get ok_Mm_alloy_AL_get d_Mm_alloy_27 (fun wA hA => Q_get ((hI.gen (t2 := t) (is := [52]) (L2 := []) hA rfl ⟨kd_52.mpr ⟨_, rfl⟩, trivial⟩ (by decide) (by decide) (fun _ h => nomatch h) (fun _ h => nomatch h) (fun _ _ _ => rfl) (fun h => h) rfl).2.1.1 5 (by decide)) hk) rfl rfl (Nat.le_of_ble_eq_true rfl) (by omega) (by omega) (fun wA27 hA27 E wB27 hx => ?_) (fun wA27 hA27 v wB27 hx => ?_)
        · exact absurd hx.1 (by simp)
        · obtain ⟨e1, e2⟩ := hx
          cases e1
          refine yw_st (st2 := [.ref (u.2.2 5 k)]) rfl ?_
          subst e2
          refine y_go hA27 ?_
          refine y_end (fun wC1 hC1 => ?_)
          have hI9 := (hI.gen (t2 := t) (is := [52]) (L2 := []) hC1 rfl ⟨kd_52.mpr ⟨_, rfl⟩, trivial⟩ (by decide) (by decide) (fun _ h => nomatch h) (fun _ h => nomatch h) (fun _ _ _ => rfl) (fun h => h) rfl)
          have hI := hI9
          obtain ⟨nf_c, hw_c, h0_c⟩ := hI.2.1.2.1 5 (by decide) k hk
          refine y_base (cs := [((ad 52), .inr (12, [.int 0, .ref (ad 53), .int (nI ((t.1 52).2.2 0)), .ref (ad 54), .ref (ad 55), .ref (ad 56), .ref (ad 57), .ref (ad 58), .ref (ad 59), .ref (ad 60), .ref (ad 61), .int ((t.1 52).1 0), .int ((t.1 52).1 1), .int ((t.1 52).1 2), .int ((t.1 52).1 3), .int ((t.1 52).1 4), .int ((t.1 52).1 5), .ref (ad 62), .ref (ad 63), .ref (ad 64), .int ((t.1 52).1 6), .int ((t.1 52).1 7), .int ((t.1 52).1 8), .int ((t.1 52).1 9), .int ((t.1 52).1 10), .ref (ad 65), .ref (ad 66), .ref (ad 67), .ref (ad 68), .long ((t.1 52).2.1 0), .long ((t.1 52).2.1 1)])), ((u.2.2 5 k), .inl (0, 6, .inl ((t.2 5 k).2.1)))]) (z_I.kd (List.forall_mem_cons.mpr ⟨hC1.at (q0 := 0) rfl, (List.forall_mem_cons.mpr ⟨hw_c, (fun _ h => nomatch h)⟩)⟩) (by simp [z_kd])) ?_
          refine y_castA (t := 0) (by decide) lk_Mm_215 d_Mm_alloy_30 (q0 := 1) rfl ?_
          refine y_iconst d_Mm_alloy_33 (v := 4) (by decide) ?_
          refine y_iald d_Mm_alloy_34 (q0 := 1) rfl (fun q => q.elim (by decide) (by decide)) (v := ((t.2 5 k).2.1) 4) rfl ?_
          refine y_iconst d_Mm_alloy_35 (v := 1) (by decide) ?_
          refine y_icmp_ne (tgt := 44) d_Mm_alloy_36 (by decide) (fun c_36 => ?_) (fun c_36 => ?_)
          · refine y_bipush d_Mm_alloy_44 (v := 103) (by decide) ?_
            refine y_iret d_Mm_alloy_46 rfl rfl ?_
            exact fun w1 h1 => ⟨(by first | exact congrArg (fun x : Int32 => (.inl (some (.int x)) : zO)) (if_pos c_36).symm | exact congrArg (fun x : Int32 => (.inl (some (.int x)) : zO)) (if_neg c_36).symm), (hI.gen (t2 := t) (is := [52]) (L2 := [(u.2.2 5 k)]) h1 rfl ⟨kd_52.mpr ⟨_, rfl⟩, trivial⟩ (by decide) (by decide) (List.forall_mem_cons.mpr ⟨nf_c, (fun _ h => nomatch h)⟩) (List.forall_mem_cons.mpr ⟨⟨_, hw_c, h1.at (q0 := 1) rfl⟩, (fun _ h => nomatch h)⟩) (fun _ _ _ => rfl) (fun h => h) rfl), ⟨_, h1.at (q0 := 0) rfl⟩⟩
          · refine y_bipush d_Mm_alloy_39 (v := 100) (by decide) ?_
            refine y_goto (tgt := 46) d_Mm_alloy_41 (by decide) ?_
            refine y_iret d_Mm_alloy_46 rfl rfl ?_
            exact fun w1 h1 => ⟨(by first | exact congrArg (fun x : Int32 => (.inl (some (.int x)) : zO)) (if_pos c_36).symm | exact congrArg (fun x : Int32 => (.inl (some (.int x)) : zO)) (if_neg c_36).symm), (hI.gen (t2 := t) (is := [52]) (L2 := [(u.2.2 5 k)]) h1 rfl ⟨kd_52.mpr ⟨_, rfl⟩, trivial⟩ (by decide) (by decide) (List.forall_mem_cons.mpr ⟨nf_c, (fun _ h => nomatch h)⟩) (List.forall_mem_cons.mpr ⟨⟨_, hw_c, h1.at (q0 := 1) rfl⟩, (fun _ h => nomatch h)⟩) (fun _ _ _ => rfl) (fun h => h) rfl), ⟨_, h1.at (q0 := 0) rfl⟩⟩
      · exact absurd c_15 (by decide)
noncomputable def vK_Ip_alloy (ad : Nat → Nat) (x : Int32) (t : zTT) (n : Nat → Nat) : Int32 × Int32 := if x.toNatClampNeg < n 1 ∧ x = nI x.toNatClampNeg then (0, (if (t.2 1 x.toNatClampNeg).1 0 < 20 then 103 else 100)) else (1, 0)
theorem KE_Ip_alloy {g : zG} {ad : Nat → Nat} {t : zTT} {u : zNN} {w : zW} (hI : IVm g ad t u w) (x : Int32) : zMB g M_Ip_alloy [.ref (ad 0), .int x] w (fun o w1 => zxA ["java/lang/IndexOutOfBoundsException"] (vK_Ip_alloy ad x t u.1) o ∧ ∃ u2 : zNN, u2.1 = u.1 ∧ IVm g ad t u2 w1) 10 300 := by
  obtain ⟨s, hI⟩ := hI
  by_cases hx : x.toNatClampNeg < u.1 1 ∧ x = nI x.toNatClampNeg
  · obtain ⟨k, hk, rfl⟩ : ∃ k, k < u.1 1 ∧ x = nI k := ⟨_, hx⟩
    have h33 := hI.n5 1 (by decide)
    have ek : (nI k).toNatClampNeg = k := nI_clamp (by omega)
    have eV : vK_Ip_alloy ad (nI k) t u.1 = (0, (if (t.2 1 k).1 0 < 20 then 103 else 100)) := by
      unfold vK_Ip_alloy
      rw [if_pos hx, ek]
    rw [eV]
    exact (Qe_Ip_alloyN hI k hk).mono (by decide) (by decide) (fun o w1 h => ⟨Or.inl ⟨rfl, h.1⟩, u, rfl, ⟨_, h.2⟩⟩)
  · have hx9 : ¬ ∃ k, k < u.1 1 ∧ x = nI k := fun ⟨k, hk, e⟩ => hx (by have h33 := hI.n5 1 (by decide); subst e; rw [nI_clamp (by omega)]; exact ⟨hk, rfl⟩)
    have eV : vK_Ip_alloy ad x t u.1 = (1, 0) := by
      unfold vK_Ip_alloy
      rw [if_neg hx]
    rw [eV]
    exact (Qe_Ip_alloyE hI x hx9).mono (by decide) (by decide) (fun o w1 h => ⟨Or.inr ⟨0, _, rfl, rfl, h.1⟩, u, rfl, ⟨_, h.2⟩⟩)
noncomputable def vK_Mm_alloy (ad : Nat → Nat) (x : Int32) (t : zTT) (n : Nat → Nat) : Int32 × Int32 := if x.toNatClampNeg < n 5 ∧ x = nI x.toNatClampNeg then (0, (if (t.2 5 x.toNatClampNeg).2.1 4 = 1 then 100 else 103)) else (1, 0)
theorem KE_Mm_alloy {g : zG} {ad : Nat → Nat} {t : zTT} {u : zNN} {w : zW} {vo : Int64} (hI : IVo g ad vo t u w) (x : Int32) : zMB g M_Mm_alloy [.ref (ad 52), .int x] w (fun o w1 => o = .inl (some (.int (vK_Mm_alloy ad x t u.1).2)) ∧ TH ad (vK_Mm_alloy ad x t u.1).1 w1 ∧ ∃ u2 : zNN, u2.1 = u.1 ∧ IVo g ad vo t u2 w1) 10 300 := by
  obtain ⟨s, hv, hI⟩ := hI
  by_cases hx : x.toNatClampNeg < u.1 5 ∧ x = nI x.toNatClampNeg
  · obtain ⟨k, hk, rfl⟩ : ∃ k, k < u.1 5 ∧ x = nI k := ⟨_, hx⟩
    have h33 := hI.n5 5 (by decide)
    have ek : (nI k).toNatClampNeg = k := nI_clamp (by omega)
    have eV : vK_Mm_alloy ad (nI k) t u.1 = (0, (if (t.2 5 k).2.1 4 = 1 then 100 else 103)) := by
      unfold vK_Mm_alloy
      rw [if_pos hx, ek]
    rw [eV]
    exact (Qe_Mm_alloyN hI k hk).mono (by decide) (by decide) (fun o w1 h => ⟨h.1, h.2.2, u, rfl, ⟨s, hv, h.2.1⟩⟩)
  · have hx9 : ¬ ∃ k, k < u.1 5 ∧ x = nI k := fun ⟨k, hk, e⟩ => hx (by have h33 := hI.n5 5 (by decide); subst e; rw [nI_clamp (by omega)]; exact ⟨hk, rfl⟩)
    have eV : vK_Mm_alloy ad x t u.1 = (1, 0) := by
      unfold vK_Mm_alloy
      rw [if_neg hx]
    rw [eV]
    exact (Qe_Mm_alloyE hI x hx9).mono (by decide) (by decide) (fun o w1 h => ⟨h.1, h.2.2, u, rfl, ⟨s, hv, h.2.1⟩⟩)
theorem V_alloy {ad : Nat → Nat} {t : zTT} {n : Nat → Nat} {b : Nat} {n1 : Nat → Nat} (x : Int32) (h : REL t n b) (e1 : n1 = n) : (vK_Ip_alloy ad x t n).1 = (vK_Mm_alloy ad x t n1).1 ∧ ((vK_Ip_alloy ad x t n).1 = 0 → (vK_Ip_alloy ad x t n).2 = (vK_Mm_alloy ad x t n1).2) := by
  subst e1
  unfold vK_Ip_alloy vK_Mm_alloy
  by_cases hx : x.toNatClampNeg < n1 1 ∧ x = nI x.toNatClampNeg
  · have hr : x.toNatClampNeg < n1 5 ∧ x = nI x.toNatClampNeg := ⟨h.ca.1 ▸ hx.1, hx.2⟩
    have hc := h.ca.2.2 _ hx.1
    rw [if_pos hx, if_pos hr]
    refine ⟨rfl, fun _ => ?_⟩
    show (if (t.2 1 x.toNatClampNeg).1 0 < 20 then (103 : Int32) else 100) = (if (t.2 5 x.toNatClampNeg).2.1 4 = 1 then 100 else 103)
    by_cases q : (t.2 1 x.toNatClampNeg).1 0 < 20
    · rw [if_pos q, if_neg (hc.d.mp q)]
    · rw [if_neg q, if_pos (Classical.not_not.mp (fun z => q (hc.d.mpr z)))]
  · rw [if_neg hx, if_neg (fun q => hx ⟨h.ca.1.symm ▸ q.1, q.2⟩)]
    exact ⟨rfl, fun _ => rfl⟩
