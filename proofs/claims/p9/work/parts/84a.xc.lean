def TH (ad : Nat → Nat) (c : Int32) (w : zW) : Prop := ∃ fs : List Value, w (ad 52) = some (.inr (12, .int c :: fs))
def IVo (g : zG) (ad : Nat → Nat) (v : Int64) (t : zTT) (u : zNN) (w : zW) : Prop := ∃ s, (s 69).2.1 0 = v ∧ IV g ad (mg t s) u w
theorem IVo.of {g : zG} {ad : Nat → Nat} {v : Int64} {t T : zTT} {u : zNN} {w : zW} (h : IV g ad T u w) (h1 : ∀ i, ¬ tx i → T.1 i = t.1 i) (h2 : T.2 = t.2) (h3 : (T.1 69).2.1 0 = v) : IVo g ad v t u w := ⟨T.1, h3, by rw [mg_self t T h1 h2]; exact h⟩
theorem IVo.m {g : zG} {ad : Nat → Nat} {v : Int64} {t : zTT} {u : zNN} {w : zW} (h : IVo g ad v t u w) : IVm g ad t u w := by
  obtain ⟨s, -, h⟩ := h
  exact ⟨s, h⟩
theorem IVo.nil {g : zG} {ad : Nat → Nat} {v : Int64} {t : zTT} {u : zNN} {w w1 : zW} (h1 : z_I w w1 0 []) (hI : IVo g ad v t u w) : IVo g ad v t u w1 := (z_I.same (z_I.nil w) h1).symm ▸ hI
theorem IVo.zu {g : zG} {ad : Nat → Nat} {v : Int64} {t : zTT} {s : Nat → zP2} {V : Nat → Nat → zV} {l : List (Nat × zP2)} {u : zNN} {w : zW} (h : IV g ad (zup (mg t s).1 l, V) u w) (h3 : (zup (mg t s).1 l 69).2.1 0 = v) : IVo g ad v (zup t.1 l, V) u w := IVo.of h (fun i hi => zup_cg (P := fun i => ¬ tx i) (fun i hi => if_neg hi) l i hi) rfl h3
theorem IVo.tz {g : zG} {ad : Nat → Nat} {v : Int64} {t : zTT} {s : Nat → zP2} {l : List (Nat × zP2)} {u : zNN} {w : zW} (h : IV g ad (zup (mg t s).1 l, (mg t s).2) u w) (hl : ∀ i ∈ l.map Prod.fst, tx i) (h3 : (zup (mg t s).1 l 69).2.1 0 = v) : IVo g ad v t u w := IVo.of h (fun i hi => (zup_out (fun q => hi (hl i q))).trans (if_neg hi)) rfl h3
def zxA (Es : List String) (p : Int32 × Int32) (o : zO) : Prop := (p.1 = 0 ∧ o = .inl (some (.int p.2))) ∨ ∃ (k : Nat) (E : String), Es[k]? = some E ∧ p.1 = nI (k + 1) ∧ o = .inr E
theorem zxA.V {Es : List String} {p : Int32 × Int32} {v : Option Value} (h : zxA Es p (.inl v)) : ∃ x : Int32, v = some (.int x) ∧ p.1 = 0 ∧ p.2 = x := by
  rcases h with ⟨h1, h2⟩ | ⟨k, E, -, -, h2⟩
  · cases h2; exact ⟨_, rfl, h1, rfl⟩
  · cases h2
theorem zxA.X {Es : List String} {p : Int32 × Int32} {E : String} (h : zxA Es p (.inr E)) : ∃ k : Nat, Es[k]? = some E ∧ p.1 = nI (k + 1) := by
  rcases h with ⟨h1, h2⟩ | ⟨k, E2, h3, h4, h2⟩
  · cases h2
  · cases h2; exact ⟨k, h3, h4⟩
theorem flC_ir {f a b : Nat → Int32} {k : Nat} (hk : k < 108) : flC f a k = flC f b k := ((fill_rel (f := f) (ce := f) (fun _ _ => rfl) a (fun _ => 0)).1 k hk).trans ((fill_rel (f := f) (ce := f) (fun _ _ => rfl) b (fun _ => 0)).1 k hk).symm
theorem TI_fl {X : zTr} {P : Nat → Int32} {k : Nat} (h : TIX X P) (hk : k < 108) : (flT X).1.2.1 k = flC P (fun _ => 0) k := by
  obtain ⟨fi0, h2⟩ := (TIX_f2 h).2
  show flP X.1.1 X.1.2.1 X.1.2.2.1 k = flC P (fun _ => 0) k
  rw [h2 k hk]
  exact ((fill_rel (f := P) (ce := X.1.1) h.1 (fun _ => 0) fi0).1 k hk).symm
set_option maxHeartbeats 4000000 in
theorem Qt_Mm_filledInE {g : zG} {ad : Nat → Nat} {t : zTT} {u : zNN} {w : zW} (hI : IV g ad t u w) (x : Int32) (y : Int32) (hz : z_cl x y = none) : zMB g M_Mm_filledIn [.ref (ad 52), .int x, .int y] w (fun o w1 => o = .inl (some (.int 0)) ∧ IV g ad t u w1 ∧ TH ad 1 w1) 0 0 := by
  obtain ⟨e_m, w_m, k_m⟩ := hI.1.2 52 (by decide)
  obtain ⟨v_m_th, rfl⟩ := kd_52.mp k_m
  obtain ⟨e_mp, w_mp, k_mp⟩ := hI.1.2 53 (by decide)
  obtain rfl := kd_53.mp k_mp
  refine ((C_Mm_filledInE g (ad 52) (ad 53) (ad 54) (ad 55) (ad 56) (ad 57) (ad 58) (ad 59) (ad 60) (ad 61) (ad 62) (ad 63) (ad 64) (ad 65) (ad 66) (ad 67) (ad 68) v_m_th (nI ((t.1 52).2.2 0)) ((t.1 52).1 0) ((t.1 52).1 1) ((t.1 52).1 2) ((t.1 52).1 3) ((t.1 52).1 4) ((t.1 52).1 5) ((t.1 52).1 6) ((t.1 52).1 7) ((t.1 52).1 8) ((t.1 52).1 9) ((t.1 52).1 10) ((t.1 52).2.1 0) ((t.1 52).2.1 1) ((t.1 53).1) x y hz).at (hI.1.I [52, 53] _ rfl (by decide) (by decide) (List.forall_mem_cons.mpr ⟨w_m, (List.forall_mem_cons.mpr ⟨w_mp, (fun _ h => nomatch h)⟩)⟩))).mono (Nat.le_of_ble_eq_true rfl) (Nat.le_of_ble_eq_true rfl) (fun o w1 hp => ?_)
  obtain ⟨cs1, hp, hi9⟩ := hp
  obtain ⟨e1, e2⟩ := hp
  subst e1; subst e2
  exact ⟨rfl, hI.fix (t2 := t) (is := [52, 53]) hi9 rfl ⟨kd_52.mpr ⟨_, rfl⟩, kd_53.mpr rfl, trivial⟩ (by decide) (by decide) (fun _ _ _ => rfl) (fun h => h) rfl, ⟨_, hi9.at (q0 := 0) rfl⟩⟩
set_option maxHeartbeats 4000000 in
set_option maxRecDepth 100000 in
theorem Qe_Mm_filledInN {g : zG} {ad : Nat → Nat} {t : zTT} {u : zNN} {w : zW} (hI : IV g ad t u w) (x y : Nat) (hx0 : x < 12) (hy0 : y < 9) : zMB g M_Mm_filledIn [.ref (ad 52), .int (nI x), .int (nI y)] w (fun o w1 => o = .inl (some (.int (flC (t.1 53).1 (fun _ => 0) (12 * y + x)))) ∧ IV g ad t u w1 ∧ TH ad 0 w1) 0 0 := by
  obtain ⟨e_m, wf_m, k_m⟩ := hI.1.2 52 (by decide)
  obtain ⟨v_m_th, rfl⟩ := kd_52.mp k_m
  obtain ⟨e_mp, wf_mp, k_mp⟩ := hI.1.2 53 (by decide)
  obtain rfl := kd_53.mp k_mp
  obtain ⟨e_mf, wf_mf, k_mf⟩ := hI.1.2 54 (by decide)
  obtain ⟨v_mf_f, rfl⟩ := kd_54.mp k_mf
  refine y_of (by decide) rfl (Nat.le_of_ble_eq_true rfl) (y_base (cs := [((ad 52), .inr (12, [.int v_m_th, .ref (ad 53), .int (nI ((t.1 52).2.2 0)), .ref (ad 54), .ref (ad 55), .ref (ad 56), .ref (ad 57), .ref (ad 58), .ref (ad 59), .ref (ad 60), .ref (ad 61), .int ((t.1 52).1 0), .int ((t.1 52).1 1), .int ((t.1 52).1 2), .int ((t.1 52).1 3), .int ((t.1 52).1 4), .int ((t.1 52).1 5), .ref (ad 62), .ref (ad 63), .ref (ad 64), .int ((t.1 52).1 6), .int ((t.1 52).1 7), .int ((t.1 52).1 8), .int ((t.1 52).1 9), .int ((t.1 52).1 10), .ref (ad 65), .ref (ad 66), .ref (ad 67), .ref (ad 68), .long ((t.1 52).2.1 0), .long ((t.1 52).2.1 1)])), ((ad 53), .inl (1, 108, .inl ((t.1 53).1))), ((ad 54), .inl (0, 108, .inl v_mf_f))]) (hI.1.I [52, 53, 54] _ rfl (by decide) (by decide) (List.forall_mem_cons.mpr ⟨wf_m, (List.forall_mem_cons.mpr ⟨wf_mp, (List.forall_mem_cons.mpr ⟨wf_mf, (fun _ h => nomatch h)⟩)⟩)⟩)) ?_)
  refine y_lvE (lv2 := [(0, .ref (ad 52)), (1, .int (nI x)), (2, .int (nI y))]) rfl ?_
  refine y_aload_n d_Mm_filledIn_0 rfl 0 rfl ?_
  refine y_iconst d_Mm_filledIn_1 (v := 0) (by decide) ?_
  refine y_put fp_Mm_84 d_Mm_filledIn_2 (fun h => nomatch h) rfl rfl (q0 := 0) rfl (Nat.le_of_ble_eq_true rfl) (cs' := [((ad 52), .inr (12, [.int 0, .ref (ad 53), .int (nI ((t.1 52).2.2 0)), .ref (ad 54), .ref (ad 55), .ref (ad 56), .ref (ad 57), .ref (ad 58), .ref (ad 59), .ref (ad 60), .ref (ad 61), .int ((t.1 52).1 0), .int ((t.1 52).1 1), .int ((t.1 52).1 2), .int ((t.1 52).1 3), .int ((t.1 52).1 4), .int ((t.1 52).1 5), .ref (ad 62), .ref (ad 63), .ref (ad 64), .int ((t.1 52).1 6), .int ((t.1 52).1 7), .int ((t.1 52).1 8), .int ((t.1 52).1 9), .int ((t.1 52).1 10), .ref (ad 65), .ref (ad 66), .ref (ad 67), .ref (ad 68), .long ((t.1 52).2.1 0), .long ((t.1 52).2.1 1)])), ((ad 53), .inl (1, 108, .inl ((t.1 53).1))), ((ad 54), .inl (0, 108, .inl v_mf_f))]) rfl ?_
  refine y_aload_n d_Mm_filledIn_5 rfl 0 rfl ?_
  refine y_iload_n d_Mm_filledIn_6 rfl 1 rfl ?_
  refine y_iload_n d_Mm_filledIn_7 rfl 2 rfl ?_
  refine y_callS (As := [.int (nI x), .int (nI y)]) (rest := [.ref (ad 52)]) (csC := []) (is := []) ln_Mm_91 w_st_Mm_isCell ok_Mm_filledIn_Mm_isCell d_Mm_filledIn_8 (C_Mm_isCell g (nI x) (nI y)) rfl rfl (Nat.le_of_ble_eq_true rfl) rfl (by decide) (by omega) (by omega) (fun E cs1 hx => ?_) (fun v cs1 hx => ?_)
  · exact absurd hx.1 (by simp)
  · obtain ⟨e1, rfl⟩ := hx
    rw [if_pos (z_cellN (by omega) (by omega))] at e1
    cases e1
    refine ⟨rfl, ?_⟩
    refine y_st (st2 := [.int 1, .ref (ad 52)]) rfl ?_
    refine y_cs (cs2 := [((ad 52), .inr (12, [.int 0, .ref (ad 53), .int (nI ((t.1 52).2.2 0)), .ref (ad 54), .ref (ad 55), .ref (ad 56), .ref (ad 57), .ref (ad 58), .ref (ad 59), .ref (ad 60), .ref (ad 61), .int ((t.1 52).1 0), .int ((t.1 52).1 1), .int ((t.1 52).1 2), .int ((t.1 52).1 3), .int ((t.1 52).1 4), .int ((t.1 52).1 5), .ref (ad 62), .ref (ad 63), .ref (ad 64), .int ((t.1 52).1 6), .int ((t.1 52).1 7), .int ((t.1 52).1 8), .int ((t.1 52).1 9), .int ((t.1 52).1 10), .ref (ad 65), .ref (ad 66), .ref (ad 67), .ref (ad 68), .long ((t.1 52).2.1 0), .long ((t.1 52).2.1 1)])), ((ad 53), .inl (1, 108, .inl ((t.1 53).1))), ((ad 54), .inl (0, 108, .inl v_mf_f))]) rfl ?_
    refine y_if_ne (tgt := 18) d_Mm_filledIn_11 (by decide) (fun c_11 => ?_) (fun c_11 => ?_)
    · refine y_iconst d_Mm_filledIn_18 (v := 0) (by decide) ?_
      refine y_iconst d_Mm_filledIn_19 (v := 1) (by decide) ?_
      refine y_callV (As := [.int 0, .int 1]) (rest := []) (csC := [((ad 52), .inr (12, [.int 0, .ref (ad 53), .int (nI ((t.1 52).2.2 0)), .ref (ad 54), .ref (ad 55), .ref (ad 56), .ref (ad 57), .ref (ad 58), .ref (ad 59), .ref (ad 60), .ref (ad 61), .int ((t.1 52).1 0), .int ((t.1 52).1 1), .int ((t.1 52).1 2), .int ((t.1 52).1 3), .int ((t.1 52).1 4), .int ((t.1 52).1 5), .ref (ad 62), .ref (ad 63), .ref (ad 64), .int ((t.1 52).1 6), .int ((t.1 52).1 7), .int ((t.1 52).1 8), .int ((t.1 52).1 9), .int ((t.1 52).1 10), .ref (ad 65), .ref (ad 66), .ref (ad 67), .ref (ad 68), .long ((t.1 52).2.1 0), .long ((t.1 52).2.1 1)]))]) (is := [0]) (q0 := 0) rfl rfl ln_Mm_103 w_im_Mm_fails w_se_Mm_fails ok_Mm_filledIn_Mm_fails d_Mm_filledIn_20 (C_Mm_fails0 g (ad 52) (ad 53) (ad 54) (ad 55) (ad 56) (ad 57) (ad 58) (ad 59) (ad 60) (ad 61) (ad 62) (ad 63) (ad 64) (ad 65) (ad 66) (ad 67) (ad 68) 0 (nI ((t.1 52).2.2 0)) ((t.1 52).1 0) ((t.1 52).1 1) ((t.1 52).1 2) ((t.1 52).1 3) ((t.1 52).1 4) ((t.1 52).1 5) ((t.1 52).1 6) ((t.1 52).1 7) ((t.1 52).1 8) ((t.1 52).1 9) ((t.1 52).1 10) ((t.1 52).2.1 0) ((t.1 52).2.1 1) 1) rfl rfl (Nat.le_of_ble_eq_true rfl) rfl (by decide) (by omega) (by omega) (fun E cs1 hx => ?_) (fun v cs1 hx => ?_)
      · exact absurd hx.1 (by simp)
      · obtain ⟨e1, rfl⟩ := hx
        cases e1
        refine ⟨rfl, ?_⟩
        refine y_st (st2 := [.int 0]) rfl ?_
        refine y_cs (cs2 := [((ad 52), .inr (12, [.int 0, .ref (ad 53), .int (nI ((t.1 52).2.2 0)), .ref (ad 54), .ref (ad 55), .ref (ad 56), .ref (ad 57), .ref (ad 58), .ref (ad 59), .ref (ad 60), .ref (ad 61), .int ((t.1 52).1 0), .int ((t.1 52).1 1), .int ((t.1 52).1 2), .int ((t.1 52).1 3), .int ((t.1 52).1 4), .int ((t.1 52).1 5), .ref (ad 62), .ref (ad 63), .ref (ad 64), .int ((t.1 52).1 6), .int ((t.1 52).1 7), .int ((t.1 52).1 8), .int ((t.1 52).1 9), .int ((t.1 52).1 10), .ref (ad 65), .ref (ad 66), .ref (ad 67), .ref (ad 68), .long ((t.1 52).2.1 0), .long ((t.1 52).2.1 1)])), ((ad 53), .inl (1, 108, .inl ((t.1 53).1))), ((ad 54), .inl (0, 108, .inl v_mf_f))]) rfl ?_
        refine y_if_eq (tgt := 28) d_Mm_filledIn_23 (by decide) (fun c_23 => ?_) (fun c_23 => ?_)
        · refine y_aload_n d_Mm_filledIn_28 rfl 0 rfl ?_
          refine y_aload_n d_Mm_filledIn_29 rfl 0 rfl ?_
          refine y_get fs_Mm_7 d_Mm_filledIn_30 (q0 := 0) rfl rfl ?_
          refine y_callV (As := [.ref (ad 53)]) (rest := []) (csC := [((ad 52), .inr (12, [.int 0, .ref (ad 53), .int (nI ((t.1 52).2.2 0)), .ref (ad 54), .ref (ad 55), .ref (ad 56), .ref (ad 57), .ref (ad 58), .ref (ad 59), .ref (ad 60), .ref (ad 61), .int ((t.1 52).1 0), .int ((t.1 52).1 1), .int ((t.1 52).1 2), .int ((t.1 52).1 3), .int ((t.1 52).1 4), .int ((t.1 52).1 5), .ref (ad 62), .ref (ad 63), .ref (ad 64), .int ((t.1 52).1 6), .int ((t.1 52).1 7), .int ((t.1 52).1 8), .int ((t.1 52).1 9), .int ((t.1 52).1 10), .ref (ad 65), .ref (ad 66), .ref (ad 67), .ref (ad 68), .long ((t.1 52).2.1 0), .long ((t.1 52).2.1 1)])), ((ad 53), .inl (1, 108, .inl ((t.1 53).1))), ((ad 54), .inl (0, 108, .inl v_mf_f))]) (is := [0, 1, 2]) (q0 := 0) rfl rfl ln_Mm_143 w_im_Mm_fill w_se_Mm_fill ok_Mm_filledIn_Mm_fill d_Mm_filledIn_33 (C_Mm_fill9 g (ad 52) (ad 53) (ad 54) (ad 55) (ad 56) (ad 57) (ad 58) (ad 59) (ad 60) (ad 61) (ad 62) (ad 63) (ad 64) (ad 65) (ad 66) (ad 67) (ad 68) 0 (nI ((t.1 52).2.2 0)) ((t.1 52).1 0) ((t.1 52).1 1) ((t.1 52).1 2) ((t.1 52).1 3) ((t.1 52).1 4) ((t.1 52).1 5) ((t.1 52).1 6) ((t.1 52).1 7) ((t.1 52).1 8) ((t.1 52).1 9) ((t.1 52).1 10) ((t.1 52).2.1 0) ((t.1 52).2.1 1) (ad 53) ((t.1 53).1) v_mf_f) rfl rfl (Nat.le_of_ble_eq_true rfl) rfl (by decide) (by omega) (by omega) (fun E cs1 hx => ?_) (fun v cs1 hx => ?_)
          · exact absurd hx.1 (by simp)
          · obtain ⟨e1, rfl⟩ := hx
            cases e1
            refine ⟨rfl, ?_⟩
            refine y_st (st2 := []) rfl ?_
            refine y_cs (cs2 := [((ad 52), .inr (12, [.int 0, .ref (ad 53), .int (nI ((t.1 52).2.2 0)), .ref (ad 54), .ref (ad 55), .ref (ad 56), .ref (ad 57), .ref (ad 58), .ref (ad 59), .ref (ad 60), .ref (ad 61), .int ((t.1 52).1 0), .int ((t.1 52).1 1), .int ((t.1 52).1 2), .int ((t.1 52).1 3), .int ((t.1 52).1 4), .int ((t.1 52).1 5), .ref (ad 62), .ref (ad 63), .ref (ad 64), .int ((t.1 52).1 6), .int ((t.1 52).1 7), .int ((t.1 52).1 8), .int ((t.1 52).1 9), .int ((t.1 52).1 10), .ref (ad 65), .ref (ad 66), .ref (ad 67), .ref (ad 68), .long ((t.1 52).2.1 0), .long ((t.1 52).2.1 1)])), ((ad 53), .inl (1, 108, .inl ((t.1 53).1))), ((ad 54), .inl (0, 108, .inl (flC ((t.1 53).1) v_mf_f)))]) rfl ?_
            refine y_aload_n d_Mm_filledIn_36 rfl 0 rfl ?_
            refine y_get fs_Mm_17 d_Mm_filledIn_37 (q0 := 0) rfl rfl ?_
            refine y_bipush d_Mm_filledIn_40 (v := 12) (by decide) ?_
            refine y_iload_n d_Mm_filledIn_42 rfl 2 rfl ?_
            refine y_imul d_Mm_filledIn_43 (v := nI (12 * y)) (pk_mul _ _) ?_
            refine y_iload_n d_Mm_filledIn_44 rfl 1 rfl ?_
            refine y_iadd d_Mm_filledIn_45 (v := nI (12 * y + x)) (nI_add _ _) ?_
            refine y_iald d_Mm_filledIn_46 (q0 := 2) rfl (vp_in_nI (by omega) (by omega)) (v := (flC ((t.1 53).1) v_mf_f) (12 * y + x)) (by rw [nI_clamp (by omega)]) ?_
            refine y_iret d_Mm_filledIn_47 rfl rfl ?_
            exact fun w1 h1 => ⟨congrArg (fun z : Int32 => (.inl (some (.int z)) : zO)) (flC_ir (by omega)), (hI.gen (t2 := t) (is := [52, 53, 54]) (L2 := []) h1 rfl ⟨kd_52.mpr ⟨_, rfl⟩, kd_53.mpr rfl, kd_54.mpr ⟨_, rfl⟩, trivial⟩ (by decide) (by decide) (fun _ h => nomatch h) (fun _ h => nomatch h) (fun _ _ _ => rfl) (fun h => h) rfl), ⟨_, h1.at (q0 := 0) rfl⟩⟩
        · exact absurd c_23 (by decide)
    · exact absurd c_11 (by decide)
noncomputable def vK_Ip_filledIn (ad : Nat → Nat) (x y : Int32) (t : zTT) (n : Nat → Nat) : Int32 × Int32 := if 0 ≤ x ∧ x < 12 ∧ 0 ≤ y ∧ y < 9 then (0, (flC (t.1 2).1 (fun _ => 0) (12 * y.toNatClampNeg + x.toNatClampNeg))) else (1, 0)
theorem KE_Ip_filledIn {g : zG} {ad : Nat → Nat} {t : zTT} {u : zNN} {w : zW} (hI : IVm g ad t u w) (x y : Int32) : zMB g M_Ip_filledIn [.ref (ad 0), .int x, .int y] w (fun o w1 => zxA ["java/lang/IndexOutOfBoundsException"] (vK_Ip_filledIn ad x y t u.1) o ∧ ∃ u2 : zNN, u2.1 = u.1 ∧ IVm g ad t u2 w1) 10 300 := by
  obtain ⟨s, hI⟩ := hI
  by_cases hq : 0 ≤ x ∧ x < 12 ∧ 0 ≤ y ∧ y < 9
  · obtain ⟨x0, y0, hx0, hy0, rfl, rfl, hz⟩ := z_cl_in hq
    have ex : (nI x0).toNatClampNeg = x0 := nI_clamp (by omega)
    have ey : (nI y0).toNatClampNeg = y0 := nI_clamp (by omega)
    have hk9 : 12 * y0 + x0 < 108 := by omega
    have eV : vK_Ip_filledIn ad (nI x0) (nI y0) t u.1 = (0, (flC (t.1 2).1 (fun _ => 0) (12 * y0 + x0))) := by
      unfold vK_Ip_filledIn
      rw [if_pos hq, ex, ey]
    have q9 := Qx_Ip_filledInN hI (nI x0) (nI y0) (12 * y0 + x0) hz
    have ht9 : TIX (XTt (mg t s)) (t.1 2).1 := (hI.2.2).2.2.2.2
    have ev := TI_fl ht9 hk9
    have ew : (.inl (some (.int ((flT (XTt (mg t s))).1.2.1 (12 * y0 + x0)))) : zO) = .inl (some (.int (flC (t.1 2).1 (fun _ => 0) (12 * y0 + x0)))) := congrArg (fun z : Int32 => (.inl (some (.int z)) : zO)) ev
    rw [eV]
    generalize flC (t.1 2).1 (fun _ => 0) (12 * y0 + x0) = F9 at ew ⊢
    exact q9.mono (by decide) (by decide) (fun o w1 h => ⟨Or.inl ⟨rfl, h.1.trans ew⟩, u, rfl, IVm.tz h.2 (tx_all rfl)⟩)
  · have eV : vK_Ip_filledIn ad x y t u.1 = (1, 0) := by
      unfold vK_Ip_filledIn
      rw [if_neg hq]
    rw [eV]
    exact (Qx_Ip_filledInE hI x y (if_neg hq)).mono (by decide) (by decide) (fun o w1 h => ⟨Or.inr ⟨0, _, rfl, rfl, h.1⟩, u, rfl, ⟨_, h.2⟩⟩)
noncomputable def vK_Mm_filledIn (ad : Nat → Nat) (x y : Int32) (t : zTT) (n : Nat → Nat) : Int32 × Int32 := if 0 ≤ x ∧ x < 12 ∧ 0 ≤ y ∧ y < 9 then (0, (flC (t.1 53).1 (fun _ => 0) (12 * y.toNatClampNeg + x.toNatClampNeg))) else (1, 0)
theorem KE_Mm_filledIn {g : zG} {ad : Nat → Nat} {t : zTT} {u : zNN} {w : zW} {vo : Int64} (hI : IVo g ad vo t u w) (x y : Int32) : zMB g M_Mm_filledIn [.ref (ad 52), .int x, .int y] w (fun o w1 => o = .inl (some (.int (vK_Mm_filledIn ad x y t u.1).2)) ∧ TH ad (vK_Mm_filledIn ad x y t u.1).1 w1 ∧ ∃ u2 : zNN, u2.1 = u.1 ∧ IVo g ad vo t u2 w1) 10 300 := by
  obtain ⟨s, hv, hI⟩ := hI
  by_cases hq : 0 ≤ x ∧ x < 12 ∧ 0 ≤ y ∧ y < 9
  · obtain ⟨x0, y0, hx0, hy0, rfl, rfl, hz⟩ := z_cl_in hq
    have ex : (nI x0).toNatClampNeg = x0 := nI_clamp (by omega)
    have ey : (nI y0).toNatClampNeg = y0 := nI_clamp (by omega)
    have hk9 : 12 * y0 + x0 < 108 := by omega
    have eV : vK_Mm_filledIn ad (nI x0) (nI y0) t u.1 = (0, (flC (t.1 53).1 (fun _ => 0) (12 * y0 + x0))) := by
      unfold vK_Mm_filledIn
      rw [if_pos hq, ex, ey]
    have q9 := Qe_Mm_filledInN hI x0 y0 hx0 hy0
    have e9 : flC ((mg t s).1 53).1 (fun _ => 0) (12 * y0 + x0) = flC (t.1 53).1 (fun _ => 0) (12 * y0 + x0) := congrArg (fun f : Nat → Int32 => flC f (fun _ => 0) (12 * y0 + x0)) (show ((mg t s).1 53).1 = (t.1 53).1 from rfl)
    rw [e9] at q9
    rw [eV]
    generalize flC (t.1 53).1 (fun _ => 0) (12 * y0 + x0) = F9 at q9 ⊢
    exact q9.mono (by decide) (by decide) (fun o w1 h => ⟨h.1, h.2.2, u, rfl, ⟨s, hv, h.2.1⟩⟩)
  · have eV : vK_Mm_filledIn ad x y t u.1 = (1, 0) := by
      unfold vK_Mm_filledIn
      rw [if_neg hq]
    rw [eV]
    exact (Qt_Mm_filledInE hI x y (if_neg hq)).mono (by decide) (by decide) (fun o w1 h => ⟨h.1, h.2.2, u, rfl, ⟨s, hv, h.2.1⟩⟩)
theorem V_filledIn {ad : Nat → Nat} {t : zTT} {n : Nat → Nat} {b : Nat} {n1 : Nat → Nat} (x y : Int32) (h : REL t n b) (e1 : n1 = n) : (vK_Ip_filledIn ad x y t n).1 = (vK_Mm_filledIn ad x y t n1).1 ∧ ((vK_Ip_filledIn ad x y t n).1 = 0 → (vK_Ip_filledIn ad x y t n).2 = (vK_Mm_filledIn ad x y t n1).2) := by
  unfold vK_Ip_filledIn vK_Mm_filledIn
  rw [h.pa]
  by_cases hq : 0 ≤ x ∧ x < 12 ∧ 0 ≤ y ∧ y < 9
  · rw [if_pos hq]
    exact ⟨rfl, fun _ => rfl⟩
  · rw [if_neg hq]
    exact ⟨rfl, fun _ => rfl⟩
