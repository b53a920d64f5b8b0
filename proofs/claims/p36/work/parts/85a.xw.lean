theorem IVo.th {g : zG} {ad : Nat → Nat} {v : Int64} {t : zTT} {u : zNN} {w : zW} {c : Int32} (hI : IVo g ad v t u w) (hT : TH ad c w) : zMB g M_Mm_thrown [.ref (ad 52)] w (fun o w1 => o = .inl (some (.int c)) ∧ w1 = w) 0 0 := by
  obtain ⟨s, -, hI⟩ := hI
  obtain ⟨fs, hT⟩ := hT
  obtain ⟨e_m, wf_m, k_m⟩ := hI.1.2 52 (by decide)
  obtain ⟨v_m_th, rfl⟩ := kd_52.mp k_m
  rw [wf_m] at hT
  cases hT
  have hJ := hI.1.I [52] [((ad 52), .inr (12, [.int c, .ref (ad 53), .int (nI (((mg t s).1 52).2.2 0)), .ref (ad 54), .ref (ad 55), .ref (ad 56), .ref (ad 57), .ref (ad 58), .ref (ad 59), .ref (ad 60), .ref (ad 61), .int (((mg t s).1 52).1 0), .int (((mg t s).1 52).1 1), .int (((mg t s).1 52).1 2), .int (((mg t s).1 52).1 3), .int (((mg t s).1 52).1 4), .int (((mg t s).1 52).1 5), .ref (ad 62), .ref (ad 63), .ref (ad 64), .int (((mg t s).1 52).1 6), .int (((mg t s).1 52).1 7), .int (((mg t s).1 52).1 8), .int (((mg t s).1 52).1 9), .int (((mg t s).1 52).1 10), .ref (ad 65), .ref (ad 66), .ref (ad 67), .ref (ad 68), .long (((mg t s).1 52).2.1 0), .long (((mg t s).1 52).2.1 1)]))] rfl (by decide) (by decide) (List.forall_mem_cons.mpr ⟨wf_m, (fun _ h => nomatch h)⟩)
  refine ((C_Mm_thrown g _ _ _ _ _ _ _ _ _ _ _ _ _ _ _ _ _ _ _ _ _ _ _ _ _ _ _ _ _ _ _ _).at hJ).mono (Nat.le_refl _) (Nat.le_refl _) (fun o w1 hp => ?_)
  obtain ⟨cs1, hp, hi9⟩ := hp
  obtain ⟨e1, e2⟩ := hp
  subst e2
  exact ⟨e1, z_I.same hJ hi9⟩
theorem TH.nil {ad : Nat → Nat} {c : Int32} {w w1 : zW} (h1 : z_I w w1 0 []) (hT : TH ad c w) : TH ad c w1 := (z_I.same (z_I.nil w) h1).symm ▸ hT
set_option maxHeartbeats 4000000 in
set_option maxRecDepth 100000 in
theorem WE_waiting {g : zG} {ad : Nat → Nat} {t : zTT} {u : zNN} {w : zW} (hI : IVm g ad t u w) (x : Int32) : zMB g M_Lw_waiting [.ref (ad 0), .int x, .ref (ad 69)] w (fun o w1 => o = .inl (some (.int (vK_Ip_waiting ad x t u.1).1)) ∧ ∃ (u2 : zNN) (v9 : Int64), u2.1 = u.1 ∧ IVo g ad v9 t u2 w1 ∧ ((vK_Ip_waiting ad x t u.1).1 = 0 → v9 = (vK_Ip_waiting ad x t u.1).2.toInt64)) 10 300 := by
  obtain ⟨s, hI⟩ := hI
  obtain ⟨e_a, wf_a, k_a⟩ := hI.1.2 0 (by decide)
  obtain rfl := kd_0.mp k_a
  obtain ⟨e_o1, wf_o1, k_o1⟩ := hI.1.2 69 (by decide)
  obtain rfl := kd_69.mp k_o1
  refine y_ofH (by decide) (by decide) (Nat.le_of_ble_eq_true rfl) (y_base (cs := [((ad 0), .inr (11, [.ref (ad 1), .ref (ad 5), .ref (ad 18), .ref (ad 31), .ref (ad 32), .ref (ad 36), .ref (ad 42), .ref (ad 45), .ref (ad 47), .ref (ad 49), .ref (ad 50), .ref (ad 51)])), ((ad 69), .inl (3, 1, .inr (.inl (((mg t s).1 69).2.1))))]) (hI.1.I [0, 69] _ rfl (by decide) (by decide) (List.forall_mem_cons.mpr ⟨wf_a, (List.forall_mem_cons.mpr ⟨wf_o1, (fun _ h => nomatch h)⟩)⟩)) ?_)
  refine y_lvE (lv2 := [(0, .ref (ad 0)), (1, .int x), (2, .ref (ad 69))]) rfl ?_
  refine y_aload_n d_Lw_waiting_0 rfl 2 rfl ?_
  refine y_iconst d_Lw_waiting_1 (v := 0) (by decide) ?_
  refine y_aload_n d_Lw_waiting_2 rfl 0 rfl ?_
  refine y_iload_n d_Lw_waiting_3 rfl 1 rfl ?_
  refine yw_callVH (As := [.int x]) (rest := [.int 0, .ref (ad 69)]) (q0 := 0) rfl rfl ln_Lw_118 w_im_Ip_waiting w_se_Ip_waiting ok_Lw_waiting_Ip_waiting d_Lw_waiting_4 (fun wA hA => KE_Ip_waiting ⟨_, (hI.gen (t2 := (mg t s)) (is := [0, 69]) (L2 := []) hA rfl ⟨kd_0.mpr rfl, kd_69.mpr rfl, trivial⟩ (by decide) (by decide) (fun _ h => nomatch h) (fun _ h => nomatch h) (fun _ _ _ => rfl) (fun h => h) rfl)⟩ x) rfl rfl (Nat.le_of_ble_eq_true rfl) (by omega) (by omega) (fun wA4 hA4 E wB4 hx => ?_) (fun wA4 hA4 v wB4 hx => ?_)
  · obtain ⟨h1, u2, hu, hI2⟩ := hx
    obtain ⟨s9, hI3⟩ := hI2
    obtain ⟨k9, hk9, hp9⟩ := h1.X
    rcases k9 with _ | k9
    · obtain rfl : "java/util/NoSuchElementException" = E := Option.some.inj hk9
      have hq9 : (vK_Ip_waiting ad x t u.1).1 = 1 := hp9
      refine ⟨"java/util/NoSuchElementException", [], [], (0, 9, 12, 33), rfl, (fun z hz => nomatch hz), by decide, by decide, lx_Lw_33, ce_33, fun qx => ?_⟩
      refine y_base (cs := []) (z_I.nil wB4) ?_
      refine y_astore_n (lv' := [(3, .ref qx), (0, .ref (ad 0)), (1, .int x), (2, .ref (ad 69))]) d_Lw_waiting_12 rfl (by decide) rfl ?_
      refine y_iconst d_Lw_waiting_13 (v := 1) (by decide) ?_
      refine y_iret d_Lw_waiting_14 rfl rfl ?_
      exact fun w1 h1 => ⟨by rw [hq9], u2, _, hu, ⟨s9, rfl, (z_I.same (z_I.nil _) h1).symm ▸ hI3⟩, fun e => absurd (hq9.symm.trans e) (by decide)⟩
    · exact absurd hk9 (by simp)
  · obtain ⟨h1, u2, hu, hI2⟩ := hx
    obtain ⟨v9, rfl, hp9, hq9⟩ := h1.V
    refine yw_st (st2 := [.int v9, .int 0, .ref (ad 69)]) rfl ?_
    obtain ⟨s9, hI⟩ := hI2
    obtain ⟨e_o1, wf_o1, k_o1⟩ := hI.1.2 69 (by decide)
    obtain rfl := kd_69.mp k_o1
    refine y_base (cs := [((ad 69), .inl (3, 1, .inr (.inl (((mg t s9).1 69).2.1))))]) (hI.1.I [69] _ rfl (by decide) (by decide) (List.forall_mem_cons.mpr ⟨wf_o1, (fun _ h => nomatch h)⟩)) ?_
    refine y_i2l d_Lw_waiting_7 (v := v9.toInt64) rfl ?_
    refine y_last d_Lw_waiting_8 (q0 := 0) rfl (fun q => q.elim (by decide) (by decide)) (f' := vp_updL (((mg t s9).1 69).2.1) 0 v9.toInt64) rfl (cs' := [((ad 69), .inl (3, 1, .inr (.inl (vp_updL (((mg t s9).1 69).2.1) 0 v9.toInt64))))]) rfl ?_
    refine y_goto (tgt := 15) d_Lw_waiting_9 (by decide) ?_
    refine y_iconst d_Lw_waiting_15 (v := 0) (by decide) ?_
    refine y_iret d_Lw_waiting_16 rfl rfl ?_
    exact fun w1 h1 => ⟨by rw [hp9], u2, v9.toInt64, hu, IVo.tz ((hI.gen (t2 := (zup (mg t s9).1 [(69, (((mg t s9).1 69).1, vp_updL (((mg t s9).1 69).2.1) 0 v9.toInt64, ((mg t s9).1 69).2.2))], (mg t s9).2)) (is := [69]) (L2 := []) h1 rfl ⟨kd_69.mpr rfl, trivial⟩ (by decide) (by decide) (fun _ h => nomatch h) (fun _ h => nomatch h) (fun i hi hn => zup_out (fun q => hn ((by decide : ∀ j ∈ ([69] : List Nat), j ∈ ([69] : List Nat)) i q))) (fun h => h) rfl)) (tx_all rfl) rfl, fun _ => (congrArg Int32.toInt64 hq9).symm⟩
