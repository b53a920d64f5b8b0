theorem nI_nek {k N : Nat} (h : k < N) (hN : N < 2 ^ 31) : ¬ nI k = nI N := fun q => by
  have h1 := (nI_ltI (by omega) hN).mpr h
  rw [q] at h1
  exact Int32.lt_irrefl h1
set_option maxHeartbeats 4000000 in
set_option maxRecDepth 100000 in
theorem C_AL_addAR (g : zG) (a v dd N k : Nat) (md : Int32) (f : Nat → Option Nat) (ek : zE) (ho : z_ob ek) (hk : k < N) (hN : N < 2 ^ 31) : CT g M_AL_add_1 [.ref a, .ref v, .ref dd, .int (nI k)] [(a, .inr (13, [.int md, .ref dd, .int (nI k)])), (v, ek), (dd, .inl (5, N, .inr (.inr (.inr (.inr f)))))] (fun o cs1 => o = .inl none ∧ cs1 = [(a, .inr (13, [.int md, .ref dd, .int (nI (k + 1))])), (v, ek), (dd, .inl (5, N, .inr (.inr (.inr (.inr (va_up f k (some v)))))))]) 0 0 := by
  refine z_of (by decide) rfl (Nat.le_of_ble_eq_true rfl) (fun w0 => ?_)
  refine r_lvE (lv2 := [(0, .ref a), (1, .ref v), (2, .ref dd), (3, .int (nI k))]) rfl ?_
  refine r_iload_n d_AL_add_1_0 rfl 3 rfl ?_
  refine r_aload_n d_AL_add_1_1 rfl 2 rfl ?_
  refine r_alen d_AL_add_1_2 (q0 := 2) rfl rfl (v := nI N) rfl ?_
  refine r_icmp_ne (tgt := 11) d_AL_add_1_3 (by decide) (fun c_3 => ?_) (fun c_3 => ?_)
  · refine r_aload_n d_AL_add_1_11 rfl 2 rfl ?_
    refine r_iload_n d_AL_add_1_12 rfl 3 rfl ?_
    refine r_aload_n d_AL_add_1_13 rfl 1 rfl ?_
    refine r_aast d_AL_add_1_14 (q0 := 2) (qk := 1) rfl rfl ho (vp_in_nI (by omega) (by omega)) (f' := va_up f k (some v)) (by rw [nI_clamp (by omega)]) (cs' := [(a, .inr (13, [.int md, .ref dd, .int (nI k)])), (v, ek), (dd, .inl (5, N, .inr (.inr (.inr (.inr (va_up f k (some v)))))))]) rfl ?_
    refine r_aload_n d_AL_add_1_15 rfl 0 rfl ?_
    refine r_iload_n d_AL_add_1_16 rfl 3 rfl ?_
    refine r_iconst d_AL_add_1_17 (v := 1) (by decide) ?_
    refine r_iadd d_AL_add_1_18 (v := nI (k + 1)) (nI_add _ _) ?_
    refine r_put fp_AL_48 d_AL_add_1_19 (fun h => nomatch h) rfl rfl (q0 := 0) rfl (Nat.le_of_ble_eq_true rfl) (cs' := [(a, .inr (13, [.int md, .ref dd, .int (nI (k + 1))])), (v, ek), (dd, .inl (5, N, .inr (.inr (.inr (.inr (va_up f k (some v)))))))]) rfl ?_
    refine r_vret d_AL_add_1_22 rfl ?_
    exact ⟨rfl, rfl⟩
  · exact absurd c_3 (nI_nek hk hN)
set_option maxHeartbeats 4000000 in
set_option maxRecDepth 100000 in
theorem C_AL_addR (g : zG) (a v dd N k : Nat) (md : Int32) (f : Nat → Option Nat) (ek : zE) (ho : z_ob ek) (hk : k < N) (hN : N < 2 ^ 31) : CT g M_AL_add_0 [.ref a, .ref v] [(a, .inr (13, [.int md, .ref dd, .int (nI k)])), (v, ek), (dd, .inl (5, N, .inr (.inr (.inr (.inr f)))))] (fun o cs1 => o = .inl (some (.int 1)) ∧ cs1 = [(a, .inr (13, [.int (md + 1), .ref dd, .int (nI (k + 1))])), (v, ek), (dd, .inl (5, N, .inr (.inr (.inr (.inr (va_up f k (some v)))))))]) 0 0 := by
  refine z_of (by decide) rfl (Nat.le_of_ble_eq_true rfl) (fun w0 => ?_)
  refine r_lvE (lv2 := [(0, .ref a), (1, .ref v)]) rfl ?_
  refine r_aload_n d_AL_add_0_0 rfl 0 rfl ?_
  refine r_dup d_AL_add_0_1 rfl ?_
  refine r_get fs_AL_63 d_AL_add_0_2 (q0 := 0) rfl rfl ?_
  refine r_iconst d_AL_add_0_5 (v := 1) (by decide) ?_
  refine r_iadd d_AL_add_0_6 (v := md + 1) rfl ?_
  refine r_put fp_AL_63 d_AL_add_0_7 (fun h => nomatch h) rfl rfl (q0 := 0) rfl (Nat.le_of_ble_eq_true rfl) (cs' := [(a, .inr (13, [.int (md + 1), .ref dd, .int (nI k)])), (v, ek), (dd, .inl (5, N, .inr (.inr (.inr (.inr f)))))]) rfl ?_
  refine r_aload_n d_AL_add_0_10 rfl 0 rfl ?_
  refine r_aload_n d_AL_add_0_11 rfl 1 rfl ?_
  refine r_aload_n d_AL_add_0_12 rfl 0 rfl ?_
  refine r_get fs_AL_9 d_AL_add_0_13 (q0 := 0) rfl rfl ?_
  refine r_aload_n d_AL_add_0_16 rfl 0 rfl ?_
  refine r_get fs_AL_48 d_AL_add_0_17 (q0 := 0) rfl rfl ?_
  refine r_callV (As := [.ref v, .ref dd, .int (nI k)]) (rest := []) (csC := [(a, .inr (13, [.int (md + 1), .ref dd, .int (nI k)])), (v, ek), (dd, .inl (5, N, .inr (.inr (.inr (.inr f)))))]) (is := [0, 1, 2]) (q0 := 0) rfl rfl ln_AL_131 w_im_AL_add_1 w_se_AL_add_1 ok_AL_add_0_AL_add_1 d_AL_add_0_20 (C_AL_addAR g a v dd N k (md + 1) f ek ho hk hN) rfl rfl (Nat.le_of_ble_eq_true rfl) rfl (by decide) (by omega) (by omega) (fun E cs1 hx => ?_) (fun v cs1 hx => ?_)
  · exact absurd hx.1 (by simp)
  · obtain ⟨e1, rfl⟩ := hx
    cases e1
    refine ⟨rfl, ?_⟩
    refine r_st (st2 := []) rfl ?_
    refine r_cs (cs2 := [(a, .inr (13, [.int (md + 1), .ref dd, .int (nI (k + 1))])), (v, ek), (dd, .inl (5, N, .inr (.inr (.inr (.inr (va_up f k (some v)))))))]) rfl ?_
    refine r_iconst d_AL_add_0_23 (v := 1) (by decide) ?_
    refine r_iret d_AL_add_0_24 rfl rfl ?_
    exact ⟨rfl, rfl⟩
