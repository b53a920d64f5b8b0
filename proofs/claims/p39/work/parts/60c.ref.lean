set_option maxHeartbeats 4000000 in
set_option maxRecDepth 100000 in
theorem L_Mm_speedIn_4 (g : zG) (b : Nat) (f : Nat → Int32) (hG : ¬ fa_cnt (fun k => decide (f k = 103)) 12 = 0) (w0 : zW) (n : Nat) : ∀ (d i : Nat), i ≤ 108 → 108 < i + d → DV g M_Mm_speedIn (fun o cs1 => o = .inl (some (.int (rsR f))) ∧ cs1 = [(b, .inl (1, 108, .inl f))]) w0 n 4 [(2, .int (nI i)), (1, .int (nI (rsS f i))), (0, .ref b)] [] [(b, .inl (1, 108, .inl f))] 0 0 := by
  intro d
  induction d with
  | zero => intro i h1 h2 ; exact absurd h2 (by omega)
  | succ d ih =>
    intro i h1 h2 
    refine r_iload_n d_Mm_speedIn_4 rfl 0 rfl ?_
    refine r_bipush d_Mm_speedIn_5 (v := 108) (by decide) ?_
    refine r_icmp_ge (tgt := 35) d_Mm_speedIn_7 (by decide) (fun c_7 => ?_) (fun c_7 => ?_)
    · have hn := z_le (a := 108) (by omega) (by decide) c_7
      obtain rfl : i = 108 := by omega
      refine r_bipush d_Mm_speedIn_35 (v := 60) (by decide) ?_
      refine r_iload_n d_Mm_speedIn_37 rfl 1 rfl ?_
      refine r_imul d_Mm_speedIn_38 (v := nI (60 * (rsS f 108))) (pk_mul _ _) ?_
      refine r_aload_n d_Mm_speedIn_39 rfl 2 rfl ?_
      refine r_callS (As := [.ref b]) (rest := [.int (nI (60 * (rsS f 108)))]) (csC := [(b, .inl (1, 108, .inl f))]) (is := [0]) ln_Mm_137 w_st_Mm_gates ok_Mm_speedIn_Mm_gates d_Mm_speedIn_40 (C_Mm_gates g b f) rfl rfl (Nat.le_of_ble_eq_true rfl) rfl (by decide) (by omega) (by omega) (fun E cs1 hx => ?_) (fun v cs1 hx => ?_)
      · exact absurd hx.1 (by simp)
      · obtain ⟨e1, rfl⟩ := hx
        cases e1
        refine ⟨rfl, ?_⟩
        refine r_st (st2 := [.int (nI (fa_cnt (fun k => decide (f k = 103)) 12)), .int (nI (60 * (rsS f 108)))]) rfl ?_
        refine r_cs (cs2 := [(b, .inl (1, 108, .inl f))]) rfl ?_
        refine r_idiv d_Mm_speedIn_43 (v := nI (60 * rsS f 108) / nI (fa_cnt (fun k => decide (f k = 103)) 12)) (fun q => hG (nI_z (Nat.lt_of_le_of_lt (fa_cnt_le _ 12) (by decide)) q)) rfl ?_
        refine r_iret d_Mm_speedIn_44 rfl rfl ?_
        exact ⟨by rw [rsR, if_neg hG], rfl⟩
    · have hn := z_nle (a := 108) (by omega) (by decide) c_7
      refine r_aload_n d_Mm_speedIn_10 rfl 2 rfl ?_
      refine r_iload_n d_Mm_speedIn_11 rfl 0 rfl ?_
      refine r_cald d_Mm_speedIn_12 (q0 := 0) rfl (vp_in_nI (by omega) (by omega)) (v := f i) (by rw [nI_clamp (by omega)]) ?_
      refine r_bipush d_Mm_speedIn_13 (v := 103) (by decide) ?_
      refine r_icmp_ne (tgt := 27) d_Mm_speedIn_15 (by decide) (fun c_15 => ?_) (fun c_15 => ?_)
      · refine r_iload_n d_Mm_speedIn_27 rfl 1 rfl ?_
        refine r_istore_n (lv' := [(1, .int (nI (rsS f i))), (2, .int (nI i)), (0, .ref b)]) d_Mm_speedIn_28 rfl (by decide) rfl ?_
        refine r_iinc (lv' := [(2, .int (nI (i + 1))), (1, .int (nI (rsS f i))), (0, .ref b)]) (v := nI (i + 1)) d_Mm_speedIn_29 (j := 1) rfl (nI_add _ _) (by decide) rfl ?_
        refine r_goto (tgt := 4) d_Mm_speedIn_32 (by decide) ?_
        refine r_lvE (lv2 := [(2, .int (nI (i + 1))), (1, .int (nI (rsS f (i + 1)))), (0, .ref b)]) (by first | (rw [show rsS f (i + 1) = i / 12 + 1 from if_pos c_15] <;> rfl) | (rw [show rsS f (i + 1) = rsS f i from if_neg c_15] <;> rfl)) ?_
        refine r_cs (cs2 := [(b, .inl (1, 108, .inl f))]) (rfl) ?_
        exact ih (i + 1) (by omega) (by omega)
      · refine r_iload_n d_Mm_speedIn_18 rfl 0 rfl ?_
        refine r_bipush d_Mm_speedIn_19 (v := 12) (by decide) ?_
        refine r_idiv d_Mm_speedIn_21 (v := nI (i / 12)) (by decide) (nI_div12 (by omega)) ?_
        refine r_iconst d_Mm_speedIn_22 (v := 1) (by decide) ?_
        refine r_iadd d_Mm_speedIn_23 (v := nI ((i / 12) + 1)) (nI_add _ _) ?_
        refine r_goto (tgt := 28) d_Mm_speedIn_24 (by decide) ?_
        refine r_istore_n (lv' := [(1, .int (nI ((i / 12) + 1))), (2, .int (nI i)), (0, .ref b)]) d_Mm_speedIn_28 rfl (by decide) rfl ?_
        refine r_iinc (lv' := [(2, .int (nI (i + 1))), (1, .int (nI ((i / 12) + 1))), (0, .ref b)]) (v := nI (i + 1)) d_Mm_speedIn_29 (j := 1) rfl (nI_add _ _) (by decide) rfl ?_
        refine r_goto (tgt := 4) d_Mm_speedIn_32 (by decide) ?_
        refine r_lvE (lv2 := [(2, .int (nI (i + 1))), (1, .int (nI (rsS f (i + 1)))), (0, .ref b)]) (by first | (rw [show rsS f (i + 1) = i / 12 + 1 from if_pos c_15] <;> rfl) | (rw [show rsS f (i + 1) = rsS f i from if_neg c_15] <;> rfl)) ?_
        refine r_cs (cs2 := [(b, .inl (1, 108, .inl f))]) (rfl) ?_
        exact ih (i + 1) (by omega) (by omega)
set_option maxHeartbeats 4000000 in
set_option maxRecDepth 100000 in
theorem C_Mm_speedIn (g : zG) (b : Nat) (f : Nat → Int32) (hG : ¬ fa_cnt (fun k => decide (f k = 103)) 12 = 0) : CT g M_Mm_speedIn [.ref b] [(b, .inl (1, 108, .inl f))] (fun o cs1 => o = .inl (some (.int (rsR f))) ∧ cs1 = [(b, .inl (1, 108, .inl f))]) 0 0 := by
  refine z_of (by decide) rfl (Nat.le_of_ble_eq_true rfl) (fun w0 => ?_)
  refine r_lvE (lv2 := [(0, .ref b)]) rfl ?_
  refine r_iconst d_Mm_speedIn_0 (v := 0) (by decide) ?_
  refine r_istore_n (lv' := [(1, .int 0), (0, .ref b)]) d_Mm_speedIn_1 rfl (by decide) rfl ?_
  refine r_iconst d_Mm_speedIn_2 (v := 0) (by decide) ?_
  refine r_istore_n (lv' := [(2, .int 0), (1, .int 0), (0, .ref b)]) d_Mm_speedIn_3 rfl (by decide) rfl ?_
  refine r_lvE (lv2 := [(2, .int (nI 0)), (1, .int (nI (rsS f 0))), (0, .ref b)]) (rfl) ?_
  refine r_cs (cs2 := [(b, .inl (1, 108, .inl f))]) (rfl) ?_
  exact L_Mm_speedIn_4 g b f hG w0 _  (108 + 1) 0 (Nat.zero_le _) (by omega)
