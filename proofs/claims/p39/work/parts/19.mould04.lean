theorem w_st_Integer_bitCount : Cond.static M_Integer_bitCount.1 ∈ z_gw := z_mj6 (i := 230) rfl (by decide +kernel)
theorem d_Ca_barBears_53 : decode prog_2_method_5_code 53 = .ok (.imul, 1) := zo_104 (zd_b zq_prog_2_method_5_code_1 21 rfl rfl rfl)
theorem d_Ca_barBears_54 : decode prog_2_method_5_code 54 = .ok (.isub, 1) := zo_100 (zd_b zq_prog_2_method_5_code_1 22 rfl rfl rfl)
theorem d_Ca_barBears_55 : decode prog_2_method_5_code 55 = .ok (.invokestatic 33, 3) := zo_184 (d := 0) (e := 33) (zd_b zq_prog_2_method_5_code_1 23 rfl rfl rfl) (zd_b zq_prog_2_method_5_code_1 24 rfl rfl rfl) (zd_b zq_prog_2_method_5_code_1 25 rfl rfl rfl)
theorem d_Ca_barBears_58 : decode prog_2_method_5_code 58 = .ok (.ireturn, 1) := zo_172 (zd_b zq_prog_2_method_5_code_1 26 rfl rfl rfl)
theorem d_Ca_barBears_7 : decode prog_2_method_5_code 7 = .ok (.sipush 400, 3) := zo_17 (d := 1) (e := 144) (zd_b zq_prog_2_method_5_code_0 7 rfl rfl rfl) (zd_b zq_prog_2_method_5_code_0 8 rfl rfl rfl) (zd_b zq_prog_2_method_5_code_0 9 rfl rfl rfl) (by decide +kernel)
theorem d_Ca_barBears_10 : decode prog_2_method_5_code 10 = .ok (.iconst 2, 1) := zo_5 (zd_b zq_prog_2_method_5_code_0 10 rfl rfl rfl)
theorem d_Ca_barBears_11 : decode prog_2_method_5_code 11 = .ok (.aload_n 0, 1) := zo_42 (zd_b zq_prog_2_method_5_code_0 11 rfl rfl rfl)
theorem d_Ca_barBears_12 : decode prog_2_method_5_code 12 = .ok (.getfield 18, 3) := zo_180 (d := 0) (e := 18) (zd_b zq_prog_2_method_5_code_0 12 rfl rfl rfl) (zd_b zq_prog_2_method_5_code_0 13 rfl rfl rfl) (zd_b zq_prog_2_method_5_code_0 14 rfl rfl rfl)
theorem d_Ca_barBears_15 : decode prog_2_method_5_code 15 = .ok (.imul, 1) := zo_104 (zd_b zq_prog_2_method_5_code_0 15 rfl rfl rfl)
theorem d_Ca_barBears_16 : decode prog_2_method_5_code 16 = .ok (.iadd, 1) := zo_96 (zd_b zq_prog_2_method_5_code_0 16 rfl rfl rfl)
theorem d_Ca_barBears_17 : decode prog_2_method_5_code 17 = .ok (.goto 24, 3) := zo_167 (d := 0) (e := 24) (zd_b zq_prog_2_method_5_code_0 17 rfl rfl rfl) (zd_b zq_prog_2_method_5_code_0 18 rfl rfl rfl) (zd_b zq_prog_2_method_5_code_0 19 rfl rfl rfl) (by decide +kernel)
set_option maxHeartbeats 4000000 in
set_option maxRecDepth 100000 in
theorem C_Ca_barBears (g : zG) (a ab abg : Nat) (gr : Nat → Int64) (ir mg sh fb dl bk : Int32) : CT g M_Ca_barBears [.ref a] [(a, .inr (0, [.ref ab, .int mg, .int sh, .int fb, .int dl, .int bk])), (ab, .inr (6, [.ref abg, .int ir])), (abg, .inl (3, 4, .inr (.inl gr)))] (fun o cs1 => o = .inl (some (.int (bbI mg gr ir fb))) ∧ cs1 = [(a, .inr (0, [.ref ab, .int mg, .int sh, .int fb, .int dl, .int bk])), (ab, .inr (6, [.ref abg, .int ir])), (abg, .inl (3, 4, .inr (.inl gr)))]) 0 0 := by
  refine z_of (by decide) rfl (Nat.le_of_ble_eq_true rfl) (fun w0 => ?_)
  refine r_lvE (lv2 := [(0, .ref a)]) rfl ?_
  refine r_aload_n d_Ca_barBears_0 rfl 0 rfl ?_
  refine r_callV (As := []) (rest := []) (csC := [(a, .inr (0, [.ref ab, .int mg, .int sh, .int fb, .int dl, .int bk])), (ab, .inr (6, [.ref abg, .int ir])), (abg, .inl (3, 4, .inr (.inl gr)))]) (is := [0, 1, 2]) (q0 := 0) rfl rfl ln_Ca_26 w_im_Ca_isDuctile w_se_Ca_isDuctile ok_Ca_barBears_Ca_isDuctile d_Ca_barBears_1 (C_Ca_isDuctile g a ab abg gr ir mg sh fb dl bk) rfl rfl (Nat.le_of_ble_eq_true rfl) rfl (by decide) (by omega) (by omega) (fun E cs1 hx => ?_) (fun v cs1 hx => ?_)
  · exact absurd hx.1 (by simp)
  · obtain ⟨e1, rfl⟩ := hx
    cases e1
    refine ⟨rfl, ?_⟩
    refine r_st (st2 := [.int (if mg < 20 then 0 else 1)]) rfl ?_
    refine r_cs (cs2 := [(a, .inr (0, [.ref ab, .int mg, .int sh, .int fb, .int dl, .int bk])), (ab, .inr (6, [.ref abg, .int ir])), (abg, .inl (3, 4, .inr (.inl gr)))]) rfl ?_
    refine r_if_eq (tgt := 20) d_Ca_barBears_4 (by decide) (fun c_4 => ?_) (fun c_4 => ?_)
    · have hm : mg < 20 := Classical.byContradiction (fun q => by rw [if_neg q] at c_4; exact absurd c_4 (by decide))
      refine r_sipush d_Ca_barBears_20 (v := 500) (by decide) ?_
      refine r_iconst d_Ca_barBears_23 (v := 2) (by decide) ?_
      refine r_iconst d_Ca_barBears_24 (v := 0) (by decide) ?_
      refine r_aload_n d_Ca_barBears_25 rfl 0 rfl ?_
      refine r_get fs_Ca_12 d_Ca_barBears_26 (q0 := 0) rfl rfl ?_
      refine r_callV (As := []) (rest := [.int 0, .int 2, .int 500]) (csC := [(ab, .inr (6, [.ref abg, .int ir])), (abg, .inl (3, 4, .inr (.inl gr)))]) (is := [1, 2]) (q0 := 1) rfl rfl ln_Ca_22 w_im_Me_carbonAlike w_se_Me_carbonAlike ok_Ca_barBears_Me_carbonAlike d_Ca_barBears_29 (C_Me_carbonAlike g ab abg gr ir) rfl rfl (Nat.le_of_ble_eq_true rfl) rfl (by decide) (by omega) (by omega) (fun E cs1 hx => ?_) (fun v cs1 hx => ?_)
      · exact absurd hx.1 (by simp)
      · obtain ⟨e1, rfl⟩ := hx
        cases e1
        refine ⟨rfl, ?_⟩
        refine r_st (st2 := [.int (caI gr ir), .int 0, .int 2, .int 500]) rfl ?_
        refine r_cs (cs2 := [(a, .inr (0, [.ref ab, .int mg, .int sh, .int fb, .int dl, .int bk])), (ab, .inr (6, [.ref abg, .int ir])), (abg, .inl (3, 4, .inr (.inl gr)))]) rfl ?_
        refine r_sipush d_Ca_barBears_32 (v := 300) (by decide) ?_
        refine r_isub d_Ca_barBears_35 (v := (caI gr ir) - 300) rfl ?_
        refine r_max (v := (if 0 < (caI gr ir) - 300 then (caI gr ir) - 300 else 0)) ln_Ca_33 w_mmax w_mi w_cmax d_Ca_barBears_36 (by decide) (by decide) (Nat.le_of_ble_eq_true rfl) rfl ?_
        refine r_imul d_Ca_barBears_39 (v := 2 * (if 0 < caI gr ir - 300 then caI gr ir - 300 else 0)) rfl ?_
        refine r_isub d_Ca_barBears_40 (v := 500 - (2 * (if 0 < caI gr ir - 300 then caI gr ir - 300 else 0))) rfl ?_
        refine r_istore_n (lv' := [(1, .int (500 - (2 * (if 0 < caI gr ir - 300 then caI gr ir - 300 else 0)))), (0, .ref a)]) d_Ca_barBears_41 rfl (by decide) rfl ?_
        refine r_iconst d_Ca_barBears_42 (v := 0) (by decide) ?_
        refine r_iload_n d_Ca_barBears_43 rfl 0 rfl ?_
        refine r_bipush d_Ca_barBears_44 (v := 30) (by decide) ?_
        refine r_aload_n d_Ca_barBears_46 rfl 1 rfl ?_
        refine r_get fs_Ca_30 d_Ca_barBears_47 (q0 := 0) rfl rfl ?_
        refine r_callS (As := [.int fb]) (rest := [.int 30, .int (500 - (2 * (if 0 < caI gr ir - 300 then caI gr ir - 300 else 0))), .int 0]) (csC := []) (is := []) ln_Ca_39 w_st_Integer_bitCount ok_Ca_barBears_Integer_bitCount d_Ca_barBears_50 (C_In_bitCount g fb) rfl rfl (Nat.le_of_ble_eq_true rfl) rfl (by decide) (by omega) (by omega) (fun E cs1 hx => ?_) (fun v cs1 hx => ?_)
        · exact absurd hx.1 (by simp)
        · obtain ⟨e1, rfl⟩ := hx
          cases e1
          refine ⟨rfl, ?_⟩
          refine r_st (st2 := [.int (S_In_bitCount fb), .int 30, .int (500 - (2 * (if 0 < caI gr ir - 300 then caI gr ir - 300 else 0))), .int 0]) rfl ?_
          refine r_cs (cs2 := [(a, .inr (0, [.ref ab, .int mg, .int sh, .int fb, .int dl, .int bk])), (ab, .inr (6, [.ref abg, .int ir])), (abg, .inl (3, 4, .inr (.inl gr)))]) rfl ?_
          refine r_imul d_Ca_barBears_53 (v := 30 * S_In_bitCount fb) rfl ?_
          refine r_isub d_Ca_barBears_54 (v := (500 - (2 * (if 0 < caI gr ir - 300 then caI gr ir - 300 else 0))) - (30 * S_In_bitCount fb)) rfl ?_
          refine r_max (v := (if 0 < (500 - (2 * (if 0 < caI gr ir - 300 then caI gr ir - 300 else 0))) - (30 * S_In_bitCount fb) then (500 - (2 * (if 0 < caI gr ir - 300 then caI gr ir - 300 else 0))) - (30 * S_In_bitCount fb) else 0)) ln_Ca_33 w_mmax w_mi w_cmax d_Ca_barBears_55 (by decide) (by decide) (Nat.le_of_ble_eq_true rfl) rfl ?_
          refine r_iret d_Ca_barBears_58 rfl rfl ?_
          refine ⟨?_, rfl⟩
          first | (rw [bbI, show beI mg gr ir = _ from if_pos hm]) | (rw [bbI, show beI mg gr ir = _ from if_neg hm])
    · have hm : ¬ mg < 20 := fun q => c_4 (if_pos q)
      refine r_sipush d_Ca_barBears_7 (v := 400) (by decide) ?_
      refine r_iconst d_Ca_barBears_10 (v := 2) (by decide) ?_
      refine r_aload_n d_Ca_barBears_11 rfl 0 rfl ?_
      refine r_get fs_Ca_18 d_Ca_barBears_12 (q0 := 0) rfl rfl ?_
      refine r_imul d_Ca_barBears_15 (v := 2 * mg) rfl ?_
      refine r_iadd d_Ca_barBears_16 (v := 400 + (2 * mg)) rfl ?_
      refine r_goto (tgt := 41) d_Ca_barBears_17 (by decide) ?_
      refine r_istore_n (lv' := [(1, .int (400 + (2 * mg))), (0, .ref a)]) d_Ca_barBears_41 rfl (by decide) rfl ?_
      refine r_iconst d_Ca_barBears_42 (v := 0) (by decide) ?_
      refine r_iload_n d_Ca_barBears_43 rfl 0 rfl ?_
      refine r_bipush d_Ca_barBears_44 (v := 30) (by decide) ?_
      refine r_aload_n d_Ca_barBears_46 rfl 1 rfl ?_
      refine r_get fs_Ca_30 d_Ca_barBears_47 (q0 := 0) rfl rfl ?_
      refine r_callS (As := [.int fb]) (rest := [.int 30, .int (400 + (2 * mg)), .int 0]) (csC := []) (is := []) ln_Ca_39 w_st_Integer_bitCount ok_Ca_barBears_Integer_bitCount d_Ca_barBears_50 (C_In_bitCount g fb) rfl rfl (Nat.le_of_ble_eq_true rfl) rfl (by decide) (by omega) (by omega) (fun E cs1 hx => ?_) (fun v cs1 hx => ?_)
      · exact absurd hx.1 (by simp)
      · obtain ⟨e1, rfl⟩ := hx
        cases e1
        refine ⟨rfl, ?_⟩
        refine r_st (st2 := [.int (S_In_bitCount fb), .int 30, .int (400 + (2 * mg)), .int 0]) rfl ?_
        refine r_cs (cs2 := [(a, .inr (0, [.ref ab, .int mg, .int sh, .int fb, .int dl, .int bk])), (ab, .inr (6, [.ref abg, .int ir])), (abg, .inl (3, 4, .inr (.inl gr)))]) rfl ?_
        refine r_imul d_Ca_barBears_53 (v := 30 * S_In_bitCount fb) rfl ?_
        refine r_isub d_Ca_barBears_54 (v := (400 + (2 * mg)) - (30 * S_In_bitCount fb)) rfl ?_
        refine r_max (v := (if 0 < (400 + (2 * mg)) - (30 * S_In_bitCount fb) then (400 + (2 * mg)) - (30 * S_In_bitCount fb) else 0)) ln_Ca_33 w_mmax w_mi w_cmax d_Ca_barBears_55 (by decide) (by decide) (Nat.le_of_ble_eq_true rfl) rfl ?_
        refine r_iret d_Ca_barBears_58 rfl rfl ?_
        refine ⟨?_, rfl⟩
        first | (rw [bbI, show beI mg gr ir = _ from if_pos hm]) | (rw [bbI, show beI mg gr ir = _ from if_neg hm])

