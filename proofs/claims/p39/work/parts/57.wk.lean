theorem nI_z {a : Nat} (h : a < 2 ^ 31) (q : nI a = 0) : a = 0 := by
  by_cases e : a = 0
  · exact e
  · have h1 : nI 0 < nI a := (nI_ltI (by decide) h).mpr (by omega)
    rw [q] at h1
    exact absurd h1 (by decide)
theorem z_l0 {x : Int32} (h : ¬ x = 0) : ¬ x.toInt64 = 0 := fun q => h (by have := congrArg Int64.toInt32 q; simpa using this)
abbrev M_Mm_speedIn : zM := (⟨"IronpourModel", "speedIn", "([C)I"⟩, prog_14_method_25_code, 3, (Option.some FieldType.int), 2, 42, [])
theorem d_Mm_speedIn_4 : decode prog_14_method_25_code 4 = .ok (.iload_n 2, 1) := zo_28 (zd_b zq_prog_14_method_25_code_0 4 rfl rfl rfl)
theorem d_Mm_speedIn_5 : decode prog_14_method_25_code 5 = .ok (.bipush 108, 2) := zo_16 (d := 108) (zd_b zq_prog_14_method_25_code_0 5 rfl rfl rfl) (zd_b zq_prog_14_method_25_code_0 6 rfl rfl rfl) (by decide +kernel)
theorem d_Mm_speedIn_7 : decode prog_14_method_25_code 7 = .ok (.if_icmp .ge 28, 3) := zo_162 (d := 0) (e := 28) (zd_b zq_prog_14_method_25_code_0 7 rfl rfl rfl) (zd_b zq_prog_14_method_25_code_0 8 rfl rfl rfl) (zd_b zq_prog_14_method_25_code_0 9 rfl rfl rfl) (by decide +kernel)
theorem d_Mm_speedIn_35 : decode prog_14_method_25_code 35 = .ok (.bipush 60, 2) := zo_16 (d := 60) (zd_b zq_prog_14_method_25_code_1 3 rfl rfl rfl) (zd_b zq_prog_14_method_25_code_1 4 rfl rfl rfl) (by decide +kernel)
theorem d_Mm_speedIn_37 : decode prog_14_method_25_code 37 = .ok (.iload_n 1, 1) := zo_27 (zd_b zq_prog_14_method_25_code_1 5 rfl rfl rfl)
theorem d_Mm_speedIn_38 : decode prog_14_method_25_code 38 = .ok (.imul, 1) := zo_104 (zd_b zq_prog_14_method_25_code_1 6 rfl rfl rfl)
theorem d_Mm_speedIn_39 : decode prog_14_method_25_code 39 = .ok (.aload_n 0, 1) := zo_42 (zd_b zq_prog_14_method_25_code_1 7 rfl rfl rfl)
theorem d_Mm_speedIn_40 : decode prog_14_method_25_code 40 = .ok (.invokestatic 137, 3) := zo_184 (d := 0) (e := 137) (zd_b zq_prog_14_method_25_code_1 8 rfl rfl rfl) (zd_b zq_prog_14_method_25_code_1 9 rfl rfl rfl) (zd_b zq_prog_14_method_25_code_1 10 rfl rfl rfl)
theorem ok_Mm_speedIn_Mm_gates : z_ok M_Mm_speedIn M_Mm_gates 1 := ⟨z_mj8 (i := 18) rfl (by decide +kernel), rfl, ⟨by decide +kernel, by decide +kernel, by decide +kernel⟩, ⟨by decide, by decide⟩, z_mj1 (i := 14) rfl (by decide +kernel), rfl⟩
theorem d_Mm_speedIn_43 : decode prog_14_method_25_code 43 = .ok (.idiv, 1) := zo_108 (zd_b zq_prog_14_method_25_code_1 11 rfl rfl rfl)
theorem d_Mm_speedIn_44 : decode prog_14_method_25_code 44 = .ok (.ireturn, 1) := zo_172 (zd_b zq_prog_14_method_25_code_1 12 rfl rfl rfl)
theorem d_Mm_speedIn_10 : decode prog_14_method_25_code 10 = .ok (.aload_n 0, 1) := zo_42 (zd_b zq_prog_14_method_25_code_0 10 rfl rfl rfl)
theorem d_Mm_speedIn_11 : decode prog_14_method_25_code 11 = .ok (.iload_n 2, 1) := zo_28 (zd_b zq_prog_14_method_25_code_0 11 rfl rfl rfl)
theorem d_Mm_speedIn_12 : decode prog_14_method_25_code 12 = .ok (.caload, 1) := zo_52 (zd_b zq_prog_14_method_25_code_0 12 rfl rfl rfl)
theorem d_Mm_speedIn_13 : decode prog_14_method_25_code 13 = .ok (.bipush 103, 2) := zo_16 (d := 103) (zd_b zq_prog_14_method_25_code_0 13 rfl rfl rfl) (zd_b zq_prog_14_method_25_code_0 14 rfl rfl rfl) (by decide +kernel)
theorem d_Mm_speedIn_15 : decode prog_14_method_25_code 15 = .ok (.if_icmp .ne 12, 3) := zo_160 (d := 0) (e := 12) (zd_b zq_prog_14_method_25_code_0 15 rfl rfl rfl) (zd_b zq_prog_14_method_25_code_0 16 rfl rfl rfl) (zd_b zq_prog_14_method_25_code_0 17 rfl rfl rfl) (by decide +kernel)
theorem d_Mm_speedIn_27 : decode prog_14_method_25_code 27 = .ok (.iload_n 1, 1) := zo_27 (zd_b zq_prog_14_method_25_code_0 27 rfl rfl rfl)
theorem d_Mm_speedIn_28 : decode prog_14_method_25_code 28 = .ok (.istore_n 1, 1) := zo_60 (zd_b zq_prog_14_method_25_code_0 28 rfl rfl rfl)
theorem d_Mm_speedIn_29 : decode prog_14_method_25_code 29 = .ok (.iinc 2 1, 3) := by decide +kernel
theorem d_Mm_speedIn_32 : decode prog_14_method_25_code 32 = .ok (.goto (-28), 3) := zo_167 (d := 255) (e := 228) (zd_b zq_prog_14_method_25_code_1 0 rfl rfl rfl) (zd_b zq_prog_14_method_25_code_1 1 rfl rfl rfl) (zd_b zq_prog_14_method_25_code_1 2 rfl rfl rfl) (by decide +kernel)
theorem d_Mm_speedIn_18 : decode prog_14_method_25_code 18 = .ok (.iload_n 2, 1) := zo_28 (zd_b zq_prog_14_method_25_code_0 18 rfl rfl rfl)
theorem d_Mm_speedIn_19 : decode prog_14_method_25_code 19 = .ok (.bipush 12, 2) := zo_16 (d := 12) (zd_b zq_prog_14_method_25_code_0 19 rfl rfl rfl) (zd_b zq_prog_14_method_25_code_0 20 rfl rfl rfl) (by decide +kernel)
theorem d_Mm_speedIn_21 : decode prog_14_method_25_code 21 = .ok (.idiv, 1) := zo_108 (zd_b zq_prog_14_method_25_code_0 21 rfl rfl rfl)
theorem d_Mm_speedIn_22 : decode prog_14_method_25_code 22 = .ok (.iconst 1, 1) := zo_4 (zd_b zq_prog_14_method_25_code_0 22 rfl rfl rfl)
theorem d_Mm_speedIn_23 : decode prog_14_method_25_code 23 = .ok (.iadd, 1) := zo_96 (zd_b zq_prog_14_method_25_code_0 23 rfl rfl rfl)
theorem d_Mm_speedIn_24 : decode prog_14_method_25_code 24 = .ok (.goto 4, 3) := zo_167 (d := 0) (e := 4) (zd_b zq_prog_14_method_25_code_0 24 rfl rfl rfl) (zd_b zq_prog_14_method_25_code_0 25 rfl rfl rfl) (zd_b zq_prog_14_method_25_code_0 26 rfl rfl rfl) (by decide +kernel)
theorem d_Mm_speedIn_0 : decode prog_14_method_25_code 0 = .ok (.iconst 0, 1) := zo_3 (zd_b zq_prog_14_method_25_code_0 0 rfl rfl rfl)
theorem d_Mm_speedIn_1 : decode prog_14_method_25_code 1 = .ok (.istore_n 1, 1) := zo_60 (zd_b zq_prog_14_method_25_code_0 1 rfl rfl rfl)
theorem d_Mm_speedIn_2 : decode prog_14_method_25_code 2 = .ok (.iconst 0, 1) := zo_3 (zd_b zq_prog_14_method_25_code_0 2 rfl rfl rfl)
theorem d_Mm_speedIn_3 : decode prog_14_method_25_code 3 = .ok (.istore_n 2, 1) := zo_61 (zd_b zq_prog_14_method_25_code_0 3 rfl rfl rfl)
set_option maxHeartbeats 4000000 in
set_option maxRecDepth 100000 in
theorem L_Mm_speedInW_4 (g : zG) (b : Nat) (f : Nat → Int32) (hG : ¬ fa_cnt (fun k => decide (f k = 103)) 12 = 0) (w0 : zW) (n : Nat) : ∀ (d i : Nat) (lo : Int32), i ≤ 108 → 108 < i + d → DV g M_Mm_speedIn (fun o cs1 => ∃ v9 : Int32, o = .inl (some (.int v9)) ∧ cs1 = [(b, .inl (1, 108, .inl f))]) w0 n 4 [(2, .int (nI i)), (1, .int lo), (0, .ref b)] [] [(b, .inl (1, 108, .inl f))] 0 0 := by
  intro d
  induction d with
  | zero => intro i lo h1 h2 ; exact absurd h2 (by omega)
  | succ d ih =>
    intro i lo h1 h2 
    refine r_iload_n d_Mm_speedIn_4 rfl 0 rfl ?_
    refine r_bipush d_Mm_speedIn_5 (v := 108) (by decide) ?_
    refine r_icmp_ge (tgt := 35) d_Mm_speedIn_7 (by decide) (fun c_7 => ?_) (fun c_7 => ?_)
    · have hn := z_le (a := 108) (by omega) (by decide) c_7
      obtain rfl : i = 108 := by omega
      refine r_bipush d_Mm_speedIn_35 (v := 60) (by decide) ?_
      refine r_iload_n d_Mm_speedIn_37 rfl 1 rfl ?_
      refine r_imul d_Mm_speedIn_38 (v := 60 * lo) rfl ?_
      refine r_aload_n d_Mm_speedIn_39 rfl 2 rfl ?_
      refine r_callS (As := [.ref b]) (rest := [.int (60 * lo)]) (csC := [(b, .inl (1, 108, .inl f))]) (is := [0]) ln_Mm_137 w_st_Mm_gates ok_Mm_speedIn_Mm_gates d_Mm_speedIn_40 (C_Mm_gates g b f) rfl rfl (Nat.le_of_ble_eq_true rfl) rfl (by decide) (by omega) (by omega) (fun E cs1 hx => ?_) (fun v cs1 hx => ?_)
      · exact absurd hx.1 (by simp)
      · obtain ⟨e1, rfl⟩ := hx
        cases e1
        refine ⟨rfl, ?_⟩
        refine r_st (st2 := [.int (nI (fa_cnt (fun k => decide (f k = 103)) 12)), .int (60 * lo)]) rfl ?_
        refine r_cs (cs2 := [(b, .inl (1, 108, .inl f))]) rfl ?_
        refine r_idiv d_Mm_speedIn_43 (v := (60 * lo) / (nI (fa_cnt (fun k => decide (f k = 103)) 12))) (fun q => hG (nI_z (Nat.lt_of_le_of_lt (fa_cnt_le _ 12) (by decide)) q)) rfl ?_
        refine r_iret d_Mm_speedIn_44 rfl rfl ?_
        exact ⟨_, rfl, rfl⟩
    · have hn := z_nle (a := 108) (by omega) (by decide) c_7
      refine r_aload_n d_Mm_speedIn_10 rfl 2 rfl ?_
      refine r_iload_n d_Mm_speedIn_11 rfl 0 rfl ?_
      refine r_cald d_Mm_speedIn_12 (q0 := 0) rfl (vp_in_nI (by omega) (by omega)) (v := f i) (by rw [nI_clamp (by omega)]) ?_
      refine r_bipush d_Mm_speedIn_13 (v := 103) (by decide) ?_
      refine r_icmp_ne (tgt := 27) d_Mm_speedIn_15 (by decide) (fun c_15 => ?_) (fun c_15 => ?_)
      · refine r_iload_n d_Mm_speedIn_27 rfl 1 rfl ?_
        refine r_istore_n (lv' := [(1, .int lo), (2, .int (nI i)), (0, .ref b)]) d_Mm_speedIn_28 rfl (by decide) rfl ?_
        refine r_iinc (lv' := [(2, .int (nI (i + 1))), (1, .int lo), (0, .ref b)]) (v := nI (i + 1)) d_Mm_speedIn_29 (j := 1) rfl (nI_add _ _) (by decide) rfl ?_
        refine r_goto (tgt := 4) d_Mm_speedIn_32 (by decide) ?_
        exact ih (i + 1) _ (by omega) (by omega)
      · refine r_iload_n d_Mm_speedIn_18 rfl 0 rfl ?_
        refine r_bipush d_Mm_speedIn_19 (v := 12) (by decide) ?_
        refine r_idiv d_Mm_speedIn_21 (v := (nI i) / 12) (by decide) rfl ?_
        refine r_iconst d_Mm_speedIn_22 (v := 1) (by decide) ?_
        refine r_iadd d_Mm_speedIn_23 (v := ((nI i) / 12) + 1) rfl ?_
        refine r_goto (tgt := 28) d_Mm_speedIn_24 (by decide) ?_
        refine r_istore_n (lv' := [(1, .int (((nI i) / 12) + 1)), (2, .int (nI i)), (0, .ref b)]) d_Mm_speedIn_28 rfl (by decide) rfl ?_
        refine r_iinc (lv' := [(2, .int (nI (i + 1))), (1, .int (((nI i) / 12) + 1)), (0, .ref b)]) (v := nI (i + 1)) d_Mm_speedIn_29 (j := 1) rfl (nI_add _ _) (by decide) rfl ?_
        refine r_goto (tgt := 4) d_Mm_speedIn_32 (by decide) ?_
        exact ih (i + 1) _ (by omega) (by omega)
set_option maxHeartbeats 4000000 in
set_option maxRecDepth 100000 in
theorem C_Mm_speedInW (g : zG) (b : Nat) (f : Nat → Int32) (hG : ¬ fa_cnt (fun k => decide (f k = 103)) 12 = 0) : CT g M_Mm_speedIn [.ref b] [(b, .inl (1, 108, .inl f))] (fun o cs1 => ∃ v9 : Int32, o = .inl (some (.int v9)) ∧ cs1 = [(b, .inl (1, 108, .inl f))]) 0 0 := by
  refine z_of (by decide) rfl (Nat.le_of_ble_eq_true rfl) (fun w0 => ?_)
  refine r_lvE (lv2 := [(0, .ref b)]) rfl ?_
  refine r_iconst d_Mm_speedIn_0 (v := 0) (by decide) ?_
  refine r_istore_n (lv' := [(1, .int 0), (0, .ref b)]) d_Mm_speedIn_1 rfl (by decide) rfl ?_
  refine r_iconst d_Mm_speedIn_2 (v := 0) (by decide) ?_
  refine r_istore_n (lv' := [(2, .int 0), (1, .int 0), (0, .ref b)]) d_Mm_speedIn_3 rfl (by decide) rfl ?_
  exact L_Mm_speedInW_4 g b f hG w0 _  (108 + 1) 0 _ (Nat.zero_le _) (by omega)
theorem d_Mm_speed_20 : decode prog_14_method_26_code 20 = .ok (.iconst 0, 1) := zo_3 (zd_b zq_prog_14_method_26_code_0 20 rfl rfl rfl)
theorem d_Mm_speed_32 : decode prog_14_method_26_code 32 = .ok (.aload_n 0, 1) := zo_42 (zd_b zq_prog_14_method_26_code_1 0 rfl rfl rfl)
theorem d_Mm_speed_33 : decode prog_14_method_26_code 33 = .ok (.getfield 7, 3) := zo_180 (d := 0) (e := 7) (zd_b zq_prog_14_method_26_code_1 1 rfl rfl rfl) (zd_b zq_prog_14_method_26_code_1 2 rfl rfl rfl) (zd_b zq_prog_14_method_26_code_1 3 rfl rfl rfl)
theorem d_Mm_speed_36 : decode prog_14_method_26_code 36 = .ok (.invokestatic 147, 3) := zo_184 (d := 0) (e := 147) (zd_b zq_prog_14_method_26_code_1 4 rfl rfl rfl) (zd_b zq_prog_14_method_26_code_1 5 rfl rfl rfl) (zd_b zq_prog_14_method_26_code_1 6 rfl rfl rfl)
theorem ok_Mm_speed_Mm_speedIn : z_ok M_Mm_speed M_Mm_speedIn 1 := ⟨z_mj8 (i := 29) rfl (by decide +kernel), rfl, ⟨by decide +kernel, by decide +kernel, by decide +kernel⟩, ⟨by decide, by decide⟩, z_mj1 (i := 14) rfl (by decide +kernel), rfl⟩
theorem ln_Mm_147 : Cond.methodLink "IronpourModel" 147 M_Mm_speedIn.1 ∈ z_gw := z_mj8 (i := 27) rfl (by decide +kernel)
theorem w_st_Mm_speedIn : Cond.static M_Mm_speedIn.1 ∈ z_gw := z_mj8 (i := 28) rfl (by decide +kernel)
set_option maxHeartbeats 4000000 in
set_option maxRecDepth 100000 in
theorem C_Mm_speedW (g : zG) (m mp mf mh mn mt mz mc_ mq mgr ml mi mr mm mu mk mx : Nat) (th pt cl wa co_ fi bu ho lh mg wd fpi fal : Int32) (po de : Int64) (f : Nat → Int32) : CT g M_Mm_speed [.ref m] [(m, .inr (12, [.int th, .ref mp, .int pt, .ref mf, .ref mh, .ref mn, .ref mt, .ref mz, .ref mc_, .ref mq, .ref mgr, .int cl, .int wa, .int co_, .int fi, .int bu, .int ho, .ref ml, .ref mi, .ref mr, .int lh, .int mg, .int wd, .int fpi, .int fal, .ref mm, .ref mu, .ref mk, .ref mx, .long po, .long de])), (mp, .inl (1, 108, .inl f))] (fun o cs1 => ∃ v9 th9 : Int32, o = .inl (some (.int v9)) ∧ cs1 = [(m, .inr (12, [.int th9, .ref mp, .int pt, .ref mf, .ref mh, .ref mn, .ref mt, .ref mz, .ref mc_, .ref mq, .ref mgr, .int cl, .int wa, .int co_, .int fi, .int bu, .int ho, .ref ml, .ref mi, .ref mr, .int lh, .int mg, .int wd, .int fpi, .int fal, .ref mm, .ref mu, .ref mk, .ref mx, .long po, .long de])), (mp, .inl (1, 108, .inl f))]) 0 0 := by
  refine z_of (by decide) rfl (Nat.le_of_ble_eq_true rfl) (fun w0 => ?_)
  refine r_lvE (lv2 := [(0, .ref m)]) rfl ?_
  refine r_aload_n d_Mm_speed_0 rfl 0 rfl ?_
  refine r_iconst d_Mm_speed_1 (v := 0) (by decide) ?_
  refine r_put fp_Mm_84 d_Mm_speed_2 (fun h => nomatch h) rfl rfl (q0 := 0) rfl (Nat.le_of_ble_eq_true rfl) (cs' := [(m, .inr (12, [.int 0, .ref mp, .int pt, .ref mf, .ref mh, .ref mn, .ref mt, .ref mz, .ref mc_, .ref mq, .ref mgr, .int cl, .int wa, .int co_, .int fi, .int bu, .int ho, .ref ml, .ref mi, .ref mr, .int lh, .int mg, .int wd, .int fpi, .int fal, .ref mm, .ref mu, .ref mk, .ref mx, .long po, .long de])), (mp, .inl (1, 108, .inl f))]) rfl ?_
  refine r_aload_n d_Mm_speed_5 rfl 0 rfl ?_
  refine r_aload_n d_Mm_speed_6 rfl 0 rfl ?_
  refine r_get fs_Mm_7 d_Mm_speed_7 (q0 := 0) rfl rfl ?_
  refine r_callS (As := [.ref mp]) (rest := [.ref m]) (csC := [(mp, .inl (1, 108, .inl f))]) (is := [1]) ln_Mm_137 w_st_Mm_gates ok_Mm_speed_Mm_gates d_Mm_speed_10 (C_Mm_gates g mp f) rfl rfl (Nat.le_of_ble_eq_true rfl) rfl (by decide) (by omega) (by omega) (fun E cs1 hx => ?_) (fun v cs1 hx => ?_)
  · exact absurd hx.1 (by simp)
  · obtain ⟨e1, rfl⟩ := hx
    cases e1
    refine ⟨rfl, ?_⟩
    refine r_st (st2 := [.int (nI (fa_cnt (fun k => decide (f k = 103)) 12)), .ref m]) rfl ?_
    refine r_cs (cs2 := [(m, .inr (12, [.int 0, .ref mp, .int pt, .ref mf, .ref mh, .ref mn, .ref mt, .ref mz, .ref mc_, .ref mq, .ref mgr, .int cl, .int wa, .int co_, .int fi, .int bu, .int ho, .ref ml, .ref mi, .ref mr, .int lh, .int mg, .int wd, .int fpi, .int fal, .ref mm, .ref mu, .ref mk, .ref mx, .long po, .long de])), (mp, .inl (1, 108, .inl f))]) rfl ?_
    refine r_if_ne (tgt := 20) d_Mm_speed_13 (by decide) (fun c_13 => ?_) (fun c_13 => ?_)
    · refine r_iconst d_Mm_speed_20 (v := 0) (by decide) ?_
      refine r_iconst d_Mm_speed_21 (v := 1) (by decide) ?_
      refine r_callV (As := [.int 0, .int 1]) (rest := []) (csC := [(m, .inr (12, [.int 0, .ref mp, .int pt, .ref mf, .ref mh, .ref mn, .ref mt, .ref mz, .ref mc_, .ref mq, .ref mgr, .int cl, .int wa, .int co_, .int fi, .int bu, .int ho, .ref ml, .ref mi, .ref mr, .int lh, .int mg, .int wd, .int fpi, .int fal, .ref mm, .ref mu, .ref mk, .ref mx, .long po, .long de]))]) (is := [0]) (q0 := 0) rfl rfl ln_Mm_103 w_im_Mm_fails w_se_Mm_fails ok_Mm_speed_Mm_fails d_Mm_speed_22 (C_Mm_fails0 g m mp mf mh mn mt mz mc_ mq mgr ml mi mr mm mu mk mx th pt cl wa co_ fi bu ho lh mg wd fpi fal po de 1) rfl rfl (Nat.le_of_ble_eq_true rfl) rfl (by decide) (by omega) (by omega) (fun E cs1 hx => ?_) (fun v cs1 hx => ?_)
      · exact absurd hx.1 (by simp)
      · obtain ⟨e1, rfl⟩ := hx
        cases e1
        refine ⟨rfl, ?_⟩
        refine r_st (st2 := [.int 0]) rfl ?_
        refine r_cs (cs2 := [(m, .inr (12, [.int 0, .ref mp, .int pt, .ref mf, .ref mh, .ref mn, .ref mt, .ref mz, .ref mc_, .ref mq, .ref mgr, .int cl, .int wa, .int co_, .int fi, .int bu, .int ho, .ref ml, .ref mi, .ref mr, .int lh, .int mg, .int wd, .int fpi, .int fal, .ref mm, .ref mu, .ref mk, .ref mx, .long po, .long de])), (mp, .inl (1, 108, .inl f))]) rfl ?_
        refine r_if_eq (tgt := 32) d_Mm_speed_25 (by decide) (fun c_25 => ?_) (fun c_25 => ?_)
        · refine r_aload_n d_Mm_speed_32 rfl 0 rfl ?_
          refine r_get fs_Mm_7 d_Mm_speed_33 (q0 := 0) rfl rfl ?_
          refine r_callS (As := [.ref mp]) (rest := []) (csC := [(mp, .inl (1, 108, .inl f))]) (is := [1]) ln_Mm_147 w_st_Mm_speedIn ok_Mm_speed_Mm_speedIn d_Mm_speed_36 (C_Mm_speedInW g mp f (fun e => c_13 (by rw [e]; rfl))) rfl rfl (Nat.le_of_ble_eq_true rfl) rfl (by decide) (by omega) (by omega) (fun E cs1 hx => ?_) (fun v cs1 hx => ?_)
          · obtain ⟨v9, e1, -⟩ := hx
            cases e1
          · obtain ⟨v9, e1, rfl⟩ := hx
            cases e1
            refine ⟨rfl, ?_⟩
            refine r_st (st2 := [.int v9]) rfl ?_
            refine r_cs (cs2 := [(m, .inr (12, [.int 0, .ref mp, .int pt, .ref mf, .ref mh, .ref mn, .ref mt, .ref mz, .ref mc_, .ref mq, .ref mgr, .int cl, .int wa, .int co_, .int fi, .int bu, .int ho, .ref ml, .ref mi, .ref mr, .int lh, .int mg, .int wd, .int fpi, .int fal, .ref mm, .ref mu, .ref mk, .ref mx, .long po, .long de])), (mp, .inl (1, 108, .inl f))]) rfl ?_
            refine r_iret d_Mm_speed_39 rfl rfl ?_
            exact ⟨_, _, rfl, rfl⟩
        · exact absurd c_25 (by decide)
    · refine r_iconst d_Mm_speed_16 (v := 1) (by decide) ?_
      refine r_goto (tgt := 21) d_Mm_speed_17 (by decide) ?_
      refine r_iconst d_Mm_speed_21 (v := 1) (by decide) ?_
      refine r_callV (As := [.int 1, .int 1]) (rest := []) (csC := [(m, .inr (12, [.int 0, .ref mp, .int pt, .ref mf, .ref mh, .ref mn, .ref mt, .ref mz, .ref mc_, .ref mq, .ref mgr, .int cl, .int wa, .int co_, .int fi, .int bu, .int ho, .ref ml, .ref mi, .ref mr, .int lh, .int mg, .int wd, .int fpi, .int fal, .ref mm, .ref mu, .ref mk, .ref mx, .long po, .long de]))]) (is := [0]) (q0 := 0) rfl rfl ln_Mm_103 w_im_Mm_fails w_se_Mm_fails ok_Mm_speed_Mm_fails d_Mm_speed_22 (C_Mm_fails1 g m mp mf mh mn mt mz mc_ mq mgr ml mi mr mm mu mk mx th pt cl wa co_ fi bu ho lh mg wd fpi fal po de) rfl rfl (Nat.le_of_ble_eq_true rfl) rfl (by decide) (by omega) (by omega) (fun E cs1 hx => ?_) (fun v cs1 hx => ?_)
      · exact absurd hx.1 (by simp)
      · obtain ⟨e1, rfl⟩ := hx
        cases e1
        refine ⟨rfl, ?_⟩
        refine r_st (st2 := [.int 1]) rfl ?_
        refine r_cs (cs2 := [(m, .inr (12, [.int 1, .ref mp, .int pt, .ref mf, .ref mh, .ref mn, .ref mt, .ref mz, .ref mc_, .ref mq, .ref mgr, .int cl, .int wa, .int co_, .int fi, .int bu, .int ho, .ref ml, .ref mi, .ref mr, .int lh, .int mg, .int wd, .int fpi, .int fal, .ref mm, .ref mu, .ref mk, .ref mx, .long po, .long de])), (mp, .inl (1, 108, .inl f))]) rfl ?_
        refine r_if_eq (tgt := 32) d_Mm_speed_25 (by decide) (fun c_25 => ?_) (fun c_25 => ?_)
        · exact absurd c_25 (by decide)
        · refine r_iconst d_Mm_speed_28 (v := 0) (by decide) ?_
          refine r_goto (tgt := 39) d_Mm_speed_29 (by decide) ?_
          refine r_iret d_Mm_speed_39 rfl rfl ?_
          exact ⟨_, _, rfl, rfl⟩
abbrev M_Mm_move : zM := (⟨"IronpourModel", "move", "(III)V"⟩, prog_14_method_57_code, 8, (Option.none : Option FieldType), 1, 20, [])
theorem d_Mm_move_11 : decode prog_14_method_57_code 11 = .ok (.iload 5, 2) := zo_21 (d := 5) (zd_b zq_prog_14_method_57_code_0 11 rfl rfl rfl) (zd_b zq_prog_14_method_57_code_0 12 rfl rfl rfl)
theorem d_Mm_move_13 : decode prog_14_method_57_code 13 = .ok (.iconst 4, 1) := zo_7 (zd_b zq_prog_14_method_57_code_0 13 rfl rfl rfl)
theorem d_Mm_move_14 : decode prog_14_method_57_code 14 = .ok (.if_icmp .ge 61, 3) := zo_162 (d := 0) (e := 61) (zd_b zq_prog_14_method_57_code_0 14 rfl rfl rfl) (zd_b zq_prog_14_method_57_code_0 15 rfl rfl rfl) (zd_b zq_prog_14_method_57_code_0 16 rfl rfl rfl) (by decide +kernel)
theorem d_Mm_move_75 : decode prog_14_method_57_code 75 = .ok (.aload_n 0, 1) := zo_42 (zd_b zq_prog_14_method_57_code_2 11 rfl rfl rfl)
theorem d_Mm_move_76 : decode prog_14_method_57_code 76 = .ok (.getfield 62, 3) := zo_180 (d := 0) (e := 62) (zd_b zq_prog_14_method_57_code_2 12 rfl rfl rfl) (zd_b zq_prog_14_method_57_code_2 13 rfl rfl rfl) (zd_b zq_prog_14_method_57_code_2 14 rfl rfl rfl)
theorem d_Mm_move_79 : decode prog_14_method_57_code 79 = .ok (.iload_n 1, 1) := zo_27 (zd_b zq_prog_14_method_57_code_2 15 rfl rfl rfl)
theorem d_Mm_move_80 : decode prog_14_method_57_code 80 = .ok (.dup2, 1) := zo_92 (zd_b zq_prog_14_method_57_code_2 16 rfl rfl rfl)
theorem d_Mm_move_81 : decode prog_14_method_57_code 81 = .ok (.iaload, 1) := zo_46 (zd_b zq_prog_14_method_57_code_2 17 rfl rfl rfl)
theorem d_Mm_move_82 : decode prog_14_method_57_code 82 = .ok (.iload_n 3, 1) := zo_29 (zd_b zq_prog_14_method_57_code_2 18 rfl rfl rfl)
theorem d_Mm_move_83 : decode prog_14_method_57_code 83 = .ok (.isub, 1) := zo_100 (zd_b zq_prog_14_method_57_code_2 19 rfl rfl rfl)
theorem d_Mm_move_84 : decode prog_14_method_57_code 84 = .ok (.iastore, 1) := zo_79 (zd_b zq_prog_14_method_57_code_2 20 rfl rfl rfl)
theorem d_Mm_move_85 : decode prog_14_method_57_code 85 = .ok (.aload_n 0, 1) := zo_42 (zd_b zq_prog_14_method_57_code_2 21 rfl rfl rfl)
theorem d_Mm_move_86 : decode prog_14_method_57_code 86 = .ok (.getfield 62, 3) := zo_180 (d := 0) (e := 62) (zd_b zq_prog_14_method_57_code_2 22 rfl rfl rfl) (zd_b zq_prog_14_method_57_code_2 23 rfl rfl rfl) (zd_b zq_prog_14_method_57_code_2 24 rfl rfl rfl)
theorem d_Mm_move_89 : decode prog_14_method_57_code 89 = .ok (.iload_n 2, 1) := zo_28 (zd_b zq_prog_14_method_57_code_2 25 rfl rfl rfl)
theorem d_Mm_move_90 : decode prog_14_method_57_code 90 = .ok (.dup2, 1) := zo_92 (zd_b zq_prog_14_method_57_code_2 26 rfl rfl rfl)
theorem d_Mm_move_91 : decode prog_14_method_57_code 91 = .ok (.iaload, 1) := zo_46 (zd_b zq_prog_14_method_57_code_2 27 rfl rfl rfl)
theorem d_Mm_move_92 : decode prog_14_method_57_code 92 = .ok (.iload_n 3, 1) := zo_29 (zd_b zq_prog_14_method_57_code_2 28 rfl rfl rfl)
theorem d_Mm_move_93 : decode prog_14_method_57_code 93 = .ok (.iadd, 1) := zo_96 (zd_b zq_prog_14_method_57_code_2 29 rfl rfl rfl)
theorem d_Mm_move_94 : decode prog_14_method_57_code 94 = .ok (.iastore, 1) := zo_79 (zd_b zq_prog_14_method_57_code_2 30 rfl rfl rfl)
theorem d_Mm_move_95 : decode prog_14_method_57_code 95 = .ok (.return_, 1) := zo_177 (zd_b zq_prog_14_method_57_code_2 31 rfl rfl rfl)
theorem d_Mm_move_17 : decode prog_14_method_57_code 17 = .ok (.aload_n 0, 1) := zo_42 (zd_b zq_prog_14_method_57_code_0 17 rfl rfl rfl)
theorem d_Mm_move_18 : decode prog_14_method_57_code 18 = .ok (.getfield 65, 3) := zo_180 (d := 0) (e := 65) (zd_b zq_prog_14_method_57_code_0 18 rfl rfl rfl) (zd_b zq_prog_14_method_57_code_0 19 rfl rfl rfl) (zd_b zq_prog_14_method_57_code_0 20 rfl rfl rfl)
theorem d_Mm_move_21 : decode prog_14_method_57_code 21 = .ok (.iconst 4, 1) := zo_7 (zd_b zq_prog_14_method_57_code_0 21 rfl rfl rfl)
theorem d_Mm_move_22 : decode prog_14_method_57_code 22 = .ok (.iload_n 1, 1) := zo_27 (zd_b zq_prog_14_method_57_code_0 22 rfl rfl rfl)
theorem d_Mm_move_23 : decode prog_14_method_57_code 23 = .ok (.imul, 1) := zo_104 (zd_b zq_prog_14_method_57_code_0 23 rfl rfl rfl)
theorem d_Mm_move_24 : decode prog_14_method_57_code 24 = .ok (.iload 5, 2) := zo_21 (d := 5) (zd_b zq_prog_14_method_57_code_0 24 rfl rfl rfl) (zd_b zq_prog_14_method_57_code_0 25 rfl rfl rfl)
theorem d_Mm_move_26 : decode prog_14_method_57_code 26 = .ok (.iadd, 1) := zo_96 (zd_b zq_prog_14_method_57_code_0 26 rfl rfl rfl)
theorem d_Mm_move_27 : decode prog_14_method_57_code 27 = .ok (.laload, 1) := zo_47 (zd_b zq_prog_14_method_57_code_0 27 rfl rfl rfl)
theorem d_Mm_move_28 : decode prog_14_method_57_code 28 = .ok (.iload_n 3, 1) := zo_29 (zd_b zq_prog_14_method_57_code_0 28 rfl rfl rfl)
theorem d_Mm_move_29 : decode prog_14_method_57_code 29 = .ok (.i2l, 1) := zo_133 (zd_b zq_prog_14_method_57_code_0 29 rfl rfl rfl)
theorem d_Mm_move_30 : decode prog_14_method_57_code 30 = .ok (.lmul, 1) := zo_105 (zd_b zq_prog_14_method_57_code_0 30 rfl rfl rfl)
theorem d_Mm_move_31 : decode prog_14_method_57_code 31 = .ok (.iload 4, 2) := zo_21 (d := 4) (zd_b zq_prog_14_method_57_code_0 31 rfl rfl rfl) (zd_b zq_prog_14_method_57_code_1 0 rfl rfl rfl)
theorem d_Mm_move_33 : decode prog_14_method_57_code 33 = .ok (.i2l, 1) := zo_133 (zd_b zq_prog_14_method_57_code_1 1 rfl rfl rfl)
theorem d_Mm_move_34 : decode prog_14_method_57_code 34 = .ok (.ldiv, 1) := zo_109 (zd_b zq_prog_14_method_57_code_1 2 rfl rfl rfl)
theorem d_Mm_move_35 : decode prog_14_method_57_code 35 = .ok (.lstore 6, 2) := zo_55 (d := 6) (zd_b zq_prog_14_method_57_code_1 3 rfl rfl rfl) (zd_b zq_prog_14_method_57_code_1 4 rfl rfl rfl)
theorem d_Mm_move_37 : decode prog_14_method_57_code 37 = .ok (.aload_n 0, 1) := zo_42 (zd_b zq_prog_14_method_57_code_1 5 rfl rfl rfl)
theorem d_Mm_move_38 : decode prog_14_method_57_code 38 = .ok (.getfield 65, 3) := zo_180 (d := 0) (e := 65) (zd_b zq_prog_14_method_57_code_1 6 rfl rfl rfl) (zd_b zq_prog_14_method_57_code_1 7 rfl rfl rfl) (zd_b zq_prog_14_method_57_code_1 8 rfl rfl rfl)
theorem d_Mm_move_41 : decode prog_14_method_57_code 41 = .ok (.iconst 4, 1) := zo_7 (zd_b zq_prog_14_method_57_code_1 9 rfl rfl rfl)
theorem d_Mm_move_42 : decode prog_14_method_57_code 42 = .ok (.iload_n 1, 1) := zo_27 (zd_b zq_prog_14_method_57_code_1 10 rfl rfl rfl)
theorem d_Mm_move_43 : decode prog_14_method_57_code 43 = .ok (.imul, 1) := zo_104 (zd_b zq_prog_14_method_57_code_1 11 rfl rfl rfl)
theorem d_Mm_move_44 : decode prog_14_method_57_code 44 = .ok (.iload 5, 2) := zo_21 (d := 5) (zd_b zq_prog_14_method_57_code_1 12 rfl rfl rfl) (zd_b zq_prog_14_method_57_code_1 13 rfl rfl rfl)
theorem d_Mm_move_46 : decode prog_14_method_57_code 46 = .ok (.iadd, 1) := zo_96 (zd_b zq_prog_14_method_57_code_1 14 rfl rfl rfl)
theorem d_Mm_move_47 : decode prog_14_method_57_code 47 = .ok (.dup2, 1) := zo_92 (zd_b zq_prog_14_method_57_code_1 15 rfl rfl rfl)
theorem d_Mm_move_48 : decode prog_14_method_57_code 48 = .ok (.laload, 1) := zo_47 (zd_b zq_prog_14_method_57_code_1 16 rfl rfl rfl)
theorem d_Mm_move_49 : decode prog_14_method_57_code 49 = .ok (.lload 6, 2) := zo_22 (d := 6) (zd_b zq_prog_14_method_57_code_1 17 rfl rfl rfl) (zd_b zq_prog_14_method_57_code_1 18 rfl rfl rfl)
theorem d_Mm_move_51 : decode prog_14_method_57_code 51 = .ok (.lsub, 1) := zo_101 (zd_b zq_prog_14_method_57_code_1 19 rfl rfl rfl)
theorem d_Mm_move_52 : decode prog_14_method_57_code 52 = .ok (.lastore, 1) := zo_80 (zd_b zq_prog_14_method_57_code_1 20 rfl rfl rfl)
theorem d_Mm_move_53 : decode prog_14_method_57_code 53 = .ok (.aload_n 0, 1) := zo_42 (zd_b zq_prog_14_method_57_code_1 21 rfl rfl rfl)
theorem d_Mm_move_54 : decode prog_14_method_57_code 54 = .ok (.getfield 65, 3) := zo_180 (d := 0) (e := 65) (zd_b zq_prog_14_method_57_code_1 22 rfl rfl rfl) (zd_b zq_prog_14_method_57_code_1 23 rfl rfl rfl) (zd_b zq_prog_14_method_57_code_1 24 rfl rfl rfl)
theorem d_Mm_move_57 : decode prog_14_method_57_code 57 = .ok (.iconst 4, 1) := zo_7 (zd_b zq_prog_14_method_57_code_1 25 rfl rfl rfl)
theorem d_Mm_move_58 : decode prog_14_method_57_code 58 = .ok (.iload_n 2, 1) := zo_28 (zd_b zq_prog_14_method_57_code_1 26 rfl rfl rfl)
theorem d_Mm_move_59 : decode prog_14_method_57_code 59 = .ok (.imul, 1) := zo_104 (zd_b zq_prog_14_method_57_code_1 27 rfl rfl rfl)
theorem d_Mm_move_60 : decode prog_14_method_57_code 60 = .ok (.iload 5, 2) := zo_21 (d := 5) (zd_b zq_prog_14_method_57_code_1 28 rfl rfl rfl) (zd_b zq_prog_14_method_57_code_1 29 rfl rfl rfl)
theorem d_Mm_move_62 : decode prog_14_method_57_code 62 = .ok (.iadd, 1) := zo_96 (zd_b zq_prog_14_method_57_code_1 30 rfl rfl rfl)
theorem d_Mm_move_63 : decode prog_14_method_57_code 63 = .ok (.dup2, 1) := zo_92 (zd_b zq_prog_14_method_57_code_1 31 rfl rfl rfl)
theorem d_Mm_move_64 : decode prog_14_method_57_code 64 = .ok (.laload, 1) := zo_47 (zd_b zq_prog_14_method_57_code_2 0 rfl rfl rfl)
theorem d_Mm_move_65 : decode prog_14_method_57_code 65 = .ok (.lload 6, 2) := zo_22 (d := 6) (zd_b zq_prog_14_method_57_code_2 1 rfl rfl rfl) (zd_b zq_prog_14_method_57_code_2 2 rfl rfl rfl)
theorem d_Mm_move_67 : decode prog_14_method_57_code 67 = .ok (.ladd, 1) := zo_97 (zd_b zq_prog_14_method_57_code_2 3 rfl rfl rfl)
theorem d_Mm_move_68 : decode prog_14_method_57_code 68 = .ok (.lastore, 1) := zo_80 (zd_b zq_prog_14_method_57_code_2 4 rfl rfl rfl)
theorem d_Mm_move_69 : decode prog_14_method_57_code 69 = .ok (.iinc 5 1, 3) := by decide +kernel
theorem d_Mm_move_72 : decode prog_14_method_57_code 72 = .ok (.goto (-61), 3) := zo_167 (d := 255) (e := 195) (zd_b zq_prog_14_method_57_code_2 8 rfl rfl rfl) (zd_b zq_prog_14_method_57_code_2 9 rfl rfl rfl) (zd_b zq_prog_14_method_57_code_2 10 rfl rfl rfl) (by decide +kernel)
theorem d_Mm_move_0 : decode prog_14_method_57_code 0 = .ok (.aload_n 0, 1) := zo_42 (zd_b zq_prog_14_method_57_code_0 0 rfl rfl rfl)
theorem d_Mm_move_1 : decode prog_14_method_57_code 1 = .ok (.getfield 62, 3) := zo_180 (d := 0) (e := 62) (zd_b zq_prog_14_method_57_code_0 1 rfl rfl rfl) (zd_b zq_prog_14_method_57_code_0 2 rfl rfl rfl) (zd_b zq_prog_14_method_57_code_0 3 rfl rfl rfl)
theorem d_Mm_move_4 : decode prog_14_method_57_code 4 = .ok (.iload_n 1, 1) := zo_27 (zd_b zq_prog_14_method_57_code_0 4 rfl rfl rfl)
theorem d_Mm_move_5 : decode prog_14_method_57_code 5 = .ok (.iaload, 1) := zo_46 (zd_b zq_prog_14_method_57_code_0 5 rfl rfl rfl)
theorem d_Mm_move_6 : decode prog_14_method_57_code 6 = .ok (.istore 4, 2) := zo_54 (d := 4) (zd_b zq_prog_14_method_57_code_0 6 rfl rfl rfl) (zd_b zq_prog_14_method_57_code_0 7 rfl rfl rfl)
theorem d_Mm_move_8 : decode prog_14_method_57_code 8 = .ok (.iconst 0, 1) := zo_3 (zd_b zq_prog_14_method_57_code_0 8 rfl rfl rfl)
theorem d_Mm_move_9 : decode prog_14_method_57_code 9 = .ok (.istore 5, 2) := zo_54 (d := 5) (zd_b zq_prog_14_method_57_code_0 9 rfl rfl rfl) (zd_b zq_prog_14_method_57_code_0 10 rfl rfl rfl)
theorem d_Mm_tap_66 : decode prog_14_method_62_code 66 = .ok (.iconst 0, 1) := zo_3 (zd_b zq_prog_14_method_62_code_2 2 rfl rfl rfl)
theorem d_Mm_tap_76 : decode prog_14_method_62_code 76 = .ok (.aload_n 0, 1) := zo_42 (zd_b zq_prog_14_method_62_code_2 12 rfl rfl rfl)
theorem d_Mm_tap_77 : decode prog_14_method_62_code 77 = .ok (.iconst 0, 1) := zo_3 (zd_b zq_prog_14_method_62_code_2 13 rfl rfl rfl)
theorem d_Mm_tap_78 : decode prog_14_method_62_code 78 = .ok (.iconst 1, 1) := zo_4 (zd_b zq_prog_14_method_62_code_2 14 rfl rfl rfl)
theorem d_Mm_tap_79 : decode prog_14_method_62_code 79 = .ok (.iload_n 1, 1) := zo_27 (zd_b zq_prog_14_method_62_code_2 15 rfl rfl rfl)
theorem d_Mm_tap_80 : decode prog_14_method_62_code 80 = .ok (.invokevirtual 236, 3) := zo_182 (d := 0) (e := 236) (zd_b zq_prog_14_method_62_code_2 16 rfl rfl rfl) (zd_b zq_prog_14_method_62_code_2 17 rfl rfl rfl) (zd_b zq_prog_14_method_62_code_2 18 rfl rfl rfl)
theorem ok_Mm_tap_Mm_move : z_ok M_Mm_tap M_Mm_move 3 := ⟨z_mj8 (i := 153) rfl (by decide +kernel), rfl, ⟨by decide +kernel, by decide +kernel, by decide +kernel⟩, ⟨by decide, by decide⟩, z_mj1 (i := 14) rfl (by decide +kernel), rfl⟩
theorem ln_Mm_236 : Cond.methodLink "IronpourModel" 236 M_Mm_move.1 ∈ z_gw := z_mj8 (i := 150) rfl (by decide +kernel)
theorem w_im_Mm_move : Cond.instanceMethod M_Mm_move.1 ∈ z_gw := z_mj8 (i := 152) rfl (by decide +kernel)
theorem w_se_Mm_move : Cond.selects M_Mm_move.1.cls M_Mm_move.1 M_Mm_move.1 ∈ z_gw := z_mem (i := 48) (by decide +kernel) (by decide +kernel)
theorem d_Mm_tap_83 : decode prog_14_method_62_code 83 = .ok (.aload_n 0, 1) := zo_42 (zd_b zq_prog_14_method_62_code_2 19 rfl rfl rfl)
theorem d_Mm_tap_84 : decode prog_14_method_62_code 84 = .ok (.sipush 1450, 3) := zo_17 (d := 5) (e := 170) (zd_b zq_prog_14_method_62_code_2 20 rfl rfl rfl) (zd_b zq_prog_14_method_62_code_2 21 rfl rfl rfl) (zd_b zq_prog_14_method_62_code_2 22 rfl rfl rfl) (by decide +kernel)
theorem d_Mm_tap_87 : decode prog_14_method_62_code 87 = .ok (.putfield 257, 3) := zo_181 (d := 1) (e := 1) (zd_b zq_prog_14_method_62_code_2 23 rfl rfl rfl) (zd_b zq_prog_14_method_62_code_2 24 rfl rfl rfl) (zd_b zq_prog_14_method_62_code_2 25 rfl rfl rfl)
theorem fp_Mm_257 : z_fp "IronpourModel" 257 12 20 false .int := ⟨R_Mm, "IronpourModel", F_Mm, 31, t_Mm, rfl, u_Mm, by decide, t_Mm_ok, n_Mm, rfl, rfl, Or.inl ⟨z_mj7 (i := 103) rfl (by decide +kernel), Or.inl rfl, fun h => nomatch h⟩⟩
theorem d_Mm_tap_90 : decode prog_14_method_62_code 90 = .ok (.aload_n 0, 1) := zo_42 (zd_b zq_prog_14_method_62_code_2 26 rfl rfl rfl)
theorem d_Mm_tap_91 : decode prog_14_method_62_code 91 = .ok (.iconst 0, 1) := zo_3 (zd_b zq_prog_14_method_62_code_2 27 rfl rfl rfl)
theorem d_Mm_tap_92 : decode prog_14_method_62_code 92 = .ok (.putfield 260, 3) := zo_181 (d := 1) (e := 4) (zd_b zq_prog_14_method_62_code_2 28 rfl rfl rfl) (zd_b zq_prog_14_method_62_code_2 29 rfl rfl rfl) (zd_b zq_prog_14_method_62_code_2 30 rfl rfl rfl)
theorem fp_Mm_260 : z_fp "IronpourModel" 260 12 21 false .int := ⟨R_Mm, "IronpourModel", F_Mm, 31, t_Mm, rfl, u_Mm, by decide, t_Mm_ok, n_Mm, rfl, rfl, Or.inl ⟨z_mj7 (i := 104) rfl (by decide +kernel), Or.inl rfl, fun h => nomatch h⟩⟩
theorem d_Mm_tap_95 : decode prog_14_method_62_code 95 = .ok (.aload_n 0, 1) := zo_42 (zd_b zq_prog_14_method_62_code_2 31 rfl rfl rfl)
theorem d_Mm_tap_96 : decode prog_14_method_62_code 96 = .ok (.iconst 0, 1) := zo_3 (zd_b zq_prog_14_method_62_code_3 0 rfl rfl rfl)
theorem d_Mm_tap_97 : decode prog_14_method_62_code 97 = .ok (.putfield 263, 3) := zo_181 (d := 1) (e := 7) (zd_b zq_prog_14_method_62_code_3 1 rfl rfl rfl) (zd_b zq_prog_14_method_62_code_3 2 rfl rfl rfl) (zd_b zq_prog_14_method_62_code_3 3 rfl rfl rfl)
theorem fp_Mm_263 : z_fp "IronpourModel" 263 12 22 false .boolean := ⟨R_Mm, "IronpourModel", F_Mm, 31, t_Mm, rfl, u_Mm, by decide, t_Mm_ok, n_Mm, rfl, rfl, Or.inl ⟨z_mj7 (i := 105) rfl (by decide +kernel), Or.inl rfl, fun h => nomatch h⟩⟩
theorem d_Mm_tap_100 : decode prog_14_method_62_code 100 = .ok (.aload_n 0, 1) := zo_42 (zd_b zq_prog_14_method_62_code_3 4 rfl rfl rfl)
theorem d_Mm_tap_101 : decode prog_14_method_62_code 101 = .ok (.getfield 62, 3) := zo_180 (d := 0) (e := 62) (zd_b zq_prog_14_method_62_code_3 5 rfl rfl rfl) (zd_b zq_prog_14_method_62_code_3 6 rfl rfl rfl) (zd_b zq_prog_14_method_62_code_3 7 rfl rfl rfl)
theorem d_Mm_tap_104 : decode prog_14_method_62_code 104 = .ok (.iconst 0, 1) := zo_3 (zd_b zq_prog_14_method_62_code_3 8 rfl rfl rfl)
theorem d_Mm_tap_105 : decode prog_14_method_62_code 105 = .ok (.iaload, 1) := zo_46 (zd_b zq_prog_14_method_62_code_3 9 rfl rfl rfl)
theorem d_Mm_tap_106 : decode prog_14_method_62_code 106 = .ok (.ireturn, 1) := zo_172 (zd_b zq_prog_14_method_62_code_3 10 rfl rfl rfl)
theorem d_Mm_tap_39 : decode prog_14_method_62_code 39 = .ok (.iconst 1, 1) := zo_4 (zd_b zq_prog_14_method_62_code_1 7 rfl rfl rfl)
theorem d_Mm_tap_40 : decode prog_14_method_62_code 40 = .ok (.goto 4, 3) := zo_167 (d := 0) (e := 4) (zd_b zq_prog_14_method_62_code_1 8 rfl rfl rfl) (zd_b zq_prog_14_method_62_code_1 9 rfl rfl rfl) (zd_b zq_prog_14_method_62_code_1 10 rfl rfl rfl) (by decide +kernel)
theorem d_Mm_pig_19 : decode prog_14_method_66_code 19 = .ok (.iconst 0, 1) := zo_3 (zd_b zq_prog_14_method_66_code_0 19 rfl rfl rfl)
theorem d_Mm_pig_29 : decode prog_14_method_66_code 29 = .ok (.aload_n 0, 1) := zo_42 (zd_b zq_prog_14_method_66_code_0 29 rfl rfl rfl)
theorem d_Mm_pig_30 : decode prog_14_method_66_code 30 = .ok (.getfield 62, 3) := zo_180 (d := 0) (e := 62) (zd_b zq_prog_14_method_66_code_0 30 rfl rfl rfl) (zd_b zq_prog_14_method_66_code_0 31 rfl rfl rfl) (zd_b zq_prog_14_method_66_code_1 0 rfl rfl rfl)
theorem d_Mm_pig_33 : decode prog_14_method_66_code 33 = .ok (.iconst 1, 1) := zo_4 (zd_b zq_prog_14_method_66_code_1 1 rfl rfl rfl)
theorem d_Mm_pig_34 : decode prog_14_method_66_code 34 = .ok (.iaload, 1) := zo_46 (zd_b zq_prog_14_method_66_code_1 2 rfl rfl rfl)
theorem d_Mm_pig_35 : decode prog_14_method_66_code 35 = .ok (.istore_n 1, 1) := zo_60 (zd_b zq_prog_14_method_66_code_1 3 rfl rfl rfl)
theorem d_Mm_pig_36 : decode prog_14_method_66_code 36 = .ok (.aload_n 0, 1) := zo_42 (zd_b zq_prog_14_method_66_code_1 4 rfl rfl rfl)
theorem d_Mm_pig_37 : decode prog_14_method_66_code 37 = .ok (.iconst 1, 1) := zo_4 (zd_b zq_prog_14_method_66_code_1 5 rfl rfl rfl)
theorem d_Mm_pig_38 : decode prog_14_method_66_code 38 = .ok (.aload_n 0, 1) := zo_42 (zd_b zq_prog_14_method_66_code_1 6 rfl rfl rfl)
theorem d_Mm_pig_39 : decode prog_14_method_66_code 39 = .ok (.getfield 263, 3) := zo_180 (d := 1) (e := 7) (zd_b zq_prog_14_method_66_code_1 7 rfl rfl rfl) (zd_b zq_prog_14_method_66_code_1 8 rfl rfl rfl) (zd_b zq_prog_14_method_66_code_1 9 rfl rfl rfl)
theorem fs_Mm_263 : z_fs "IronpourModel" 263 12 22 := ⟨R_Mm, "IronpourModel", F_Mm, 31, rfl, u_Mm, by decide, Or.inl ⟨z_mj7 (i := 105) rfl (by decide +kernel), Or.inl rfl⟩⟩
theorem d_Mm_pig_42 : decode prog_14_method_66_code 42 = .ok (.ifCond .eq 7, 3) := zo_153 (d := 0) (e := 7) (zd_b zq_prog_14_method_66_code_1 10 rfl rfl rfl) (zd_b zq_prog_14_method_66_code_1 11 rfl rfl rfl) (zd_b zq_prog_14_method_66_code_1 12 rfl rfl rfl) (by decide +kernel)
theorem d_Mm_pig_49 : decode prog_14_method_66_code 49 = .ok (.iconst 2, 1) := zo_5 (zd_b zq_prog_14_method_66_code_1 17 rfl rfl rfl)
theorem d_Mm_pig_50 : decode prog_14_method_66_code 50 = .ok (.iload_n 1, 1) := zo_27 (zd_b zq_prog_14_method_66_code_1 18 rfl rfl rfl)
theorem d_Mm_pig_51 : decode prog_14_method_66_code 51 = .ok (.invokevirtual 236, 3) := zo_182 (d := 0) (e := 236) (zd_b zq_prog_14_method_66_code_1 19 rfl rfl rfl) (zd_b zq_prog_14_method_66_code_1 20 rfl rfl rfl) (zd_b zq_prog_14_method_66_code_1 21 rfl rfl rfl)
theorem ok_Mm_pig_Mm_move : z_ok M_Mm_pig M_Mm_move 3 := ⟨z_mj8 (i := 153) rfl (by decide +kernel), rfl, ⟨by decide +kernel, by decide +kernel, by decide +kernel⟩, ⟨by decide, by decide⟩, z_mj1 (i := 14) rfl (by decide +kernel), rfl⟩
theorem d_Mm_pig_54 : decode prog_14_method_66_code 54 = .ok (.iload_n 1, 1) := zo_27 (zd_b zq_prog_14_method_66_code_1 22 rfl rfl rfl)
theorem d_Mm_pig_55 : decode prog_14_method_66_code 55 = .ok (.ireturn, 1) := zo_172 (zd_b zq_prog_14_method_66_code_1 23 rfl rfl rfl)
theorem d_Mm_pig_45 : decode prog_14_method_66_code 45 = .ok (.iconst 3, 1) := zo_6 (zd_b zq_prog_14_method_66_code_1 13 rfl rfl rfl)
theorem d_Mm_pig_46 : decode prog_14_method_66_code 46 = .ok (.goto 4, 3) := zo_167 (d := 0) (e := 4) (zd_b zq_prog_14_method_66_code_1 14 rfl rfl rfl) (zd_b zq_prog_14_method_66_code_1 15 rfl rfl rfl) (zd_b zq_prog_14_method_66_code_1 16 rfl rfl rfl) (by decide +kernel)
