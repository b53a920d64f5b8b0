abbrev M_Ip_heatAt : zM := (⟨"Ironpour", "heatAt", "(IIII)I"⟩, prog_1_method_12_code, 6, (Option.some FieldType.int), 7, 137, [])
theorem d_Ip_heatAt_0 : decode prog_1_method_12_code 0 = .ok (.iload_n 1, 1) := zo_27 (zd_b zq_prog_1_method_12_code_0 0 rfl rfl rfl)
theorem d_Ip_heatAt_1 : decode prog_1_method_12_code 1 = .ok (.iload_n 2, 1) := zo_28 (zd_b zq_prog_1_method_12_code_0 1 rfl rfl rfl)
theorem d_Ip_heatAt_2 : decode prog_1_method_12_code 2 = .ok (.invokestatic 114, 3) := zo_184 (d := 0) (e := 114) (zd_b zq_prog_1_method_12_code_0 2 rfl rfl rfl) (zd_b zq_prog_1_method_12_code_0 3 rfl rfl rfl) (zd_b zq_prog_1_method_12_code_0 4 rfl rfl rfl)
theorem ok_Ip_heatAt_Ip_cellAt : z_ok M_Ip_heatAt M_Ip_cellAt 2 := ⟨z_mj4 (i := 22) rfl (by decide +kernel), rfl, ⟨by decide +kernel, by decide +kernel, by decide +kernel⟩, ⟨by decide, by decide⟩, z_mj1 (i := 1) rfl (by decide +kernel), rfl⟩
set_option maxHeartbeats 4000000 in
set_option maxRecDepth 100000 in
theorem C_Ip_heatAtE (g : zG) (a pa ta sa gs co fu la gy du re wm ac : Nat) (pa1 pa2 pa3 : Nat) (f sn : Nat → Int32) (qn : Nat → Nat) (p : Nat) (sa1 sa2 saz saz1 saz2 saz3 saz4 saz5 saz6 sa4 sa5 sa6 : Nat) (X : zTr) (x y h st : Int32) (hz : z_cl x y = none) : CT g M_Ip_heatAt [.ref a, .int x, .int y, .int h, .int st] [(a, .inr (11, [.ref pa, .ref ta, .ref sa, .ref gs, .ref co, .ref fu, .ref la, .ref gy, .ref du, .ref re, .ref wm, .ref ac])), (pa, .inr (8, [.ref pa1, .ref pa2, .ref pa3, .int (nI p)])), (pa1, .inl (1, 108, .inl f)), (pa2, .inl (2, 108, .inl sn)), (pa3, .inl (0, 108, .inl (fun k => nI (qn k)))), (sa, .inr (10, [.ref sa1, .ref sa2, .ref saz, .ref sa4, .ref sa5, .ref sa6, .int X.1.2.2.1, .int X.1.2.2.2])), (sa1, .inl (1, 108, .inl X.1.1)), (sa2, .inl (0, 108, .inl X.1.2.1)), (saz, .inr (2, [.ref saz1, .ref saz2, .ref saz3, .ref saz4, .ref saz5, .ref saz6, .int X.2.1.1.1.2.2.2])), (saz1, .inl (0, 108, .inl X.2.1.1.1.1)), (saz2, .inl (0, 108, .inl X.2.1.1.2)), (saz3, .inl (0, 108, .inl X.2.1.1.1.2.1)), (saz4, .inl (0, 108, .inl X.2.1.1.1.2.2.1)), (saz5, .inl (0, 108, .inl X.2.1.2.1)), (saz6, .inl (0, 108, .inl X.2.1.2.2)), (sa4, .inl (2, 108, .inl X.2.2.1)), (sa5, .inl (2, 108, .inl X.2.2.2.1)), (sa6, .inl (0, 108, .inl (fun k => nI (X.2.2.2.2 k))))] (fun o cs1 => o = .inr "java/lang/IndexOutOfBoundsException" ∧ cs1 = [(a, .inr (11, [.ref pa, .ref ta, .ref sa, .ref gs, .ref co, .ref fu, .ref la, .ref gy, .ref du, .ref re, .ref wm, .ref ac])), (pa, .inr (8, [.ref pa1, .ref pa2, .ref pa3, .int (nI p)])), (pa1, .inl (1, 108, .inl f)), (pa2, .inl (2, 108, .inl sn)), (pa3, .inl (0, 108, .inl (fun k => nI (qn k)))), (sa, .inr (10, [.ref sa1, .ref sa2, .ref saz, .ref sa4, .ref sa5, .ref sa6, .int X.1.2.2.1, .int X.1.2.2.2])), (sa1, .inl (1, 108, .inl X.1.1)), (sa2, .inl (0, 108, .inl X.1.2.1)), (saz, .inr (2, [.ref saz1, .ref saz2, .ref saz3, .ref saz4, .ref saz5, .ref saz6, .int X.2.1.1.1.2.2.2])), (saz1, .inl (0, 108, .inl X.2.1.1.1.1)), (saz2, .inl (0, 108, .inl X.2.1.1.2)), (saz3, .inl (0, 108, .inl X.2.1.1.1.2.1)), (saz4, .inl (0, 108, .inl X.2.1.1.1.2.2.1)), (saz5, .inl (0, 108, .inl X.2.1.2.1)), (saz6, .inl (0, 108, .inl X.2.1.2.2)), (sa4, .inl (2, 108, .inl X.2.2.1)), (sa5, .inl (2, 108, .inl X.2.2.2.1)), (sa6, .inl (0, 108, .inl (fun k => nI (X.2.2.2.2 k))))]) 1 6 := by
  refine z_of (by decide) rfl (Nat.le_of_ble_eq_true rfl) (fun w0 => ?_)
  refine r_lvE (lv2 := [(0, .ref a), (1, .int x), (2, .int y), (3, .int h), (4, .int st)]) rfl ?_
  refine r_iload_n d_Ip_heatAt_0 rfl 1 rfl ?_
  refine r_iload_n d_Ip_heatAt_1 rfl 2 rfl ?_
  refine r_callS (As := [.int x, .int y]) (rest := []) (csC := []) (is := []) ln_Ip_114 w_st_Ip_cellAt ok_Ip_heatAt_Ip_cellAt d_Ip_heatAt_2 (C_Ip_cellAt g x y) rfl rfl (Nat.le_of_ble_eq_true rfl) rfl (by decide) (by omega) (by omega) (fun E cs1 hx => ?_) (fun v cs1 hx => ?_)
  · simp only [hz] at hx
    obtain ⟨e1, rfl⟩ := hx
    cases e1
    exact ⟨rfl, rfl, rfl⟩
  · simp only [hz] at hx
    exact absurd hx.1 (by simp)
theorem d_Ip_heatAt_5 : decode prog_1_method_12_code 5 = .ok (.istore 5, 2) := zo_54 (d := 5) (zd_b zq_prog_1_method_12_code_0 5 rfl rfl rfl) (zd_b zq_prog_1_method_12_code_0 6 rfl rfl rfl)
theorem d_Ip_heatAt_7 : decode prog_1_method_12_code 7 = .ok (.iload_n 3, 1) := zo_29 (zd_b zq_prog_1_method_12_code_0 7 rfl rfl rfl)
theorem d_Ip_heatAt_8 : decode prog_1_method_12_code 8 = .ok (.invokestatic 158, 3) := zo_184 (d := 0) (e := 158) (zd_b zq_prog_1_method_12_code_0 8 rfl rfl rfl) (zd_b zq_prog_1_method_12_code_0 9 rfl rfl rfl) (zd_b zq_prog_1_method_12_code_0 10 rfl rfl rfl)
theorem ok_Ip_heatAt_Ip_checkHeat : z_ok M_Ip_heatAt M_Ip_checkHeat 1 := ⟨z_mj4 (i := 94) rfl (by decide +kernel), rfl, ⟨by decide +kernel, by decide +kernel, by decide +kernel⟩, ⟨by decide, by decide⟩, z_mj1 (i := 1) rfl (by decide +kernel), rfl⟩
set_option maxHeartbeats 4000000 in
set_option maxRecDepth 100000 in
theorem C_Ip_heatAtF (g : zG) (a pa ta sa gs co fu la gy du re wm ac : Nat) (pa1 pa2 pa3 : Nat) (f sn : Nat → Int32) (qn : Nat → Nat) (p : Nat) (sa1 sa2 saz saz1 saz2 saz3 saz4 saz5 saz6 sa4 sa5 sa6 : Nat) (X : zTr) (x y h st : Int32) (c : Nat) (hz : z_cl x y = some c) (hh : ¬ (1200 ≤ h ∧ h ≤ 1500)) : CT g M_Ip_heatAt [.ref a, .int x, .int y, .int h, .int st] [(a, .inr (11, [.ref pa, .ref ta, .ref sa, .ref gs, .ref co, .ref fu, .ref la, .ref gy, .ref du, .ref re, .ref wm, .ref ac])), (pa, .inr (8, [.ref pa1, .ref pa2, .ref pa3, .int (nI p)])), (pa1, .inl (1, 108, .inl f)), (pa2, .inl (2, 108, .inl sn)), (pa3, .inl (0, 108, .inl (fun k => nI (qn k)))), (sa, .inr (10, [.ref sa1, .ref sa2, .ref saz, .ref sa4, .ref sa5, .ref sa6, .int X.1.2.2.1, .int X.1.2.2.2])), (sa1, .inl (1, 108, .inl X.1.1)), (sa2, .inl (0, 108, .inl X.1.2.1)), (saz, .inr (2, [.ref saz1, .ref saz2, .ref saz3, .ref saz4, .ref saz5, .ref saz6, .int X.2.1.1.1.2.2.2])), (saz1, .inl (0, 108, .inl X.2.1.1.1.1)), (saz2, .inl (0, 108, .inl X.2.1.1.2)), (saz3, .inl (0, 108, .inl X.2.1.1.1.2.1)), (saz4, .inl (0, 108, .inl X.2.1.1.1.2.2.1)), (saz5, .inl (0, 108, .inl X.2.1.2.1)), (saz6, .inl (0, 108, .inl X.2.1.2.2)), (sa4, .inl (2, 108, .inl X.2.2.1)), (sa5, .inl (2, 108, .inl X.2.2.2.1)), (sa6, .inl (0, 108, .inl (fun k => nI (X.2.2.2.2 k))))] (fun o cs1 => o = .inr "java/lang/IllegalArgumentException" ∧ cs1 = [(a, .inr (11, [.ref pa, .ref ta, .ref sa, .ref gs, .ref co, .ref fu, .ref la, .ref gy, .ref du, .ref re, .ref wm, .ref ac])), (pa, .inr (8, [.ref pa1, .ref pa2, .ref pa3, .int (nI p)])), (pa1, .inl (1, 108, .inl f)), (pa2, .inl (2, 108, .inl sn)), (pa3, .inl (0, 108, .inl (fun k => nI (qn k)))), (sa, .inr (10, [.ref sa1, .ref sa2, .ref saz, .ref sa4, .ref sa5, .ref sa6, .int X.1.2.2.1, .int X.1.2.2.2])), (sa1, .inl (1, 108, .inl X.1.1)), (sa2, .inl (0, 108, .inl X.1.2.1)), (saz, .inr (2, [.ref saz1, .ref saz2, .ref saz3, .ref saz4, .ref saz5, .ref saz6, .int X.2.1.1.1.2.2.2])), (saz1, .inl (0, 108, .inl X.2.1.1.1.1)), (saz2, .inl (0, 108, .inl X.2.1.1.2)), (saz3, .inl (0, 108, .inl X.2.1.1.1.2.1)), (saz4, .inl (0, 108, .inl X.2.1.1.1.2.2.1)), (saz5, .inl (0, 108, .inl X.2.1.2.1)), (saz6, .inl (0, 108, .inl X.2.1.2.2)), (sa4, .inl (2, 108, .inl X.2.2.1)), (sa5, .inl (2, 108, .inl X.2.2.2.1)), (sa6, .inl (0, 108, .inl (fun k => nI (X.2.2.2.2 k))))]) 2 12 := by
  refine z_of (by decide) rfl (Nat.le_of_ble_eq_true rfl) (fun w0 => ?_)
  refine r_lvE (lv2 := [(0, .ref a), (1, .int x), (2, .int y), (3, .int h), (4, .int st)]) rfl ?_
  refine r_iload_n d_Ip_heatAt_0 rfl 1 rfl ?_
  refine r_iload_n d_Ip_heatAt_1 rfl 2 rfl ?_
  refine r_callS (As := [.int x, .int y]) (rest := []) (csC := []) (is := []) ln_Ip_114 w_st_Ip_cellAt ok_Ip_heatAt_Ip_cellAt d_Ip_heatAt_2 (C_Ip_cellAt g x y) rfl rfl (Nat.le_of_ble_eq_true rfl) rfl (by decide) (by omega) (by omega) (fun E cs1 hx => ?_) (fun v cs1 hx => ?_)
  · simp only [hz] at hx
    exact absurd hx.1 (by simp)
  · simp only [hz] at hx
    obtain ⟨e1, rfl⟩ := hx
    cases e1
    refine ⟨rfl, ?_⟩
    refine r_st (st2 := [.int (nI c)]) rfl ?_
    refine r_cs (cs2 := [(a, .inr (11, [.ref pa, .ref ta, .ref sa, .ref gs, .ref co, .ref fu, .ref la, .ref gy, .ref du, .ref re, .ref wm, .ref ac])), (pa, .inr (8, [.ref pa1, .ref pa2, .ref pa3, .int (nI p)])), (pa1, .inl (1, 108, .inl f)), (pa2, .inl (2, 108, .inl sn)), (pa3, .inl (0, 108, .inl (fun k => nI (qn k)))), (sa, .inr (10, [.ref sa1, .ref sa2, .ref saz, .ref sa4, .ref sa5, .ref sa6, .int X.1.2.2.1, .int X.1.2.2.2])), (sa1, .inl (1, 108, .inl X.1.1)), (sa2, .inl (0, 108, .inl X.1.2.1)), (saz, .inr (2, [.ref saz1, .ref saz2, .ref saz3, .ref saz4, .ref saz5, .ref saz6, .int X.2.1.1.1.2.2.2])), (saz1, .inl (0, 108, .inl X.2.1.1.1.1)), (saz2, .inl (0, 108, .inl X.2.1.1.2)), (saz3, .inl (0, 108, .inl X.2.1.1.1.2.1)), (saz4, .inl (0, 108, .inl X.2.1.1.1.2.2.1)), (saz5, .inl (0, 108, .inl X.2.1.2.1)), (saz6, .inl (0, 108, .inl X.2.1.2.2)), (sa4, .inl (2, 108, .inl X.2.2.1)), (sa5, .inl (2, 108, .inl X.2.2.2.1)), (sa6, .inl (0, 108, .inl (fun k => nI (X.2.2.2.2 k))))]) rfl ?_
    refine r_istore (lv' := [(5, .int (nI c)), (0, .ref a), (1, .int x), (2, .int y), (3, .int h), (4, .int st)]) d_Ip_heatAt_5 (by decide) rfl ?_
    refine r_iload_n d_Ip_heatAt_7 rfl 4 rfl ?_
    refine r_callS (As := [.int h]) (rest := []) (csC := []) (is := []) ln_Ip_158 w_st_Ip_checkHeat ok_Ip_heatAt_Ip_checkHeat d_Ip_heatAt_8 (C_Ip_checkHeat g h) rfl rfl (Nat.le_of_ble_eq_true rfl) rfl (by decide) (by omega) (by omega) (fun E cs1 hx => ?_) (fun v cs1 hx => ?_)
    · simp only [if_neg hh] at hx
      obtain ⟨e1, rfl⟩ := hx
      cases e1
      exact ⟨rfl, rfl, rfl⟩
    · simp only [if_neg hh] at hx
      exact absurd hx.1 (by simp)
theorem d_Ip_heatAt_11 : decode prog_1_method_12_code 11 = .ok (.iload 4, 2) := zo_21 (d := 4) (zd_b zq_prog_1_method_12_code_0 11 rfl rfl rfl) (zd_b zq_prog_1_method_12_code_0 12 rfl rfl rfl)
theorem d_Ip_heatAt_13 : decode prog_1_method_12_code 13 = .ok (.ifCond .lt 11, 3) := zo_155 (d := 0) (e := 11) (zd_b zq_prog_1_method_12_code_0 13 rfl rfl rfl) (zd_b zq_prog_1_method_12_code_0 14 rfl rfl rfl) (zd_b zq_prog_1_method_12_code_0 15 rfl rfl rfl) (by decide +kernel)
theorem d_Ip_heatAt_24 : decode prog_1_method_12_code 24 = .ok (.new 89, 3) := zo_187 (d := 0) (e := 89) (zd_b zq_prog_1_method_12_code_0 24 rfl rfl rfl) (zd_b zq_prog_1_method_12_code_0 25 rfl rfl rfl) (zd_b zq_prog_1_method_12_code_0 26 rfl rfl rfl)
theorem sr_Ip_174 : Cond.stringRef "Ironpour" 174 "a step is 0 to 400" ∈ lw_tbl := z_tb4 (i := 106) rfl
theorem d_Ip_heatAt_27 : decode prog_1_method_12_code 27 = .ok (.dup, 1) := zo_89 (zd_b zq_prog_1_method_12_code_0 27 rfl rfl rfl)
theorem d_Ip_heatAt_28 : decode prog_1_method_12_code 28 = .ok (.ldc 174, 2) := zo_18 (d := 174) (zd_b zq_prog_1_method_12_code_0 28 rfl rfl rfl) (zd_b zq_prog_1_method_12_code_0 29 rfl rfl rfl)
theorem d_Ip_heatAt_30 : decode prog_1_method_12_code 30 = .ok (.invokespecial 93, 3) := zo_183 (d := 0) (e := 93) (zd_b zq_prog_1_method_12_code_0 30 rfl rfl rfl) (zd_b zq_prog_1_method_12_code_0 31 rfl rfl rfl) (zd_b zq_prog_1_method_12_code_1 0 rfl rfl rfl)
theorem d_Ip_heatAt_33 : decode prog_1_method_12_code 33 = .ok (.athrow, 1) := zo_191 (zd_b zq_prog_1_method_12_code_1 1 rfl rfl rfl)
theorem d_Ip_heatAt_16 : decode prog_1_method_12_code 16 = .ok (.iload 4, 2) := zo_21 (d := 4) (zd_b zq_prog_1_method_12_code_0 16 rfl rfl rfl) (zd_b zq_prog_1_method_12_code_0 17 rfl rfl rfl)
theorem d_Ip_heatAt_18 : decode prog_1_method_12_code 18 = .ok (.sipush 400, 3) := zo_17 (d := 1) (e := 144) (zd_b zq_prog_1_method_12_code_0 18 rfl rfl rfl) (zd_b zq_prog_1_method_12_code_0 19 rfl rfl rfl) (zd_b zq_prog_1_method_12_code_0 20 rfl rfl rfl) (by decide +kernel)
theorem d_Ip_heatAt_21 : decode prog_1_method_12_code 21 = .ok (.if_icmp .le 13, 3) := zo_164 (d := 0) (e := 13) (zd_b zq_prog_1_method_12_code_0 21 rfl rfl rfl) (zd_b zq_prog_1_method_12_code_0 22 rfl rfl rfl) (zd_b zq_prog_1_method_12_code_0 23 rfl rfl rfl) (by decide +kernel)
set_option maxHeartbeats 4000000 in
set_option maxRecDepth 100000 in
theorem C_Ip_heatAtG (g : zG) (a pa ta sa gs co fu la gy du re wm ac : Nat) (pa1 pa2 pa3 : Nat) (f sn : Nat → Int32) (qn : Nat → Nat) (p : Nat) (sa1 sa2 saz saz1 saz2 saz3 saz4 saz5 saz6 sa4 sa5 sa6 : Nat) (X : zTr) (x y h st : Int32) (c : Nat) (hz : z_cl x y = some c) (hh : 1200 ≤ h ∧ h ≤ 1500) (hs : st < 0 ∨ 400 < st) : CT g M_Ip_heatAt [.ref a, .int x, .int y, .int h, .int st] [(a, .inr (11, [.ref pa, .ref ta, .ref sa, .ref gs, .ref co, .ref fu, .ref la, .ref gy, .ref du, .ref re, .ref wm, .ref ac])), (pa, .inr (8, [.ref pa1, .ref pa2, .ref pa3, .int (nI p)])), (pa1, .inl (1, 108, .inl f)), (pa2, .inl (2, 108, .inl sn)), (pa3, .inl (0, 108, .inl (fun k => nI (qn k)))), (sa, .inr (10, [.ref sa1, .ref sa2, .ref saz, .ref sa4, .ref sa5, .ref sa6, .int X.1.2.2.1, .int X.1.2.2.2])), (sa1, .inl (1, 108, .inl X.1.1)), (sa2, .inl (0, 108, .inl X.1.2.1)), (saz, .inr (2, [.ref saz1, .ref saz2, .ref saz3, .ref saz4, .ref saz5, .ref saz6, .int X.2.1.1.1.2.2.2])), (saz1, .inl (0, 108, .inl X.2.1.1.1.1)), (saz2, .inl (0, 108, .inl X.2.1.1.2)), (saz3, .inl (0, 108, .inl X.2.1.1.1.2.1)), (saz4, .inl (0, 108, .inl X.2.1.1.1.2.2.1)), (saz5, .inl (0, 108, .inl X.2.1.2.1)), (saz6, .inl (0, 108, .inl X.2.1.2.2)), (sa4, .inl (2, 108, .inl X.2.2.1)), (sa5, .inl (2, 108, .inl X.2.2.2.1)), (sa6, .inl (0, 108, .inl (fun k => nI (X.2.2.2.2 k))))] (fun o cs1 => o = .inr "java/lang/IllegalArgumentException" ∧ cs1 = [(a, .inr (11, [.ref pa, .ref ta, .ref sa, .ref gs, .ref co, .ref fu, .ref la, .ref gy, .ref du, .ref re, .ref wm, .ref ac])), (pa, .inr (8, [.ref pa1, .ref pa2, .ref pa3, .int (nI p)])), (pa1, .inl (1, 108, .inl f)), (pa2, .inl (2, 108, .inl sn)), (pa3, .inl (0, 108, .inl (fun k => nI (qn k)))), (sa, .inr (10, [.ref sa1, .ref sa2, .ref saz, .ref sa4, .ref sa5, .ref sa6, .int X.1.2.2.1, .int X.1.2.2.2])), (sa1, .inl (1, 108, .inl X.1.1)), (sa2, .inl (0, 108, .inl X.1.2.1)), (saz, .inr (2, [.ref saz1, .ref saz2, .ref saz3, .ref saz4, .ref saz5, .ref saz6, .int X.2.1.1.1.2.2.2])), (saz1, .inl (0, 108, .inl X.2.1.1.1.1)), (saz2, .inl (0, 108, .inl X.2.1.1.2)), (saz3, .inl (0, 108, .inl X.2.1.1.1.2.1)), (saz4, .inl (0, 108, .inl X.2.1.1.1.2.2.1)), (saz5, .inl (0, 108, .inl X.2.1.2.1)), (saz6, .inl (0, 108, .inl X.2.1.2.2)), (sa4, .inl (2, 108, .inl X.2.2.1)), (sa5, .inl (2, 108, .inl X.2.2.2.1)), (sa6, .inl (0, 108, .inl (fun k => nI (X.2.2.2.2 k))))]) 3 18 := by
  refine z_of (by decide) rfl (Nat.le_of_ble_eq_true rfl) (fun w0 => ?_)
  refine r_lvE (lv2 := [(0, .ref a), (1, .int x), (2, .int y), (3, .int h), (4, .int st)]) rfl ?_
  refine r_iload_n d_Ip_heatAt_0 rfl 1 rfl ?_
  refine r_iload_n d_Ip_heatAt_1 rfl 2 rfl ?_
  refine r_callS (As := [.int x, .int y]) (rest := []) (csC := []) (is := []) ln_Ip_114 w_st_Ip_cellAt ok_Ip_heatAt_Ip_cellAt d_Ip_heatAt_2 (C_Ip_cellAt g x y) rfl rfl (Nat.le_of_ble_eq_true rfl) rfl (by decide) (by omega) (by omega) (fun E cs1 hx => ?_) (fun v cs1 hx => ?_)
  · simp only [hz] at hx
    exact absurd hx.1 (by simp)
  · simp only [hz] at hx
    obtain ⟨e1, rfl⟩ := hx
    cases e1
    refine ⟨rfl, ?_⟩
    refine r_st (st2 := [.int (nI c)]) rfl ?_
    refine r_cs (cs2 := [(a, .inr (11, [.ref pa, .ref ta, .ref sa, .ref gs, .ref co, .ref fu, .ref la, .ref gy, .ref du, .ref re, .ref wm, .ref ac])), (pa, .inr (8, [.ref pa1, .ref pa2, .ref pa3, .int (nI p)])), (pa1, .inl (1, 108, .inl f)), (pa2, .inl (2, 108, .inl sn)), (pa3, .inl (0, 108, .inl (fun k => nI (qn k)))), (sa, .inr (10, [.ref sa1, .ref sa2, .ref saz, .ref sa4, .ref sa5, .ref sa6, .int X.1.2.2.1, .int X.1.2.2.2])), (sa1, .inl (1, 108, .inl X.1.1)), (sa2, .inl (0, 108, .inl X.1.2.1)), (saz, .inr (2, [.ref saz1, .ref saz2, .ref saz3, .ref saz4, .ref saz5, .ref saz6, .int X.2.1.1.1.2.2.2])), (saz1, .inl (0, 108, .inl X.2.1.1.1.1)), (saz2, .inl (0, 108, .inl X.2.1.1.2)), (saz3, .inl (0, 108, .inl X.2.1.1.1.2.1)), (saz4, .inl (0, 108, .inl X.2.1.1.1.2.2.1)), (saz5, .inl (0, 108, .inl X.2.1.2.1)), (saz6, .inl (0, 108, .inl X.2.1.2.2)), (sa4, .inl (2, 108, .inl X.2.2.1)), (sa5, .inl (2, 108, .inl X.2.2.2.1)), (sa6, .inl (0, 108, .inl (fun k => nI (X.2.2.2.2 k))))]) rfl ?_
    refine r_istore (lv' := [(5, .int (nI c)), (0, .ref a), (1, .int x), (2, .int y), (3, .int h), (4, .int st)]) d_Ip_heatAt_5 (by decide) rfl ?_
    refine r_iload_n d_Ip_heatAt_7 rfl 4 rfl ?_
    refine r_callS (As := [.int h]) (rest := []) (csC := []) (is := []) ln_Ip_158 w_st_Ip_checkHeat ok_Ip_heatAt_Ip_checkHeat d_Ip_heatAt_8 (C_Ip_checkHeat g h) rfl rfl (Nat.le_of_ble_eq_true rfl) rfl (by decide) (by omega) (by omega) (fun E cs1 hx => ?_) (fun v cs1 hx => ?_)
    · simp only [if_pos hh] at hx
      exact absurd hx.1 (by simp)
    · simp only [if_pos hh] at hx
      obtain ⟨e1, rfl⟩ := hx
      cases e1
      refine ⟨rfl, ?_⟩
      refine r_st (st2 := []) rfl ?_
      refine r_cs (cs2 := [(a, .inr (11, [.ref pa, .ref ta, .ref sa, .ref gs, .ref co, .ref fu, .ref la, .ref gy, .ref du, .ref re, .ref wm, .ref ac])), (pa, .inr (8, [.ref pa1, .ref pa2, .ref pa3, .int (nI p)])), (pa1, .inl (1, 108, .inl f)), (pa2, .inl (2, 108, .inl sn)), (pa3, .inl (0, 108, .inl (fun k => nI (qn k)))), (sa, .inr (10, [.ref sa1, .ref sa2, .ref saz, .ref sa4, .ref sa5, .ref sa6, .int X.1.2.2.1, .int X.1.2.2.2])), (sa1, .inl (1, 108, .inl X.1.1)), (sa2, .inl (0, 108, .inl X.1.2.1)), (saz, .inr (2, [.ref saz1, .ref saz2, .ref saz3, .ref saz4, .ref saz5, .ref saz6, .int X.2.1.1.1.2.2.2])), (saz1, .inl (0, 108, .inl X.2.1.1.1.1)), (saz2, .inl (0, 108, .inl X.2.1.1.2)), (saz3, .inl (0, 108, .inl X.2.1.1.1.2.1)), (saz4, .inl (0, 108, .inl X.2.1.1.1.2.2.1)), (saz5, .inl (0, 108, .inl X.2.1.2.1)), (saz6, .inl (0, 108, .inl X.2.1.2.2)), (sa4, .inl (2, 108, .inl X.2.2.1)), (sa5, .inl (2, 108, .inl X.2.2.2.1)), (sa6, .inl (0, 108, .inl (fun k => nI (X.2.2.2.2 k))))]) rfl ?_
      refine r_iload d_Ip_heatAt_11 5 rfl ?_
      refine r_if_lt (tgt := 24) d_Ip_heatAt_13 (by decide) (fun c_13 => ?_) (fun c_13 => ?_)
      · refine r_throw tb_Ip_89_93 sr_Ip_174 d_Ip_heatAt_24 d_Ip_heatAt_27 d_Ip_heatAt_28 d_Ip_heatAt_30 d_Ip_heatAt_33 rfl (by decide) (by decide) (Nat.le_of_ble_eq_true rfl) (by omega) (by omega) ?_
        exact ⟨rfl, rfl⟩
      · refine r_iload d_Ip_heatAt_16 5 rfl ?_
        refine r_sipush d_Ip_heatAt_18 (v := 400) (by decide) ?_
        refine r_icmp_le (tgt := 34) d_Ip_heatAt_21 (by decide) (fun c_21 => ?_) (fun c_21 => ?_)
        · exact absurd hs (fun q => q.elim c_13 (fun e => absurd c_21 (Int32.not_le.mpr e)))
        · refine r_throw tb_Ip_89_93 sr_Ip_174 d_Ip_heatAt_24 d_Ip_heatAt_27 d_Ip_heatAt_28 d_Ip_heatAt_30 d_Ip_heatAt_33 rfl (by decide) (by decide) (Nat.le_of_ble_eq_true rfl) (by omega) (by omega) ?_
          exact ⟨rfl, rfl⟩
theorem d_Ip_heatAt_34 : decode prog_1_method_12_code 34 = .ok (.aload_n 0, 1) := zo_42 (zd_b zq_prog_1_method_12_code_1 2 rfl rfl rfl)
theorem d_Ip_heatAt_35 : decode prog_1_method_12_code 35 = .ok (.getfield 23, 3) := zo_180 (d := 0) (e := 23) (zd_b zq_prog_1_method_12_code_1 3 rfl rfl rfl) (zd_b zq_prog_1_method_12_code_1 4 rfl rfl rfl) (zd_b zq_prog_1_method_12_code_1 5 rfl rfl rfl)
theorem fs_Ip_23 : z_fs "Ironpour" 23 11 2 := ⟨R_Ip, "Ironpour", F_Ip, 12, rfl, u_Ip, by decide, Or.inl ⟨z_mj2 (i := 65) rfl (by decide +kernel), Or.inl rfl⟩⟩
theorem d_Ip_heatAt_38 : decode prog_1_method_12_code 38 = .ok (.aload_n 0, 1) := zo_42 (zd_b zq_prog_1_method_12_code_1 6 rfl rfl rfl)
theorem d_Ip_heatAt_39 : decode prog_1_method_12_code 39 = .ok (.getfield 10, 3) := zo_180 (d := 0) (e := 10) (zd_b zq_prog_1_method_12_code_1 7 rfl rfl rfl) (zd_b zq_prog_1_method_12_code_1 8 rfl rfl rfl) (zd_b zq_prog_1_method_12_code_1 9 rfl rfl rfl)
theorem d_Ip_heatAt_42 : decode prog_1_method_12_code 42 = .ok (.getfield 106, 3) := zo_180 (d := 0) (e := 106) (zd_b zq_prog_1_method_12_code_1 10 rfl rfl rfl) (zd_b zq_prog_1_method_12_code_1 11 rfl rfl rfl) (zd_b zq_prog_1_method_12_code_1 12 rfl rfl rfl)
theorem d_Ip_heatAt_45 : decode prog_1_method_12_code 45 = .ok (.invokevirtual 110, 3) := zo_182 (d := 0) (e := 110) (zd_b zq_prog_1_method_12_code_1 13 rfl rfl rfl) (zd_b zq_prog_1_method_12_code_1 14 rfl rfl rfl) (zd_b zq_prog_1_method_12_code_1 15 rfl rfl rfl)
theorem ok_Ip_heatAt_Tr_take : z_ok M_Ip_heatAt M_Tr_take 1 := ⟨z_mj3 (i := 225) rfl (by decide +kernel), rfl, ⟨by decide +kernel, by decide +kernel, by decide +kernel⟩, ⟨by decide, by decide⟩, z_mj1 (i := 3) rfl (by decide +kernel), rfl⟩
theorem d_Ip_heatAt_48 : decode prog_1_method_12_code 48 = .ok (.aload_n 0, 1) := zo_42 (zd_b zq_prog_1_method_12_code_1 16 rfl rfl rfl)
theorem d_Ip_heatAt_49 : decode prog_1_method_12_code 49 = .ok (.getfield 23, 3) := zo_180 (d := 0) (e := 23) (zd_b zq_prog_1_method_12_code_1 17 rfl rfl rfl) (zd_b zq_prog_1_method_12_code_1 18 rfl rfl rfl) (zd_b zq_prog_1_method_12_code_1 19 rfl rfl rfl)
theorem d_Ip_heatAt_52 : decode prog_1_method_12_code 52 = .ok (.iload_n 3, 1) := zo_29 (zd_b zq_prog_1_method_12_code_1 20 rfl rfl rfl)
theorem d_Ip_heatAt_53 : decode prog_1_method_12_code 53 = .ok (.iload 4, 2) := zo_21 (d := 4) (zd_b zq_prog_1_method_12_code_1 21 rfl rfl rfl) (zd_b zq_prog_1_method_12_code_1 22 rfl rfl rfl)
theorem d_Ip_heatAt_55 : decode prog_1_method_12_code 55 = .ok (.invokevirtual 176, 3) := zo_182 (d := 0) (e := 176) (zd_b zq_prog_1_method_12_code_1 23 rfl rfl rfl) (zd_b zq_prog_1_method_12_code_1 24 rfl rfl rfl) (zd_b zq_prog_1_method_12_code_1 25 rfl rfl rfl)
theorem ok_Ip_heatAt_Tr_cool : z_ok M_Ip_heatAt M_Tr_cool 2 := ⟨z_mj4 (i := 110) rfl (by decide +kernel), rfl, ⟨by decide +kernel, by decide +kernel, by decide +kernel⟩, ⟨by decide, by decide⟩, z_mj1 (i := 3) rfl (by decide +kernel), rfl⟩
theorem ln_Ip_176 : Cond.methodLink "Ironpour" 176 M_Tr_cool.1 ∈ z_gw := z_mj4 (i := 107) rfl (by decide +kernel)
theorem w_im_Tr_cool : Cond.instanceMethod M_Tr_cool.1 ∈ z_gw := z_mj4 (i := 108) rfl (by decide +kernel)
theorem w_se_Tr_cool : Cond.selects M_Tr_cool.1.cls M_Tr_cool.1 M_Tr_cool.1 ∈ z_gw := z_mj4 (i := 109) rfl (by decide +kernel)
theorem d_Ip_heatAt_58 : decode prog_1_method_12_code 58 = .ok (.aload_n 0, 1) := zo_42 (zd_b zq_prog_1_method_12_code_1 26 rfl rfl rfl)
theorem d_Ip_heatAt_59 : decode prog_1_method_12_code 59 = .ok (.getfield 23, 3) := zo_180 (d := 0) (e := 23) (zd_b zq_prog_1_method_12_code_1 27 rfl rfl rfl) (zd_b zq_prog_1_method_12_code_1 28 rfl rfl rfl) (zd_b zq_prog_1_method_12_code_1 29 rfl rfl rfl)
theorem d_Ip_heatAt_62 : decode prog_1_method_12_code 62 = .ok (.getfield 165, 3) := zo_180 (d := 0) (e := 165) (zd_b zq_prog_1_method_12_code_1 30 rfl rfl rfl) (zd_b zq_prog_1_method_12_code_1 31 rfl rfl rfl) (zd_b zq_prog_1_method_12_code_2 0 rfl rfl rfl)
theorem d_Ip_heatAt_65 : decode prog_1_method_12_code 65 = .ok (.getfield 180, 3) := zo_180 (d := 0) (e := 180) (zd_b zq_prog_1_method_12_code_2 1 rfl rfl rfl) (zd_b zq_prog_1_method_12_code_2 2 rfl rfl rfl) (zd_b zq_prog_1_method_12_code_2 3 rfl rfl rfl)
theorem fs_Ip_180 : z_fs "Ironpour" 180 2 0 := ⟨R_Fz, "Ironpour$Freezing", F_Fz, 7, rfl, u_Fz, by decide, Or.inr ⟨"Ironpour", z_mk1 (i := 84) rfl (by decide +kernel), rfl⟩⟩
theorem d_Ip_heatAt_68 : decode prog_1_method_12_code 68 = .ok (.iload 5, 2) := zo_21 (d := 5) (zd_b zq_prog_1_method_12_code_2 4 rfl rfl rfl) (zd_b zq_prog_1_method_12_code_2 5 rfl rfl rfl)
theorem d_Ip_heatAt_70 : decode prog_1_method_12_code 70 = .ok (.iaload, 1) := zo_46 (zd_b zq_prog_1_method_12_code_2 6 rfl rfl rfl)
theorem d_Ip_heatAt_71 : decode prog_1_method_12_code 71 = .ok (.ireturn, 1) := zo_172 (zd_b zq_prog_1_method_12_code_2 7 rfl rfl rfl)
set_option maxHeartbeats 4000000 in
set_option maxRecDepth 100000 in
theorem C_Ip_heatAtN (g : zG) (a pa ta sa gs co fu la gy du re wm ac : Nat) (pa1 pa2 pa3 : Nat) (f sn : Nat → Int32) (qn : Nat → Nat) (p : Nat) (sa1 sa2 saz saz1 saz2 saz3 saz4 saz5 saz6 sa4 sa5 sa6 : Nat) (X : zTr) (x y h : Int32) (ks : Nat) (hks : ks ≤ 400) (hf : z_ch f) (c : Nat) (hz : z_cl x y = some c) (hh : 1200 ≤ h ∧ h ≤ 1500) : CT g M_Ip_heatAt [.ref a, .int x, .int y, .int h, .int (nI ks)] [(a, .inr (11, [.ref pa, .ref ta, .ref sa, .ref gs, .ref co, .ref fu, .ref la, .ref gy, .ref du, .ref re, .ref wm, .ref ac])), (pa, .inr (8, [.ref pa1, .ref pa2, .ref pa3, .int (nI p)])), (pa1, .inl (1, 108, .inl f)), (pa2, .inl (2, 108, .inl sn)), (pa3, .inl (0, 108, .inl (fun k => nI (qn k)))), (sa, .inr (10, [.ref sa1, .ref sa2, .ref saz, .ref sa4, .ref sa5, .ref sa6, .int X.1.2.2.1, .int X.1.2.2.2])), (sa1, .inl (1, 108, .inl X.1.1)), (sa2, .inl (0, 108, .inl X.1.2.1)), (saz, .inr (2, [.ref saz1, .ref saz2, .ref saz3, .ref saz4, .ref saz5, .ref saz6, .int X.2.1.1.1.2.2.2])), (saz1, .inl (0, 108, .inl X.2.1.1.1.1)), (saz2, .inl (0, 108, .inl X.2.1.1.2)), (saz3, .inl (0, 108, .inl X.2.1.1.1.2.1)), (saz4, .inl (0, 108, .inl X.2.1.1.1.2.2.1)), (saz5, .inl (0, 108, .inl X.2.1.2.1)), (saz6, .inl (0, 108, .inl X.2.1.2.2)), (sa4, .inl (2, 108, .inl X.2.2.1)), (sa5, .inl (2, 108, .inl X.2.2.2.1)), (sa6, .inl (0, 108, .inl (fun k => nI (X.2.2.2.2 k))))] (fun o cs1 => o = .inl (some (.int ((clT h ks (tkT f X)).2.1.1.1.1 c))) ∧ cs1 = [(a, .inr (11, [.ref pa, .ref ta, .ref sa, .ref gs, .ref co, .ref fu, .ref la, .ref gy, .ref du, .ref re, .ref wm, .ref ac])), (pa, .inr (8, [.ref pa1, .ref pa2, .ref pa3, .int (nI p)])), (pa1, .inl (1, 108, .inl f)), (pa2, .inl (2, 108, .inl sn)), (pa3, .inl (0, 108, .inl (fun k => nI (qn k)))), (sa, .inr (10, [.ref sa1, .ref sa2, .ref saz, .ref sa4, .ref sa5, .ref sa6, .int ((clT h ks (tkT f X)).1.2.2.1), .int ((clT h ks (tkT f X)).1.2.2.2)])), (sa1, .inl (1, 108, .inl ((clT h ks (tkT f X)).1.1))), (sa2, .inl (0, 108, .inl ((clT h ks (tkT f X)).1.2.1))), (saz, .inr (2, [.ref saz1, .ref saz2, .ref saz3, .ref saz4, .ref saz5, .ref saz6, .int ((clT h ks (tkT f X)).2.1.1.1.2.2.2)])), (saz1, .inl (0, 108, .inl ((clT h ks (tkT f X)).2.1.1.1.1))), (saz2, .inl (0, 108, .inl ((clT h ks (tkT f X)).2.1.1.2))), (saz3, .inl (0, 108, .inl ((clT h ks (tkT f X)).2.1.1.1.2.1))), (saz4, .inl (0, 108, .inl ((clT h ks (tkT f X)).2.1.1.1.2.2.1))), (saz5, .inl (0, 108, .inl ((clT h ks (tkT f X)).2.1.2.1))), (saz6, .inl (0, 108, .inl ((clT h ks (tkT f X)).2.1.2.2))), (sa4, .inl (2, 108, .inl ((clT h ks (tkT f X)).2.2.1))), (sa5, .inl (2, 108, .inl ((clT h ks (tkT f X)).2.2.2.1))), (sa6, .inl (0, 108, .inl (fun k => nI ((clT h ks (tkT f X)).2.2.2.2 k))))]) 2 12 := by
  refine z_of (by decide) rfl (Nat.le_of_ble_eq_true rfl) (fun w0 => ?_)
  refine r_lvE (lv2 := [(0, .ref a), (1, .int x), (2, .int y), (3, .int h), (4, .int (nI ks))]) rfl ?_
  have hc := z_cl_lt hz
  refine r_iload_n d_Ip_heatAt_0 rfl 1 rfl ?_
  refine r_iload_n d_Ip_heatAt_1 rfl 2 rfl ?_
  refine r_callS (As := [.int x, .int y]) (rest := []) (csC := []) (is := []) ln_Ip_114 w_st_Ip_cellAt ok_Ip_heatAt_Ip_cellAt d_Ip_heatAt_2 (C_Ip_cellAt g x y) rfl rfl (Nat.le_of_ble_eq_true rfl) rfl (by decide) (by omega) (by omega) (fun E cs1 hx => ?_) (fun v cs1 hx => ?_)
  · simp only [hz] at hx
    exact absurd hx.1 (by simp)
  · simp only [hz] at hx
    obtain ⟨e1, rfl⟩ := hx
    cases e1
    refine ⟨rfl, ?_⟩
    refine r_st (st2 := [.int (nI c)]) rfl ?_
    refine r_cs (cs2 := [(a, .inr (11, [.ref pa, .ref ta, .ref sa, .ref gs, .ref co, .ref fu, .ref la, .ref gy, .ref du, .ref re, .ref wm, .ref ac])), (pa, .inr (8, [.ref pa1, .ref pa2, .ref pa3, .int (nI p)])), (pa1, .inl (1, 108, .inl f)), (pa2, .inl (2, 108, .inl sn)), (pa3, .inl (0, 108, .inl (fun k => nI (qn k)))), (sa, .inr (10, [.ref sa1, .ref sa2, .ref saz, .ref sa4, .ref sa5, .ref sa6, .int X.1.2.2.1, .int X.1.2.2.2])), (sa1, .inl (1, 108, .inl X.1.1)), (sa2, .inl (0, 108, .inl X.1.2.1)), (saz, .inr (2, [.ref saz1, .ref saz2, .ref saz3, .ref saz4, .ref saz5, .ref saz6, .int X.2.1.1.1.2.2.2])), (saz1, .inl (0, 108, .inl X.2.1.1.1.1)), (saz2, .inl (0, 108, .inl X.2.1.1.2)), (saz3, .inl (0, 108, .inl X.2.1.1.1.2.1)), (saz4, .inl (0, 108, .inl X.2.1.1.1.2.2.1)), (saz5, .inl (0, 108, .inl X.2.1.2.1)), (saz6, .inl (0, 108, .inl X.2.1.2.2)), (sa4, .inl (2, 108, .inl X.2.2.1)), (sa5, .inl (2, 108, .inl X.2.2.2.1)), (sa6, .inl (0, 108, .inl (fun k => nI (X.2.2.2.2 k))))]) rfl ?_
    refine r_istore (lv' := [(5, .int (nI c)), (0, .ref a), (1, .int x), (2, .int y), (3, .int h), (4, .int (nI ks))]) d_Ip_heatAt_5 (by decide) rfl ?_
    refine r_iload_n d_Ip_heatAt_7 rfl 4 rfl ?_
    refine r_callS (As := [.int h]) (rest := []) (csC := []) (is := []) ln_Ip_158 w_st_Ip_checkHeat ok_Ip_heatAt_Ip_checkHeat d_Ip_heatAt_8 (C_Ip_checkHeat g h) rfl rfl (Nat.le_of_ble_eq_true rfl) rfl (by decide) (by omega) (by omega) (fun E cs1 hx => ?_) (fun v cs1 hx => ?_)
    · simp only [if_pos hh] at hx
      exact absurd hx.1 (by simp)
    · simp only [if_pos hh] at hx
      obtain ⟨e1, rfl⟩ := hx
      cases e1
      refine ⟨rfl, ?_⟩
      refine r_st (st2 := []) rfl ?_
      refine r_cs (cs2 := [(a, .inr (11, [.ref pa, .ref ta, .ref sa, .ref gs, .ref co, .ref fu, .ref la, .ref gy, .ref du, .ref re, .ref wm, .ref ac])), (pa, .inr (8, [.ref pa1, .ref pa2, .ref pa3, .int (nI p)])), (pa1, .inl (1, 108, .inl f)), (pa2, .inl (2, 108, .inl sn)), (pa3, .inl (0, 108, .inl (fun k => nI (qn k)))), (sa, .inr (10, [.ref sa1, .ref sa2, .ref saz, .ref sa4, .ref sa5, .ref sa6, .int X.1.2.2.1, .int X.1.2.2.2])), (sa1, .inl (1, 108, .inl X.1.1)), (sa2, .inl (0, 108, .inl X.1.2.1)), (saz, .inr (2, [.ref saz1, .ref saz2, .ref saz3, .ref saz4, .ref saz5, .ref saz6, .int X.2.1.1.1.2.2.2])), (saz1, .inl (0, 108, .inl X.2.1.1.1.1)), (saz2, .inl (0, 108, .inl X.2.1.1.2)), (saz3, .inl (0, 108, .inl X.2.1.1.1.2.1)), (saz4, .inl (0, 108, .inl X.2.1.1.1.2.2.1)), (saz5, .inl (0, 108, .inl X.2.1.2.1)), (saz6, .inl (0, 108, .inl X.2.1.2.2)), (sa4, .inl (2, 108, .inl X.2.2.1)), (sa5, .inl (2, 108, .inl X.2.2.2.1)), (sa6, .inl (0, 108, .inl (fun k => nI (X.2.2.2.2 k))))]) rfl ?_
      refine r_iload d_Ip_heatAt_11 5 rfl ?_
      refine r_if_lt (tgt := 24) d_Ip_heatAt_13 (by decide) (fun c_13 => ?_) (fun c_13 => ?_)
      · exact absurd c_13 (nI_nneg (by omega))
      · refine r_iload d_Ip_heatAt_16 5 rfl ?_
        refine r_sipush d_Ip_heatAt_18 (v := 400) (by decide) ?_
        refine r_icmp_le (tgt := 34) d_Ip_heatAt_21 (by decide) (fun c_21 => ?_) (fun c_21 => ?_)
        · refine r_aload_n d_Ip_heatAt_34 rfl 1 rfl ?_
          refine r_get fs_Ip_23 d_Ip_heatAt_35 (q0 := 0) rfl rfl ?_
          refine r_aload_n d_Ip_heatAt_38 rfl 1 rfl ?_
          refine r_get fs_Ip_10 d_Ip_heatAt_39 (q0 := 0) rfl rfl ?_
          refine r_get fs_Ip_106 d_Ip_heatAt_42 (q0 := 1) rfl rfl ?_
          refine r_callV (As := [.ref pa1]) (rest := []) (csC := [(sa, .inr (10, [.ref sa1, .ref sa2, .ref saz, .ref sa4, .ref sa5, .ref sa6, .int X.1.2.2.1, .int X.1.2.2.2])), (sa1, .inl (1, 108, .inl X.1.1)), (pa1, .inl (1, 108, .inl f))]) (is := [5, 6, 2]) (q0 := 5) rfl rfl ln_Ip_110 w_im_Tr_take w_se_Tr_take ok_Ip_heatAt_Tr_take d_Ip_heatAt_45 (C_Tr_take g sa sa1 sa2 saz sa4 sa5 sa6 X.1.2.2.1 X.1.2.2.2 pa1 f X.1.1 hf) rfl rfl (Nat.le_of_ble_eq_true rfl) rfl (by decide) (by omega) (by omega) (fun E cs1 hx => ?_) (fun v cs1 hx => ?_)
          · exact absurd hx.1 (by simp)
          · obtain ⟨e1, rfl⟩ := hx
            cases e1
            refine ⟨rfl, ?_⟩
            refine r_st (st2 := []) rfl ?_
            refine r_cs (cs2 := [(a, .inr (11, [.ref pa, .ref ta, .ref sa, .ref gs, .ref co, .ref fu, .ref la, .ref gy, .ref du, .ref re, .ref wm, .ref ac])), (pa, .inr (8, [.ref pa1, .ref pa2, .ref pa3, .int (nI p)])), (pa1, .inl (1, 108, .inl f)), (pa2, .inl (2, 108, .inl sn)), (pa3, .inl (0, 108, .inl (fun k => nI (qn k)))), (sa, .inr (10, [.ref sa1, .ref sa2, .ref saz, .ref sa4, .ref sa5, .ref sa6, .int ((tkT f X).1.2.2.1), .int ((tkT f X).1.2.2.2)])), (sa1, .inl (1, 108, .inl ((tkT f X).1.1))), (sa2, .inl (0, 108, .inl X.1.2.1)), (saz, .inr (2, [.ref saz1, .ref saz2, .ref saz3, .ref saz4, .ref saz5, .ref saz6, .int X.2.1.1.1.2.2.2])), (saz1, .inl (0, 108, .inl X.2.1.1.1.1)), (saz2, .inl (0, 108, .inl X.2.1.1.2)), (saz3, .inl (0, 108, .inl X.2.1.1.1.2.1)), (saz4, .inl (0, 108, .inl X.2.1.1.1.2.2.1)), (saz5, .inl (0, 108, .inl X.2.1.2.1)), (saz6, .inl (0, 108, .inl X.2.1.2.2)), (sa4, .inl (2, 108, .inl X.2.2.1)), (sa5, .inl (2, 108, .inl X.2.2.2.1)), (sa6, .inl (0, 108, .inl (fun k => nI (X.2.2.2.2 k))))]) rfl ?_
            refine r_aload_n d_Ip_heatAt_48 rfl 1 rfl ?_
            refine r_get fs_Ip_23 d_Ip_heatAt_49 (q0 := 0) rfl rfl ?_
            refine r_iload_n d_Ip_heatAt_52 rfl 4 rfl ?_
            refine r_iload d_Ip_heatAt_53 5 rfl ?_
            refine r_callV (As := [.int h, .int (nI ks)]) (rest := []) (csC := [(sa, .inr (10, [.ref sa1, .ref sa2, .ref saz, .ref sa4, .ref sa5, .ref sa6, .int ((tkT f X).1.2.2.1), .int ((tkT f X).1.2.2.2)])), (sa1, .inl (1, 108, .inl ((tkT f X).1.1))), (sa2, .inl (0, 108, .inl X.1.2.1)), (saz, .inr (2, [.ref saz1, .ref saz2, .ref saz3, .ref saz4, .ref saz5, .ref saz6, .int X.2.1.1.1.2.2.2])), (saz1, .inl (0, 108, .inl X.2.1.1.1.1)), (saz2, .inl (0, 108, .inl X.2.1.1.2)), (saz3, .inl (0, 108, .inl X.2.1.1.1.2.1)), (saz4, .inl (0, 108, .inl X.2.1.1.1.2.2.1)), (saz5, .inl (0, 108, .inl X.2.1.2.1)), (saz6, .inl (0, 108, .inl X.2.1.2.2)), (sa4, .inl (2, 108, .inl X.2.2.1)), (sa5, .inl (2, 108, .inl X.2.2.2.1)), (sa6, .inl (0, 108, .inl (fun k => nI (X.2.2.2.2 k))))]) (is := [5, 6, 7, 8, 9, 10, 11, 12, 13, 14, 15, 16, 17]) (q0 := 5) rfl rfl ln_Ip_176 w_im_Tr_cool w_se_Tr_cool ok_Ip_heatAt_Tr_cool d_Ip_heatAt_55 (X_cool g sa sa1 sa2 saz saz1 saz2 saz3 saz4 saz5 saz6 sa4 sa5 sa6 h ks hks (tkT f X)) rfl rfl (Nat.le_of_ble_eq_true rfl) rfl (by decide) (by omega) (by omega) (fun E cs1 hx => ?_) (fun v cs1 hx => ?_)
            · exact absurd hx.1 (by simp)
            · obtain ⟨e1, rfl⟩ := hx
              cases e1
              refine ⟨rfl, ?_⟩
              refine r_st (st2 := []) rfl ?_
              refine r_cs (cs2 := [(a, .inr (11, [.ref pa, .ref ta, .ref sa, .ref gs, .ref co, .ref fu, .ref la, .ref gy, .ref du, .ref re, .ref wm, .ref ac])), (pa, .inr (8, [.ref pa1, .ref pa2, .ref pa3, .int (nI p)])), (pa1, .inl (1, 108, .inl f)), (pa2, .inl (2, 108, .inl sn)), (pa3, .inl (0, 108, .inl (fun k => nI (qn k)))), (sa, .inr (10, [.ref sa1, .ref sa2, .ref saz, .ref sa4, .ref sa5, .ref sa6, .int ((clT h ks (tkT f X)).1.2.2.1), .int ((clT h ks (tkT f X)).1.2.2.2)])), (sa1, .inl (1, 108, .inl ((clT h ks (tkT f X)).1.1))), (sa2, .inl (0, 108, .inl ((clT h ks (tkT f X)).1.2.1))), (saz, .inr (2, [.ref saz1, .ref saz2, .ref saz3, .ref saz4, .ref saz5, .ref saz6, .int ((clT h ks (tkT f X)).2.1.1.1.2.2.2)])), (saz1, .inl (0, 108, .inl ((clT h ks (tkT f X)).2.1.1.1.1))), (saz2, .inl (0, 108, .inl ((clT h ks (tkT f X)).2.1.1.2))), (saz3, .inl (0, 108, .inl ((clT h ks (tkT f X)).2.1.1.1.2.1))), (saz4, .inl (0, 108, .inl ((clT h ks (tkT f X)).2.1.1.1.2.2.1))), (saz5, .inl (0, 108, .inl ((clT h ks (tkT f X)).2.1.2.1))), (saz6, .inl (0, 108, .inl ((clT h ks (tkT f X)).2.1.2.2))), (sa4, .inl (2, 108, .inl ((clT h ks (tkT f X)).2.2.1))), (sa5, .inl (2, 108, .inl ((clT h ks (tkT f X)).2.2.2.1))), (sa6, .inl (0, 108, .inl (fun k => nI ((clT h ks (tkT f X)).2.2.2.2 k))))]) rfl ?_
              refine r_aload_n d_Ip_heatAt_58 rfl 1 rfl ?_
              refine r_get fs_Ip_23 d_Ip_heatAt_59 (q0 := 0) rfl rfl ?_
              refine r_get fs_Ip_165 d_Ip_heatAt_62 (q0 := 5) rfl rfl ?_
              refine r_get fs_Ip_180 d_Ip_heatAt_65 (q0 := 8) rfl rfl ?_
              refine r_iload d_Ip_heatAt_68 0 rfl ?_
              refine r_iald d_Ip_heatAt_70 (q0 := 9) rfl (vp_in_nI (by omega) (by omega)) (v := ((clT h ks (tkT f X)).2.1.1.1.1) c) (by rw [nI_clamp (by omega)]) ?_
              refine r_iret d_Ip_heatAt_71 rfl rfl ?_
              exact ⟨rfl, rfl⟩
        · exact absurd (z_nle (b := 400) (by decide) (by omega) c_21) (by omega)
