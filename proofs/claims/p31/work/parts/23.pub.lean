def lfX (X : zTr) : Int32 := (lfS X.1.1 X.1.2.1 X.2.1.1.1.2.2.1 108).1
theorem X_lastFrozen (g : zG) (a a1 a2 az az1 az2 az3 az4 az5 az6 a4 a5 a6 : Nat) (X : zTr) : CT g M_Tr_lastFrozen [.ref a] [(a, .inr (10, [.ref a1, .ref a2, .ref az, .ref a4, .ref a5, .ref a6, .int X.1.2.2.1, .int X.1.2.2.2])), (a1, .inl (1, 108, .inl X.1.1)), (a2, .inl (0, 108, .inl X.1.2.1)), (az, .inr (2, [.ref az1, .ref az2, .ref az3, .ref az4, .ref az5, .ref az6, .int X.2.1.1.1.2.2.2])), (az4, .inl (0, 108, .inl X.2.1.1.1.2.2.1)), (a4, .inl (2, 108, .inl X.2.2.1)), (a5, .inl (2, 108, .inl X.2.2.2.1)), (a6, .inl (0, 108, .inl (fun k => nI (X.2.2.2.2 k))))] (fun o cs1 => o = .inl (some (.int (lfX X))) ∧ cs1 = [(a, .inr (10, [.ref a1, .ref a2, .ref az, .ref a4, .ref a5, .ref a6, .int X.1.2.2.1, .int X.1.2.2.2])), (a1, .inl (1, 108, .inl X.1.1)), (a2, .inl (0, 108, .inl X.1.2.1)), (az, .inr (2, [.ref az1, .ref az2, .ref az3, .ref az4, .ref az5, .ref az6, .int X.2.1.1.1.2.2.2])), (az4, .inl (0, 108, .inl X.2.1.1.1.2.2.1)), (a4, .inl (2, 108, .inl X.2.2.1)), (a5, .inl (2, 108, .inl X.2.2.2.1)), (a6, .inl (0, 108, .inl (fun k => nI (X.2.2.2.2 k))))]) 0 0 := by
  unfold lfX
  exact C_Tr_lastFrozen g a a1 a2 az az1 az2 az3 az4 az5 az6 a4 a5 a6 X.1.2.2.1 X.1.2.2.2 X.2.1.1.1.2.2.2 X.1.1 X.1.2.1 X.2.1.1.1.2.2.1 X.2.2.1 X.2.2.2.1 X.2.2.2.2
theorem X_cellsWithoutWay (g : zG) (a a1 a2 az az1 az2 az3 az4 az5 az6 a4 a5 a6 : Nat) (X : zTr) : CT g M_Tr_cellsWithoutWay [.ref a] [(a, .inr (10, [.ref a1, .ref a2, .ref az, .ref a4, .ref a5, .ref a6, .int X.1.2.2.1, .int X.1.2.2.2])), (a1, .inl (1, 108, .inl X.1.1)), (a2, .inl (0, 108, .inl X.1.2.1)), (az, .inr (2, [.ref az1, .ref az2, .ref az3, .ref az4, .ref az5, .ref az6, .int X.2.1.1.1.2.2.2])), (az4, .inl (0, 108, .inl X.2.1.1.1.2.2.1)), (a4, .inl (2, 108, .inl X.2.2.1)), (a5, .inl (2, 108, .inl X.2.2.2.1)), (a6, .inl (0, 108, .inl (fun k => nI (X.2.2.2.2 k))))] (fun o cs1 => o = .inl (some (.int (nI (cwX X).2.2))) ∧ cs1 = [(a, .inr (10, [.ref a1, .ref a2, .ref az, .ref a4, .ref a5, .ref a6, .int ((swT X (cwX X).1 (cwX X).2.1).1.2.2.1), .int ((swT X (cwX X).1 (cwX X).2.1).1.2.2.2)])), (a1, .inl (1, 108, .inl ((swT X (cwX X).1 (cwX X).2.1).1.1))), (a2, .inl (0, 108, .inl ((swT X (cwX X).1 (cwX X).2.1).1.2.1))), (az, .inr (2, [.ref az1, .ref az2, .ref az3, .ref az4, .ref az5, .ref az6, .int ((swT X (cwX X).1 (cwX X).2.1).2.1.1.1.2.2.2)])), (az4, .inl (0, 108, .inl ((swT X (cwX X).1 (cwX X).2.1).2.1.1.1.2.2.1))), (a4, .inl (2, 108, .inl ((swT X (cwX X).1 (cwX X).2.1).2.2.1))), (a5, .inl (2, 108, .inl ((swT X (cwX X).1 (cwX X).2.1).2.2.2.1))), (a6, .inl (0, 108, .inl (fun k => nI ((swT X (cwX X).1 (cwX X).2.1).2.2.2.2 k))))]) 0 0 := by
  unfold swT cwX
  dsimp only
  exact C_Tr_cellsWithoutWay g a a1 a2 az az1 az2 az3 az4 az5 az6 a4 a5 a6 X.1.2.2.1 X.1.2.2.2 X.2.1.1.1.2.2.2 X.1.1 X.1.2.1 X.2.1.1.1.2.2.1 X.2.2.1 X.2.2.2.1 X.2.2.2.2
theorem d_Ip_lastPlace_4 : decode prog_1_method_16_code 4 = .ok (.aload_n 0, 1) := zo_42 (zd_b zq_prog_1_method_16_code_0 4 rfl rfl rfl)
theorem d_Ip_lastPlace_5 : decode prog_1_method_16_code 5 = .ok (.getfield 19, 3) := zo_180 (d := 0) (e := 19) (zd_b zq_prog_1_method_16_code_0 5 rfl rfl rfl) (zd_b zq_prog_1_method_16_code_0 6 rfl rfl rfl) (zd_b zq_prog_1_method_16_code_0 7 rfl rfl rfl)
theorem d_Ip_lastPlace_8 : decode prog_1_method_16_code 8 = .ok (.iload_n 1, 1) := zo_27 (zd_b zq_prog_1_method_16_code_0 8 rfl rfl rfl)
theorem d_Ip_lastPlace_9 : decode prog_1_method_16_code 9 = .ok (.invokevirtual 162, 3) := zo_182 (d := 0) (e := 162) (zd_b zq_prog_1_method_16_code_0 9 rfl rfl rfl) (zd_b zq_prog_1_method_16_code_0 10 rfl rfl rfl) (zd_b zq_prog_1_method_16_code_0 11 rfl rfl rfl)
theorem ok_Ip_lastPlace_Tr_freeze : z_ok M_Ip_lastPlace M_Tr_freeze 1 := ⟨z_mj2 (i := 208) rfl (by decide +kernel), rfl, ⟨by decide +kernel, by decide +kernel, by decide +kernel⟩, ⟨by decide, by decide⟩, z_mj1 (i := 3) rfl (by decide +kernel), rfl⟩
theorem d_Ip_lastPlace_12 : decode prog_1_method_16_code 12 = .ok (.aload_n 0, 1) := zo_42 (zd_b zq_prog_1_method_16_code_0 12 rfl rfl rfl)
theorem d_Ip_lastPlace_13 : decode prog_1_method_16_code 13 = .ok (.getfield 19, 3) := zo_180 (d := 0) (e := 19) (zd_b zq_prog_1_method_16_code_0 13 rfl rfl rfl) (zd_b zq_prog_1_method_16_code_0 14 rfl rfl rfl) (zd_b zq_prog_1_method_16_code_0 15 rfl rfl rfl)
theorem d_Ip_lastPlace_16 : decode prog_1_method_16_code 16 = .ok (.invokevirtual 193, 3) := zo_182 (d := 0) (e := 193) (zd_b zq_prog_1_method_16_code_0 16 rfl rfl rfl) (zd_b zq_prog_1_method_16_code_0 17 rfl rfl rfl) (zd_b zq_prog_1_method_16_code_0 18 rfl rfl rfl)
theorem ok_Ip_lastPlace_Tr_lastFrozen : z_ok M_Ip_lastPlace M_Tr_lastFrozen 0 := ⟨z_mj4 (i := 150) rfl (by decide +kernel), rfl, ⟨by decide +kernel, by decide +kernel, by decide +kernel⟩, ⟨by decide, by decide⟩, z_mj1 (i := 3) rfl (by decide +kernel), rfl⟩
theorem ln_Ip_193 : Cond.methodLink "Ironpour" 193 M_Tr_lastFrozen.1 ∈ z_gw := z_mj4 (i := 147) rfl (by decide +kernel)
theorem w_im_Tr_lastFrozen : Cond.instanceMethod M_Tr_lastFrozen.1 ∈ z_gw := z_mj4 (i := 148) rfl (by decide +kernel)
theorem w_se_Tr_lastFrozen : Cond.selects M_Tr_lastFrozen.1.cls M_Tr_lastFrozen.1 M_Tr_lastFrozen.1 ∈ z_gw := z_mj4 (i := 149) rfl (by decide +kernel)
theorem d_Ip_lastPlace_19 : decode prog_1_method_16_code 19 = .ok (.istore_n 2, 1) := zo_61 (zd_b zq_prog_1_method_16_code_0 19 rfl rfl rfl)
theorem d_Ip_lastPlace_20 : decode prog_1_method_16_code 20 = .ok (.iload_n 2, 1) := zo_28 (zd_b zq_prog_1_method_16_code_0 20 rfl rfl rfl)
theorem d_Ip_lastPlace_21 : decode prog_1_method_16_code 21 = .ok (.ifCond .ge 13, 3) := zo_156 (d := 0) (e := 13) (zd_b zq_prog_1_method_16_code_0 21 rfl rfl rfl) (zd_b zq_prog_1_method_16_code_0 22 rfl rfl rfl) (zd_b zq_prog_1_method_16_code_0 23 rfl rfl rfl) (by decide +kernel)
theorem d_Ip_lastPlace_24 : decode prog_1_method_16_code 24 = .ok (.new 150, 3) := zo_187 (d := 0) (e := 150) (zd_b zq_prog_1_method_16_code_0 24 rfl rfl rfl) (zd_b zq_prog_1_method_16_code_0 25 rfl rfl rfl) (zd_b zq_prog_1_method_16_code_0 26 rfl rfl rfl)
theorem sr_Ip_196 : Cond.stringRef "Ironpour" 196 "no cell of the casting is filled" ∈ lw_tbl := z_tb4 (i := 151) rfl
theorem d_Ip_lastPlace_27 : decode prog_1_method_16_code 27 = .ok (.dup, 1) := zo_89 (zd_b zq_prog_1_method_16_code_0 27 rfl rfl rfl)
theorem d_Ip_lastPlace_28 : decode prog_1_method_16_code 28 = .ok (.ldc 196, 2) := zo_18 (d := 196) (zd_b zq_prog_1_method_16_code_0 28 rfl rfl rfl) (zd_b zq_prog_1_method_16_code_0 29 rfl rfl rfl)
theorem d_Ip_lastPlace_30 : decode prog_1_method_16_code 30 = .ok (.invokespecial 154, 3) := zo_183 (d := 0) (e := 154) (zd_b zq_prog_1_method_16_code_0 30 rfl rfl rfl) (zd_b zq_prog_1_method_16_code_0 31 rfl rfl rfl) (zd_b zq_prog_1_method_16_code_1 0 rfl rfl rfl)
theorem d_Ip_lastPlace_33 : decode prog_1_method_16_code 33 = .ok (.athrow, 1) := zo_191 (zd_b zq_prog_1_method_16_code_1 1 rfl rfl rfl)
set_option maxHeartbeats 4000000 in
set_option maxRecDepth 100000 in
theorem C_Ip_lastPlaceF (g : zG) (a pa ta sa gs co fu la gy du re wm ac : Nat) (ta1 ta2 taz taz1 taz2 taz3 taz4 taz5 taz6 ta4 ta5 ta6 : Nat) (X : zTr) (h : Int32) (hh : 1200 ≤ h ∧ h ≤ 1500) (hl : lfX (frT h X) < 0) : CT g M_Ip_lastPlace [.ref a, .int h] [(a, .inr (11, [.ref pa, .ref ta, .ref sa, .ref gs, .ref co, .ref fu, .ref la, .ref gy, .ref du, .ref re, .ref wm, .ref ac])), (ta, .inr (10, [.ref ta1, .ref ta2, .ref taz, .ref ta4, .ref ta5, .ref ta6, .int X.1.2.2.1, .int X.1.2.2.2])), (ta1, .inl (1, 108, .inl X.1.1)), (ta2, .inl (0, 108, .inl X.1.2.1)), (taz, .inr (2, [.ref taz1, .ref taz2, .ref taz3, .ref taz4, .ref taz5, .ref taz6, .int X.2.1.1.1.2.2.2])), (taz1, .inl (0, 108, .inl X.2.1.1.1.1)), (taz2, .inl (0, 108, .inl X.2.1.1.2)), (taz3, .inl (0, 108, .inl X.2.1.1.1.2.1)), (taz4, .inl (0, 108, .inl X.2.1.1.1.2.2.1)), (taz5, .inl (0, 108, .inl X.2.1.2.1)), (taz6, .inl (0, 108, .inl X.2.1.2.2)), (ta4, .inl (2, 108, .inl X.2.2.1)), (ta5, .inl (2, 108, .inl X.2.2.2.1)), (ta6, .inl (0, 108, .inl (fun k => nI (X.2.2.2.2 k))))] (fun o cs1 => o = .inr "java/util/NoSuchElementException" ∧ cs1 = [(a, .inr (11, [.ref pa, .ref ta, .ref sa, .ref gs, .ref co, .ref fu, .ref la, .ref gy, .ref du, .ref re, .ref wm, .ref ac])), (ta, .inr (10, [.ref ta1, .ref ta2, .ref taz, .ref ta4, .ref ta5, .ref ta6, .int ((frT h X).1.2.2.1), .int ((frT h X).1.2.2.2)])), (ta1, .inl (1, 108, .inl ((frT h X).1.1))), (ta2, .inl (0, 108, .inl ((frT h X).1.2.1))), (taz, .inr (2, [.ref taz1, .ref taz2, .ref taz3, .ref taz4, .ref taz5, .ref taz6, .int ((frT h X).2.1.1.1.2.2.2)])), (taz1, .inl (0, 108, .inl ((frT h X).2.1.1.1.1))), (taz2, .inl (0, 108, .inl ((frT h X).2.1.1.2))), (taz3, .inl (0, 108, .inl ((frT h X).2.1.1.1.2.1))), (taz4, .inl (0, 108, .inl ((frT h X).2.1.1.1.2.2.1))), (taz5, .inl (0, 108, .inl ((frT h X).2.1.2.1))), (taz6, .inl (0, 108, .inl ((frT h X).2.1.2.2))), (ta4, .inl (2, 108, .inl ((frT h X).2.2.1))), (ta5, .inl (2, 108, .inl ((frT h X).2.2.2.1))), (ta6, .inl (0, 108, .inl (fun k => nI ((frT h X).2.2.2.2 k))))]) 2 12 := by
  refine z_of (by decide) rfl (Nat.le_of_ble_eq_true rfl) (fun w0 => ?_)
  refine r_lvE (lv2 := [(0, .ref a), (1, .int h)]) rfl ?_
  refine r_iload_n d_Ip_lastPlace_0 rfl 1 rfl ?_
  refine r_callS (As := [.int h]) (rest := []) (csC := []) (is := []) ln_Ip_158 w_st_Ip_checkHeat ok_Ip_lastPlace_Ip_checkHeat d_Ip_lastPlace_1 (C_Ip_checkHeat g h) rfl rfl (Nat.le_of_ble_eq_true rfl) rfl (by decide) (by omega) (by omega) (fun E cs1 hx => ?_) (fun v cs1 hx => ?_)
  · simp only [if_pos hh] at hx
    exact absurd hx.1 (by simp)
  · simp only [if_pos hh] at hx
    obtain ⟨e1, rfl⟩ := hx
    cases e1
    refine ⟨rfl, ?_⟩
    refine r_st (st2 := []) rfl ?_
    refine r_cs (cs2 := [(a, .inr (11, [.ref pa, .ref ta, .ref sa, .ref gs, .ref co, .ref fu, .ref la, .ref gy, .ref du, .ref re, .ref wm, .ref ac])), (ta, .inr (10, [.ref ta1, .ref ta2, .ref taz, .ref ta4, .ref ta5, .ref ta6, .int X.1.2.2.1, .int X.1.2.2.2])), (ta1, .inl (1, 108, .inl X.1.1)), (ta2, .inl (0, 108, .inl X.1.2.1)), (taz, .inr (2, [.ref taz1, .ref taz2, .ref taz3, .ref taz4, .ref taz5, .ref taz6, .int X.2.1.1.1.2.2.2])), (taz1, .inl (0, 108, .inl X.2.1.1.1.1)), (taz2, .inl (0, 108, .inl X.2.1.1.2)), (taz3, .inl (0, 108, .inl X.2.1.1.1.2.1)), (taz4, .inl (0, 108, .inl X.2.1.1.1.2.2.1)), (taz5, .inl (0, 108, .inl X.2.1.2.1)), (taz6, .inl (0, 108, .inl X.2.1.2.2)), (ta4, .inl (2, 108, .inl X.2.2.1)), (ta5, .inl (2, 108, .inl X.2.2.2.1)), (ta6, .inl (0, 108, .inl (fun k => nI (X.2.2.2.2 k))))]) rfl ?_
    refine r_aload_n d_Ip_lastPlace_4 rfl 0 rfl ?_
    refine r_get fs_Ip_19 d_Ip_lastPlace_5 (q0 := 0) rfl rfl ?_
    refine r_iload_n d_Ip_lastPlace_8 rfl 1 rfl ?_
    refine r_callV (As := [.int h]) (rest := []) (csC := [(ta, .inr (10, [.ref ta1, .ref ta2, .ref taz, .ref ta4, .ref ta5, .ref ta6, .int X.1.2.2.1, .int X.1.2.2.2])), (ta1, .inl (1, 108, .inl X.1.1)), (ta2, .inl (0, 108, .inl X.1.2.1)), (taz, .inr (2, [.ref taz1, .ref taz2, .ref taz3, .ref taz4, .ref taz5, .ref taz6, .int X.2.1.1.1.2.2.2])), (taz1, .inl (0, 108, .inl X.2.1.1.1.1)), (taz2, .inl (0, 108, .inl X.2.1.1.2)), (taz3, .inl (0, 108, .inl X.2.1.1.1.2.1)), (taz4, .inl (0, 108, .inl X.2.1.1.1.2.2.1)), (taz5, .inl (0, 108, .inl X.2.1.2.1)), (taz6, .inl (0, 108, .inl X.2.1.2.2)), (ta4, .inl (2, 108, .inl X.2.2.1)), (ta5, .inl (2, 108, .inl X.2.2.2.1)), (ta6, .inl (0, 108, .inl (fun k => nI (X.2.2.2.2 k))))]) (is := [1, 2, 3, 4, 5, 6, 7, 8, 9, 10, 11, 12, 13]) (q0 := 1) rfl rfl ln_Ip_162 w_im_Tr_freeze w_se_Tr_freeze ok_Ip_lastPlace_Tr_freeze d_Ip_lastPlace_9 (X_freeze g ta ta1 ta2 taz taz1 taz2 taz3 taz4 taz5 taz6 ta4 ta5 ta6 h X) rfl rfl (Nat.le_of_ble_eq_true rfl) rfl (by decide) (by omega) (by omega) (fun E cs1 hx => ?_) (fun v cs1 hx => ?_)
    · exact absurd hx.1 (by simp)
    · obtain ⟨e1, rfl⟩ := hx
      cases e1
      refine ⟨rfl, ?_⟩
      refine r_st (st2 := []) rfl ?_
      refine r_cs (cs2 := [(a, .inr (11, [.ref pa, .ref ta, .ref sa, .ref gs, .ref co, .ref fu, .ref la, .ref gy, .ref du, .ref re, .ref wm, .ref ac])), (ta, .inr (10, [.ref ta1, .ref ta2, .ref taz, .ref ta4, .ref ta5, .ref ta6, .int ((frT h X).1.2.2.1), .int ((frT h X).1.2.2.2)])), (ta1, .inl (1, 108, .inl ((frT h X).1.1))), (ta2, .inl (0, 108, .inl ((frT h X).1.2.1))), (taz, .inr (2, [.ref taz1, .ref taz2, .ref taz3, .ref taz4, .ref taz5, .ref taz6, .int ((frT h X).2.1.1.1.2.2.2)])), (taz1, .inl (0, 108, .inl ((frT h X).2.1.1.1.1))), (taz2, .inl (0, 108, .inl ((frT h X).2.1.1.2))), (taz3, .inl (0, 108, .inl ((frT h X).2.1.1.1.2.1))), (taz4, .inl (0, 108, .inl ((frT h X).2.1.1.1.2.2.1))), (taz5, .inl (0, 108, .inl ((frT h X).2.1.2.1))), (taz6, .inl (0, 108, .inl ((frT h X).2.1.2.2))), (ta4, .inl (2, 108, .inl ((frT h X).2.2.1))), (ta5, .inl (2, 108, .inl ((frT h X).2.2.2.1))), (ta6, .inl (0, 108, .inl (fun k => nI ((frT h X).2.2.2.2 k))))]) rfl ?_
      refine r_aload_n d_Ip_lastPlace_12 rfl 0 rfl ?_
      refine r_get fs_Ip_19 d_Ip_lastPlace_13 (q0 := 0) rfl rfl ?_
      refine r_callV (As := []) (rest := []) (csC := [(ta, .inr (10, [.ref ta1, .ref ta2, .ref taz, .ref ta4, .ref ta5, .ref ta6, .int ((frT h X).1.2.2.1), .int ((frT h X).1.2.2.2)])), (ta1, .inl (1, 108, .inl ((frT h X).1.1))), (ta2, .inl (0, 108, .inl ((frT h X).1.2.1))), (taz, .inr (2, [.ref taz1, .ref taz2, .ref taz3, .ref taz4, .ref taz5, .ref taz6, .int ((frT h X).2.1.1.1.2.2.2)])), (taz4, .inl (0, 108, .inl ((frT h X).2.1.1.1.2.2.1))), (ta4, .inl (2, 108, .inl ((frT h X).2.2.1))), (ta5, .inl (2, 108, .inl ((frT h X).2.2.2.1))), (ta6, .inl (0, 108, .inl (fun k => nI ((frT h X).2.2.2.2 k))))]) (is := [1, 2, 3, 4, 8, 11, 12, 13]) (q0 := 1) rfl rfl ln_Ip_193 w_im_Tr_lastFrozen w_se_Tr_lastFrozen ok_Ip_lastPlace_Tr_lastFrozen d_Ip_lastPlace_16 (X_lastFrozen g ta ta1 ta2 taz taz1 taz2 taz3 taz4 taz5 taz6 ta4 ta5 ta6 (frT h X)) rfl rfl (Nat.le_of_ble_eq_true rfl) rfl (by decide) (by omega) (by omega) (fun E cs1 hx => ?_) (fun v cs1 hx => ?_)
      · exact absurd hx.1 (by simp)
      · obtain ⟨e1, rfl⟩ := hx
        cases e1
        refine ⟨rfl, ?_⟩
        refine r_st (st2 := [.int (lfX (frT h X))]) rfl ?_
        refine r_cs (cs2 := [(a, .inr (11, [.ref pa, .ref ta, .ref sa, .ref gs, .ref co, .ref fu, .ref la, .ref gy, .ref du, .ref re, .ref wm, .ref ac])), (ta, .inr (10, [.ref ta1, .ref ta2, .ref taz, .ref ta4, .ref ta5, .ref ta6, .int ((frT h X).1.2.2.1), .int ((frT h X).1.2.2.2)])), (ta1, .inl (1, 108, .inl ((frT h X).1.1))), (ta2, .inl (0, 108, .inl ((frT h X).1.2.1))), (taz, .inr (2, [.ref taz1, .ref taz2, .ref taz3, .ref taz4, .ref taz5, .ref taz6, .int ((frT h X).2.1.1.1.2.2.2)])), (taz1, .inl (0, 108, .inl ((frT h X).2.1.1.1.1))), (taz2, .inl (0, 108, .inl ((frT h X).2.1.1.2))), (taz3, .inl (0, 108, .inl ((frT h X).2.1.1.1.2.1))), (taz4, .inl (0, 108, .inl ((frT h X).2.1.1.1.2.2.1))), (taz5, .inl (0, 108, .inl ((frT h X).2.1.2.1))), (taz6, .inl (0, 108, .inl ((frT h X).2.1.2.2))), (ta4, .inl (2, 108, .inl ((frT h X).2.2.1))), (ta5, .inl (2, 108, .inl ((frT h X).2.2.2.1))), (ta6, .inl (0, 108, .inl (fun k => nI ((frT h X).2.2.2.2 k))))]) rfl ?_
        refine r_istore_n (lv' := [(2, .int (lfX (frT h X))), (0, .ref a), (1, .int h)]) d_Ip_lastPlace_19 rfl (by decide) rfl ?_
        refine r_iload_n d_Ip_lastPlace_20 rfl 0 rfl ?_
        refine r_if_ge (tgt := 34) d_Ip_lastPlace_21 (by decide) (fun c_21 => ?_) (fun c_21 => ?_)
        · exact absurd hl (Int32.not_lt.mpr c_21)
        · refine r_throwX tb_Ip_150_154 sr_Ip_196 d_Ip_lastPlace_24 d_Ip_lastPlace_27 d_Ip_lastPlace_28 d_Ip_lastPlace_30 d_Ip_lastPlace_33 rfl (by decide) (by decide) (Nat.le_of_ble_eq_true rfl) (by omega) (by omega) ?_
          exact ⟨rfl, rfl⟩
theorem d_Ip_lastPlace_34 : decode prog_1_method_16_code 34 = .ok (.iload_n 2, 1) := zo_28 (zd_b zq_prog_1_method_16_code_1 2 rfl rfl rfl)
theorem d_Ip_lastPlace_35 : decode prog_1_method_16_code 35 = .ok (.ireturn, 1) := zo_172 (zd_b zq_prog_1_method_16_code_1 3 rfl rfl rfl)
set_option maxHeartbeats 4000000 in
set_option maxRecDepth 100000 in
theorem C_Ip_lastPlaceN (g : zG) (a pa ta sa gs co fu la gy du re wm ac : Nat) (ta1 ta2 taz taz1 taz2 taz3 taz4 taz5 taz6 ta4 ta5 ta6 : Nat) (X : zTr) (h : Int32) (hh : 1200 ≤ h ∧ h ≤ 1500) (hl : ¬ lfX (frT h X) < 0) : CT g M_Ip_lastPlace [.ref a, .int h] [(a, .inr (11, [.ref pa, .ref ta, .ref sa, .ref gs, .ref co, .ref fu, .ref la, .ref gy, .ref du, .ref re, .ref wm, .ref ac])), (ta, .inr (10, [.ref ta1, .ref ta2, .ref taz, .ref ta4, .ref ta5, .ref ta6, .int X.1.2.2.1, .int X.1.2.2.2])), (ta1, .inl (1, 108, .inl X.1.1)), (ta2, .inl (0, 108, .inl X.1.2.1)), (taz, .inr (2, [.ref taz1, .ref taz2, .ref taz3, .ref taz4, .ref taz5, .ref taz6, .int X.2.1.1.1.2.2.2])), (taz1, .inl (0, 108, .inl X.2.1.1.1.1)), (taz2, .inl (0, 108, .inl X.2.1.1.2)), (taz3, .inl (0, 108, .inl X.2.1.1.1.2.1)), (taz4, .inl (0, 108, .inl X.2.1.1.1.2.2.1)), (taz5, .inl (0, 108, .inl X.2.1.2.1)), (taz6, .inl (0, 108, .inl X.2.1.2.2)), (ta4, .inl (2, 108, .inl X.2.2.1)), (ta5, .inl (2, 108, .inl X.2.2.2.1)), (ta6, .inl (0, 108, .inl (fun k => nI (X.2.2.2.2 k))))] (fun o cs1 => o = .inl (some (.int (lfX (frT h X)))) ∧ cs1 = [(a, .inr (11, [.ref pa, .ref ta, .ref sa, .ref gs, .ref co, .ref fu, .ref la, .ref gy, .ref du, .ref re, .ref wm, .ref ac])), (ta, .inr (10, [.ref ta1, .ref ta2, .ref taz, .ref ta4, .ref ta5, .ref ta6, .int ((frT h X).1.2.2.1), .int ((frT h X).1.2.2.2)])), (ta1, .inl (1, 108, .inl ((frT h X).1.1))), (ta2, .inl (0, 108, .inl ((frT h X).1.2.1))), (taz, .inr (2, [.ref taz1, .ref taz2, .ref taz3, .ref taz4, .ref taz5, .ref taz6, .int ((frT h X).2.1.1.1.2.2.2)])), (taz1, .inl (0, 108, .inl ((frT h X).2.1.1.1.1))), (taz2, .inl (0, 108, .inl ((frT h X).2.1.1.2))), (taz3, .inl (0, 108, .inl ((frT h X).2.1.1.1.2.1))), (taz4, .inl (0, 108, .inl ((frT h X).2.1.1.1.2.2.1))), (taz5, .inl (0, 108, .inl ((frT h X).2.1.2.1))), (taz6, .inl (0, 108, .inl ((frT h X).2.1.2.2))), (ta4, .inl (2, 108, .inl ((frT h X).2.2.1))), (ta5, .inl (2, 108, .inl ((frT h X).2.2.2.1))), (ta6, .inl (0, 108, .inl (fun k => nI ((frT h X).2.2.2.2 k))))]) 2 12 := by
  refine z_of (by decide) rfl (Nat.le_of_ble_eq_true rfl) (fun w0 => ?_)
  refine r_lvE (lv2 := [(0, .ref a), (1, .int h)]) rfl ?_
  refine r_iload_n d_Ip_lastPlace_0 rfl 1 rfl ?_
  refine r_callS (As := [.int h]) (rest := []) (csC := []) (is := []) ln_Ip_158 w_st_Ip_checkHeat ok_Ip_lastPlace_Ip_checkHeat d_Ip_lastPlace_1 (C_Ip_checkHeat g h) rfl rfl (Nat.le_of_ble_eq_true rfl) rfl (by decide) (by omega) (by omega) (fun E cs1 hx => ?_) (fun v cs1 hx => ?_)
  · simp only [if_pos hh] at hx
    exact absurd hx.1 (by simp)
  · simp only [if_pos hh] at hx
    obtain ⟨e1, rfl⟩ := hx
    cases e1
    refine ⟨rfl, ?_⟩
    refine r_st (st2 := []) rfl ?_
    refine r_cs (cs2 := [(a, .inr (11, [.ref pa, .ref ta, .ref sa, .ref gs, .ref co, .ref fu, .ref la, .ref gy, .ref du, .ref re, .ref wm, .ref ac])), (ta, .inr (10, [.ref ta1, .ref ta2, .ref taz, .ref ta4, .ref ta5, .ref ta6, .int X.1.2.2.1, .int X.1.2.2.2])), (ta1, .inl (1, 108, .inl X.1.1)), (ta2, .inl (0, 108, .inl X.1.2.1)), (taz, .inr (2, [.ref taz1, .ref taz2, .ref taz3, .ref taz4, .ref taz5, .ref taz6, .int X.2.1.1.1.2.2.2])), (taz1, .inl (0, 108, .inl X.2.1.1.1.1)), (taz2, .inl (0, 108, .inl X.2.1.1.2)), (taz3, .inl (0, 108, .inl X.2.1.1.1.2.1)), (taz4, .inl (0, 108, .inl X.2.1.1.1.2.2.1)), (taz5, .inl (0, 108, .inl X.2.1.2.1)), (taz6, .inl (0, 108, .inl X.2.1.2.2)), (ta4, .inl (2, 108, .inl X.2.2.1)), (ta5, .inl (2, 108, .inl X.2.2.2.1)), (ta6, .inl (0, 108, .inl (fun k => nI (X.2.2.2.2 k))))]) rfl ?_
    refine r_aload_n d_Ip_lastPlace_4 rfl 0 rfl ?_
    refine r_get fs_Ip_19 d_Ip_lastPlace_5 (q0 := 0) rfl rfl ?_
    refine r_iload_n d_Ip_lastPlace_8 rfl 1 rfl ?_
    refine r_callV (As := [.int h]) (rest := []) (csC := [(ta, .inr (10, [.ref ta1, .ref ta2, .ref taz, .ref ta4, .ref ta5, .ref ta6, .int X.1.2.2.1, .int X.1.2.2.2])), (ta1, .inl (1, 108, .inl X.1.1)), (ta2, .inl (0, 108, .inl X.1.2.1)), (taz, .inr (2, [.ref taz1, .ref taz2, .ref taz3, .ref taz4, .ref taz5, .ref taz6, .int X.2.1.1.1.2.2.2])), (taz1, .inl (0, 108, .inl X.2.1.1.1.1)), (taz2, .inl (0, 108, .inl X.2.1.1.2)), (taz3, .inl (0, 108, .inl X.2.1.1.1.2.1)), (taz4, .inl (0, 108, .inl X.2.1.1.1.2.2.1)), (taz5, .inl (0, 108, .inl X.2.1.2.1)), (taz6, .inl (0, 108, .inl X.2.1.2.2)), (ta4, .inl (2, 108, .inl X.2.2.1)), (ta5, .inl (2, 108, .inl X.2.2.2.1)), (ta6, .inl (0, 108, .inl (fun k => nI (X.2.2.2.2 k))))]) (is := [1, 2, 3, 4, 5, 6, 7, 8, 9, 10, 11, 12, 13]) (q0 := 1) rfl rfl ln_Ip_162 w_im_Tr_freeze w_se_Tr_freeze ok_Ip_lastPlace_Tr_freeze d_Ip_lastPlace_9 (X_freeze g ta ta1 ta2 taz taz1 taz2 taz3 taz4 taz5 taz6 ta4 ta5 ta6 h X) rfl rfl (Nat.le_of_ble_eq_true rfl) rfl (by decide) (by omega) (by omega) (fun E cs1 hx => ?_) (fun v cs1 hx => ?_)
    · exact absurd hx.1 (by simp)
    · obtain ⟨e1, rfl⟩ := hx
      cases e1
      refine ⟨rfl, ?_⟩
      refine r_st (st2 := []) rfl ?_
      refine r_cs (cs2 := [(a, .inr (11, [.ref pa, .ref ta, .ref sa, .ref gs, .ref co, .ref fu, .ref la, .ref gy, .ref du, .ref re, .ref wm, .ref ac])), (ta, .inr (10, [.ref ta1, .ref ta2, .ref taz, .ref ta4, .ref ta5, .ref ta6, .int ((frT h X).1.2.2.1), .int ((frT h X).1.2.2.2)])), (ta1, .inl (1, 108, .inl ((frT h X).1.1))), (ta2, .inl (0, 108, .inl ((frT h X).1.2.1))), (taz, .inr (2, [.ref taz1, .ref taz2, .ref taz3, .ref taz4, .ref taz5, .ref taz6, .int ((frT h X).2.1.1.1.2.2.2)])), (taz1, .inl (0, 108, .inl ((frT h X).2.1.1.1.1))), (taz2, .inl (0, 108, .inl ((frT h X).2.1.1.2))), (taz3, .inl (0, 108, .inl ((frT h X).2.1.1.1.2.1))), (taz4, .inl (0, 108, .inl ((frT h X).2.1.1.1.2.2.1))), (taz5, .inl (0, 108, .inl ((frT h X).2.1.2.1))), (taz6, .inl (0, 108, .inl ((frT h X).2.1.2.2))), (ta4, .inl (2, 108, .inl ((frT h X).2.2.1))), (ta5, .inl (2, 108, .inl ((frT h X).2.2.2.1))), (ta6, .inl (0, 108, .inl (fun k => nI ((frT h X).2.2.2.2 k))))]) rfl ?_
      refine r_aload_n d_Ip_lastPlace_12 rfl 0 rfl ?_
      refine r_get fs_Ip_19 d_Ip_lastPlace_13 (q0 := 0) rfl rfl ?_
      refine r_callV (As := []) (rest := []) (csC := [(ta, .inr (10, [.ref ta1, .ref ta2, .ref taz, .ref ta4, .ref ta5, .ref ta6, .int ((frT h X).1.2.2.1), .int ((frT h X).1.2.2.2)])), (ta1, .inl (1, 108, .inl ((frT h X).1.1))), (ta2, .inl (0, 108, .inl ((frT h X).1.2.1))), (taz, .inr (2, [.ref taz1, .ref taz2, .ref taz3, .ref taz4, .ref taz5, .ref taz6, .int ((frT h X).2.1.1.1.2.2.2)])), (taz4, .inl (0, 108, .inl ((frT h X).2.1.1.1.2.2.1))), (ta4, .inl (2, 108, .inl ((frT h X).2.2.1))), (ta5, .inl (2, 108, .inl ((frT h X).2.2.2.1))), (ta6, .inl (0, 108, .inl (fun k => nI ((frT h X).2.2.2.2 k))))]) (is := [1, 2, 3, 4, 8, 11, 12, 13]) (q0 := 1) rfl rfl ln_Ip_193 w_im_Tr_lastFrozen w_se_Tr_lastFrozen ok_Ip_lastPlace_Tr_lastFrozen d_Ip_lastPlace_16 (X_lastFrozen g ta ta1 ta2 taz taz1 taz2 taz3 taz4 taz5 taz6 ta4 ta5 ta6 (frT h X)) rfl rfl (Nat.le_of_ble_eq_true rfl) rfl (by decide) (by omega) (by omega) (fun E cs1 hx => ?_) (fun v cs1 hx => ?_)
      · exact absurd hx.1 (by simp)
      · obtain ⟨e1, rfl⟩ := hx
        cases e1
        refine ⟨rfl, ?_⟩
        refine r_st (st2 := [.int (lfX (frT h X))]) rfl ?_
        refine r_cs (cs2 := [(a, .inr (11, [.ref pa, .ref ta, .ref sa, .ref gs, .ref co, .ref fu, .ref la, .ref gy, .ref du, .ref re, .ref wm, .ref ac])), (ta, .inr (10, [.ref ta1, .ref ta2, .ref taz, .ref ta4, .ref ta5, .ref ta6, .int ((frT h X).1.2.2.1), .int ((frT h X).1.2.2.2)])), (ta1, .inl (1, 108, .inl ((frT h X).1.1))), (ta2, .inl (0, 108, .inl ((frT h X).1.2.1))), (taz, .inr (2, [.ref taz1, .ref taz2, .ref taz3, .ref taz4, .ref taz5, .ref taz6, .int ((frT h X).2.1.1.1.2.2.2)])), (taz1, .inl (0, 108, .inl ((frT h X).2.1.1.1.1))), (taz2, .inl (0, 108, .inl ((frT h X).2.1.1.2))), (taz3, .inl (0, 108, .inl ((frT h X).2.1.1.1.2.1))), (taz4, .inl (0, 108, .inl ((frT h X).2.1.1.1.2.2.1))), (taz5, .inl (0, 108, .inl ((frT h X).2.1.2.1))), (taz6, .inl (0, 108, .inl ((frT h X).2.1.2.2))), (ta4, .inl (2, 108, .inl ((frT h X).2.2.1))), (ta5, .inl (2, 108, .inl ((frT h X).2.2.2.1))), (ta6, .inl (0, 108, .inl (fun k => nI ((frT h X).2.2.2.2 k))))]) rfl ?_
        refine r_istore_n (lv' := [(2, .int (lfX (frT h X))), (0, .ref a), (1, .int h)]) d_Ip_lastPlace_19 rfl (by decide) rfl ?_
        refine r_iload_n d_Ip_lastPlace_20 rfl 0 rfl ?_
        refine r_if_ge (tgt := 34) d_Ip_lastPlace_21 (by decide) (fun c_21 => ?_) (fun c_21 => ?_)
        · refine r_iload_n d_Ip_lastPlace_34 rfl 0 rfl ?_
          refine r_iret d_Ip_lastPlace_35 rfl rfl ?_
          exact ⟨rfl, rfl⟩
        · exact absurd (Int32.not_le.mp c_21) hl
theorem d_Ip_shrunkAnew_4 : decode prog_1_method_15_code 4 = .ok (.aload_n 0, 1) := zo_42 (zd_b zq_prog_1_method_15_code_0 4 rfl rfl rfl)
theorem d_Ip_shrunkAnew_5 : decode prog_1_method_15_code 5 = .ok (.getfield 19, 3) := zo_180 (d := 0) (e := 19) (zd_b zq_prog_1_method_15_code_0 5 rfl rfl rfl) (zd_b zq_prog_1_method_15_code_0 6 rfl rfl rfl) (zd_b zq_prog_1_method_15_code_0 7 rfl rfl rfl)
theorem d_Ip_shrunkAnew_8 : decode prog_1_method_15_code 8 = .ok (.iload_n 1, 1) := zo_27 (zd_b zq_prog_1_method_15_code_0 8 rfl rfl rfl)
theorem d_Ip_shrunkAnew_9 : decode prog_1_method_15_code 9 = .ok (.invokevirtual 162, 3) := zo_182 (d := 0) (e := 162) (zd_b zq_prog_1_method_15_code_0 9 rfl rfl rfl) (zd_b zq_prog_1_method_15_code_0 10 rfl rfl rfl) (zd_b zq_prog_1_method_15_code_0 11 rfl rfl rfl)
theorem ok_Ip_shrunkAnew_Tr_freeze : z_ok M_Ip_shrunkAnew M_Tr_freeze 1 := ⟨z_mj2 (i := 208) rfl (by decide +kernel), rfl, ⟨by decide +kernel, by decide +kernel, by decide +kernel⟩, ⟨by decide, by decide⟩, z_mj1 (i := 3) rfl (by decide +kernel), rfl⟩
theorem d_Ip_shrunkAnew_12 : decode prog_1_method_15_code 12 = .ok (.aload_n 0, 1) := zo_42 (zd_b zq_prog_1_method_15_code_0 12 rfl rfl rfl)
theorem d_Ip_shrunkAnew_13 : decode prog_1_method_15_code 13 = .ok (.getfield 19, 3) := zo_180 (d := 0) (e := 19) (zd_b zq_prog_1_method_15_code_0 13 rfl rfl rfl) (zd_b zq_prog_1_method_15_code_0 14 rfl rfl rfl) (zd_b zq_prog_1_method_15_code_0 15 rfl rfl rfl)
theorem d_Ip_shrunkAnew_16 : decode prog_1_method_15_code 16 = .ok (.invokevirtual 190, 3) := zo_182 (d := 0) (e := 190) (zd_b zq_prog_1_method_15_code_0 16 rfl rfl rfl) (zd_b zq_prog_1_method_15_code_0 17 rfl rfl rfl) (zd_b zq_prog_1_method_15_code_0 18 rfl rfl rfl)
theorem ok_Ip_shrunkAnew_Tr_cellsWithoutWay : z_ok M_Ip_shrunkAnew M_Tr_cellsWithoutWay 0 := ⟨z_mj4 (i := 139) rfl (by decide +kernel), rfl, ⟨by decide +kernel, by decide +kernel, by decide +kernel⟩, ⟨by decide, by decide⟩, z_mj1 (i := 3) rfl (by decide +kernel), rfl⟩
theorem ln_Ip_190 : Cond.methodLink "Ironpour" 190 M_Tr_cellsWithoutWay.1 ∈ z_gw := z_mj4 (i := 136) rfl (by decide +kernel)
theorem w_im_Tr_cellsWithoutWay : Cond.instanceMethod M_Tr_cellsWithoutWay.1 ∈ z_gw := z_mj4 (i := 137) rfl (by decide +kernel)
theorem w_se_Tr_cellsWithoutWay : Cond.selects M_Tr_cellsWithoutWay.1.cls M_Tr_cellsWithoutWay.1 M_Tr_cellsWithoutWay.1 ∈ z_gw := z_mj4 (i := 138) rfl (by decide +kernel)
theorem d_Ip_shrunkAnew_19 : decode prog_1_method_15_code 19 = .ok (.ireturn, 1) := zo_172 (zd_b zq_prog_1_method_15_code_0 19 rfl rfl rfl)
set_option maxHeartbeats 4000000 in
set_option maxRecDepth 100000 in
theorem C_Ip_shrunkAnewN (g : zG) (a pa ta sa gs co fu la gy du re wm ac : Nat) (ta1 ta2 taz taz1 taz2 taz3 taz4 taz5 taz6 ta4 ta5 ta6 : Nat) (X : zTr) (h : Int32) (hh : 1200 ≤ h ∧ h ≤ 1500) : CT g M_Ip_shrunkAnew [.ref a, .int h] [(a, .inr (11, [.ref pa, .ref ta, .ref sa, .ref gs, .ref co, .ref fu, .ref la, .ref gy, .ref du, .ref re, .ref wm, .ref ac])), (ta, .inr (10, [.ref ta1, .ref ta2, .ref taz, .ref ta4, .ref ta5, .ref ta6, .int X.1.2.2.1, .int X.1.2.2.2])), (ta1, .inl (1, 108, .inl X.1.1)), (ta2, .inl (0, 108, .inl X.1.2.1)), (taz, .inr (2, [.ref taz1, .ref taz2, .ref taz3, .ref taz4, .ref taz5, .ref taz6, .int X.2.1.1.1.2.2.2])), (taz1, .inl (0, 108, .inl X.2.1.1.1.1)), (taz2, .inl (0, 108, .inl X.2.1.1.2)), (taz3, .inl (0, 108, .inl X.2.1.1.1.2.1)), (taz4, .inl (0, 108, .inl X.2.1.1.1.2.2.1)), (taz5, .inl (0, 108, .inl X.2.1.2.1)), (taz6, .inl (0, 108, .inl X.2.1.2.2)), (ta4, .inl (2, 108, .inl X.2.2.1)), (ta5, .inl (2, 108, .inl X.2.2.2.1)), (ta6, .inl (0, 108, .inl (fun k => nI (X.2.2.2.2 k))))] (fun o cs1 => o = .inl (some (.int (nI (cwX (frT h X)).2.2))) ∧ cs1 = [(a, .inr (11, [.ref pa, .ref ta, .ref sa, .ref gs, .ref co, .ref fu, .ref la, .ref gy, .ref du, .ref re, .ref wm, .ref ac])), (ta, .inr (10, [.ref ta1, .ref ta2, .ref taz, .ref ta4, .ref ta5, .ref ta6, .int ((swT (frT h X) (cwX (frT h X)).1 (cwX (frT h X)).2.1).1.2.2.1), .int ((swT (frT h X) (cwX (frT h X)).1 (cwX (frT h X)).2.1).1.2.2.2)])), (ta1, .inl (1, 108, .inl ((swT (frT h X) (cwX (frT h X)).1 (cwX (frT h X)).2.1).1.1))), (ta2, .inl (0, 108, .inl ((swT (frT h X) (cwX (frT h X)).1 (cwX (frT h X)).2.1).1.2.1))), (taz, .inr (2, [.ref taz1, .ref taz2, .ref taz3, .ref taz4, .ref taz5, .ref taz6, .int ((swT (frT h X) (cwX (frT h X)).1 (cwX (frT h X)).2.1).2.1.1.1.2.2.2)])), (taz1, .inl (0, 108, .inl ((swT (frT h X) (cwX (frT h X)).1 (cwX (frT h X)).2.1).2.1.1.1.1))), (taz2, .inl (0, 108, .inl ((swT (frT h X) (cwX (frT h X)).1 (cwX (frT h X)).2.1).2.1.1.2))), (taz3, .inl (0, 108, .inl ((swT (frT h X) (cwX (frT h X)).1 (cwX (frT h X)).2.1).2.1.1.1.2.1))), (taz4, .inl (0, 108, .inl ((swT (frT h X) (cwX (frT h X)).1 (cwX (frT h X)).2.1).2.1.1.1.2.2.1))), (taz5, .inl (0, 108, .inl ((swT (frT h X) (cwX (frT h X)).1 (cwX (frT h X)).2.1).2.1.2.1))), (taz6, .inl (0, 108, .inl ((swT (frT h X) (cwX (frT h X)).1 (cwX (frT h X)).2.1).2.1.2.2))), (ta4, .inl (2, 108, .inl ((swT (frT h X) (cwX (frT h X)).1 (cwX (frT h X)).2.1).2.2.1))), (ta5, .inl (2, 108, .inl ((swT (frT h X) (cwX (frT h X)).1 (cwX (frT h X)).2.1).2.2.2.1))), (ta6, .inl (0, 108, .inl (fun k => nI ((swT (frT h X) (cwX (frT h X)).1 (cwX (frT h X)).2.1).2.2.2.2 k))))]) 1 6 := by
  refine z_of (by decide) rfl (Nat.le_of_ble_eq_true rfl) (fun w0 => ?_)
  refine r_lvE (lv2 := [(0, .ref a), (1, .int h)]) rfl ?_
  refine r_iload_n d_Ip_shrunkAnew_0 rfl 1 rfl ?_
  refine r_callS (As := [.int h]) (rest := []) (csC := []) (is := []) ln_Ip_158 w_st_Ip_checkHeat ok_Ip_shrunkAnew_Ip_checkHeat d_Ip_shrunkAnew_1 (C_Ip_checkHeat g h) rfl rfl (Nat.le_of_ble_eq_true rfl) rfl (by decide) (by omega) (by omega) (fun E cs1 hx => ?_) (fun v cs1 hx => ?_)
  · simp only [if_pos hh] at hx
    exact absurd hx.1 (by simp)
  · simp only [if_pos hh] at hx
    obtain ⟨e1, rfl⟩ := hx
    cases e1
    refine ⟨rfl, ?_⟩
    refine r_st (st2 := []) rfl ?_
    refine r_cs (cs2 := [(a, .inr (11, [.ref pa, .ref ta, .ref sa, .ref gs, .ref co, .ref fu, .ref la, .ref gy, .ref du, .ref re, .ref wm, .ref ac])), (ta, .inr (10, [.ref ta1, .ref ta2, .ref taz, .ref ta4, .ref ta5, .ref ta6, .int X.1.2.2.1, .int X.1.2.2.2])), (ta1, .inl (1, 108, .inl X.1.1)), (ta2, .inl (0, 108, .inl X.1.2.1)), (taz, .inr (2, [.ref taz1, .ref taz2, .ref taz3, .ref taz4, .ref taz5, .ref taz6, .int X.2.1.1.1.2.2.2])), (taz1, .inl (0, 108, .inl X.2.1.1.1.1)), (taz2, .inl (0, 108, .inl X.2.1.1.2)), (taz3, .inl (0, 108, .inl X.2.1.1.1.2.1)), (taz4, .inl (0, 108, .inl X.2.1.1.1.2.2.1)), (taz5, .inl (0, 108, .inl X.2.1.2.1)), (taz6, .inl (0, 108, .inl X.2.1.2.2)), (ta4, .inl (2, 108, .inl X.2.2.1)), (ta5, .inl (2, 108, .inl X.2.2.2.1)), (ta6, .inl (0, 108, .inl (fun k => nI (X.2.2.2.2 k))))]) rfl ?_
    refine r_aload_n d_Ip_shrunkAnew_4 rfl 0 rfl ?_
    refine r_get fs_Ip_19 d_Ip_shrunkAnew_5 (q0 := 0) rfl rfl ?_
    refine r_iload_n d_Ip_shrunkAnew_8 rfl 1 rfl ?_
    refine r_callV (As := [.int h]) (rest := []) (csC := [(ta, .inr (10, [.ref ta1, .ref ta2, .ref taz, .ref ta4, .ref ta5, .ref ta6, .int X.1.2.2.1, .int X.1.2.2.2])), (ta1, .inl (1, 108, .inl X.1.1)), (ta2, .inl (0, 108, .inl X.1.2.1)), (taz, .inr (2, [.ref taz1, .ref taz2, .ref taz3, .ref taz4, .ref taz5, .ref taz6, .int X.2.1.1.1.2.2.2])), (taz1, .inl (0, 108, .inl X.2.1.1.1.1)), (taz2, .inl (0, 108, .inl X.2.1.1.2)), (taz3, .inl (0, 108, .inl X.2.1.1.1.2.1)), (taz4, .inl (0, 108, .inl X.2.1.1.1.2.2.1)), (taz5, .inl (0, 108, .inl X.2.1.2.1)), (taz6, .inl (0, 108, .inl X.2.1.2.2)), (ta4, .inl (2, 108, .inl X.2.2.1)), (ta5, .inl (2, 108, .inl X.2.2.2.1)), (ta6, .inl (0, 108, .inl (fun k => nI (X.2.2.2.2 k))))]) (is := [1, 2, 3, 4, 5, 6, 7, 8, 9, 10, 11, 12, 13]) (q0 := 1) rfl rfl ln_Ip_162 w_im_Tr_freeze w_se_Tr_freeze ok_Ip_shrunkAnew_Tr_freeze d_Ip_shrunkAnew_9 (X_freeze g ta ta1 ta2 taz taz1 taz2 taz3 taz4 taz5 taz6 ta4 ta5 ta6 h X) rfl rfl (Nat.le_of_ble_eq_true rfl) rfl (by decide) (by omega) (by omega) (fun E cs1 hx => ?_) (fun v cs1 hx => ?_)
    · exact absurd hx.1 (by simp)
    · obtain ⟨e1, rfl⟩ := hx
      cases e1
      refine ⟨rfl, ?_⟩
      refine r_st (st2 := []) rfl ?_
      refine r_cs (cs2 := [(a, .inr (11, [.ref pa, .ref ta, .ref sa, .ref gs, .ref co, .ref fu, .ref la, .ref gy, .ref du, .ref re, .ref wm, .ref ac])), (ta, .inr (10, [.ref ta1, .ref ta2, .ref taz, .ref ta4, .ref ta5, .ref ta6, .int ((frT h X).1.2.2.1), .int ((frT h X).1.2.2.2)])), (ta1, .inl (1, 108, .inl ((frT h X).1.1))), (ta2, .inl (0, 108, .inl ((frT h X).1.2.1))), (taz, .inr (2, [.ref taz1, .ref taz2, .ref taz3, .ref taz4, .ref taz5, .ref taz6, .int ((frT h X).2.1.1.1.2.2.2)])), (taz1, .inl (0, 108, .inl ((frT h X).2.1.1.1.1))), (taz2, .inl (0, 108, .inl ((frT h X).2.1.1.2))), (taz3, .inl (0, 108, .inl ((frT h X).2.1.1.1.2.1))), (taz4, .inl (0, 108, .inl ((frT h X).2.1.1.1.2.2.1))), (taz5, .inl (0, 108, .inl ((frT h X).2.1.2.1))), (taz6, .inl (0, 108, .inl ((frT h X).2.1.2.2))), (ta4, .inl (2, 108, .inl ((frT h X).2.2.1))), (ta5, .inl (2, 108, .inl ((frT h X).2.2.2.1))), (ta6, .inl (0, 108, .inl (fun k => nI ((frT h X).2.2.2.2 k))))]) rfl ?_
      refine r_aload_n d_Ip_shrunkAnew_12 rfl 0 rfl ?_
      refine r_get fs_Ip_19 d_Ip_shrunkAnew_13 (q0 := 0) rfl rfl ?_
      refine r_callV (As := []) (rest := []) (csC := [(ta, .inr (10, [.ref ta1, .ref ta2, .ref taz, .ref ta4, .ref ta5, .ref ta6, .int ((frT h X).1.2.2.1), .int ((frT h X).1.2.2.2)])), (ta1, .inl (1, 108, .inl ((frT h X).1.1))), (ta2, .inl (0, 108, .inl ((frT h X).1.2.1))), (taz, .inr (2, [.ref taz1, .ref taz2, .ref taz3, .ref taz4, .ref taz5, .ref taz6, .int ((frT h X).2.1.1.1.2.2.2)])), (taz4, .inl (0, 108, .inl ((frT h X).2.1.1.1.2.2.1))), (ta4, .inl (2, 108, .inl ((frT h X).2.2.1))), (ta5, .inl (2, 108, .inl ((frT h X).2.2.2.1))), (ta6, .inl (0, 108, .inl (fun k => nI ((frT h X).2.2.2.2 k))))]) (is := [1, 2, 3, 4, 8, 11, 12, 13]) (q0 := 1) rfl rfl ln_Ip_190 w_im_Tr_cellsWithoutWay w_se_Tr_cellsWithoutWay ok_Ip_shrunkAnew_Tr_cellsWithoutWay d_Ip_shrunkAnew_16 (X_cellsWithoutWay g ta ta1 ta2 taz taz1 taz2 taz3 taz4 taz5 taz6 ta4 ta5 ta6 (frT h X)) rfl rfl (Nat.le_of_ble_eq_true rfl) rfl (by decide) (by omega) (by omega) (fun E cs1 hx => ?_) (fun v cs1 hx => ?_)
      · exact absurd hx.1 (by simp)
      · obtain ⟨e1, rfl⟩ := hx
        cases e1
        refine ⟨rfl, ?_⟩
        refine r_st (st2 := [.int (nI (cwX (frT h X)).2.2)]) rfl ?_
        refine r_cs (cs2 := [(a, .inr (11, [.ref pa, .ref ta, .ref sa, .ref gs, .ref co, .ref fu, .ref la, .ref gy, .ref du, .ref re, .ref wm, .ref ac])), (ta, .inr (10, [.ref ta1, .ref ta2, .ref taz, .ref ta4, .ref ta5, .ref ta6, .int ((swT (frT h X) (cwX (frT h X)).1 (cwX (frT h X)).2.1).1.2.2.1), .int ((swT (frT h X) (cwX (frT h X)).1 (cwX (frT h X)).2.1).1.2.2.2)])), (ta1, .inl (1, 108, .inl ((swT (frT h X) (cwX (frT h X)).1 (cwX (frT h X)).2.1).1.1))), (ta2, .inl (0, 108, .inl ((swT (frT h X) (cwX (frT h X)).1 (cwX (frT h X)).2.1).1.2.1))), (taz, .inr (2, [.ref taz1, .ref taz2, .ref taz3, .ref taz4, .ref taz5, .ref taz6, .int ((swT (frT h X) (cwX (frT h X)).1 (cwX (frT h X)).2.1).2.1.1.1.2.2.2)])), (taz1, .inl (0, 108, .inl ((frT h X).2.1.1.1.1))), (taz2, .inl (0, 108, .inl ((frT h X).2.1.1.2))), (taz3, .inl (0, 108, .inl ((frT h X).2.1.1.1.2.1))), (taz4, .inl (0, 108, .inl ((swT (frT h X) (cwX (frT h X)).1 (cwX (frT h X)).2.1).2.1.1.1.2.2.1))), (taz5, .inl (0, 108, .inl ((frT h X).2.1.2.1))), (taz6, .inl (0, 108, .inl ((frT h X).2.1.2.2))), (ta4, .inl (2, 108, .inl ((swT (frT h X) (cwX (frT h X)).1 (cwX (frT h X)).2.1).2.2.1))), (ta5, .inl (2, 108, .inl ((swT (frT h X) (cwX (frT h X)).1 (cwX (frT h X)).2.1).2.2.2.1))), (ta6, .inl (0, 108, .inl (fun k => nI ((swT (frT h X) (cwX (frT h X)).1 (cwX (frT h X)).2.1).2.2.2.2 k))))]) rfl ?_
        refine r_iret d_Ip_shrunkAnew_19 rfl rfl ?_
        exact ⟨rfl, rfl⟩
abbrev M_Ip_draw : zM := (⟨"Ironpour", "draw", "(CIIII)I"⟩, prog_1_method_2_code, 7, (Option.some FieldType.int), 8, 179, [])
theorem d_Ip_draw_0 : decode prog_1_method_2_code 0 = .ok (.ldc 81, 2) := zo_18 (d := 81) (zd_b zq_prog_1_method_2_code_0 0 rfl rfl rfl) (zd_b zq_prog_1_method_2_code_0 1 rfl rfl rfl)
theorem d_Ip_draw_2 : decode prog_1_method_2_code 2 = .ok (.iload_n 1, 1) := zo_27 (zd_b zq_prog_1_method_2_code_0 2 rfl rfl rfl)
theorem d_Ip_draw_3 : decode prog_1_method_2_code 3 = .ok (.invokevirtual 83, 3) := zo_182 (d := 0) (e := 83) (zd_b zq_prog_1_method_2_code_0 3 rfl rfl rfl) (zd_b zq_prog_1_method_2_code_0 4 rfl rfl rfl) (zd_b zq_prog_1_method_2_code_0 5 rfl rfl rfl)
theorem ok_Ip_draw_String_indexOf_0 : z_ok M_Ip_draw M_String_indexOf_0 1 := ⟨z_mj3 (i := 58) rfl (by decide +kernel), rfl, ⟨by decide +kernel, by decide +kernel, by decide +kernel⟩, ⟨by decide, by decide⟩, z_mj1 (i := 15) rfl (by decide +kernel), rfl⟩
theorem ln_Ip_83 : Cond.methodLink "Ironpour" 83 M_String_indexOf_0.1 ∈ z_gw := z_mj3 (i := 55) rfl (by decide +kernel)
theorem w_im_String_indexOf_0 : Cond.instanceMethod M_String_indexOf_0.1 ∈ z_gw := z_mj3 (i := 56) rfl (by decide +kernel)
theorem w_se_String_indexOf_0 : Cond.selects M_String_indexOf_0.1.cls M_String_indexOf_0.1 M_String_indexOf_0.1 ∈ z_gw := z_mj3 (i := 57) rfl (by decide +kernel)
theorem d_Ip_draw_6 : decode prog_1_method_2_code 6 = .ok (.ifCond .ge 13, 3) := zo_156 (d := 0) (e := 13) (zd_b zq_prog_1_method_2_code_0 6 rfl rfl rfl) (zd_b zq_prog_1_method_2_code_0 7 rfl rfl rfl) (zd_b zq_prog_1_method_2_code_0 8 rfl rfl rfl) (by decide +kernel)
theorem d_Ip_draw_19 : decode prog_1_method_2_code 19 = .ok (.iload_n 2, 1) := zo_28 (zd_b zq_prog_1_method_2_code_0 19 rfl rfl rfl)
theorem d_Ip_draw_20 : decode prog_1_method_2_code 20 = .ok (.iload_n 3, 1) := zo_29 (zd_b zq_prog_1_method_2_code_0 20 rfl rfl rfl)
theorem d_Ip_draw_21 : decode prog_1_method_2_code 21 = .ok (.invokestatic 96, 3) := zo_184 (d := 0) (e := 96) (zd_b zq_prog_1_method_2_code_0 21 rfl rfl rfl) (zd_b zq_prog_1_method_2_code_0 22 rfl rfl rfl) (zd_b zq_prog_1_method_2_code_0 23 rfl rfl rfl)
theorem ok_Ip_draw_Ip_isCell : z_ok M_Ip_draw M_Ip_isCell 2 := ⟨z_mj3 (i := 215) rfl (by decide +kernel), rfl, ⟨by decide +kernel, by decide +kernel, by decide +kernel⟩, ⟨by decide, by decide⟩, z_mj1 (i := 1) rfl (by decide +kernel), rfl⟩
theorem d_Ip_draw_24 : decode prog_1_method_2_code 24 = .ok (.ifCond .eq 33, 3) := zo_153 (d := 0) (e := 33) (zd_b zq_prog_1_method_2_code_0 24 rfl rfl rfl) (zd_b zq_prog_1_method_2_code_0 25 rfl rfl rfl) (zd_b zq_prog_1_method_2_code_0 26 rfl rfl rfl) (by decide +kernel)
theorem d_Ip_draw_57 : decode prog_1_method_2_code 57 = .ok (.new 89, 3) := zo_187 (d := 0) (e := 89) (zd_b zq_prog_1_method_2_code_1 25 rfl rfl rfl) (zd_b zq_prog_1_method_2_code_1 26 rfl rfl rfl) (zd_b zq_prog_1_method_2_code_1 27 rfl rfl rfl)
theorem sr_Ip_100 : Cond.stringRef "Ironpour" 100 "not all within the pattern" ∈ lw_tbl := z_tb3 (i := 216) rfl
theorem d_Ip_draw_60 : decode prog_1_method_2_code 60 = .ok (.dup, 1) := zo_89 (zd_b zq_prog_1_method_2_code_1 28 rfl rfl rfl)
theorem d_Ip_draw_61 : decode prog_1_method_2_code 61 = .ok (.ldc 100, 2) := zo_18 (d := 100) (zd_b zq_prog_1_method_2_code_1 29 rfl rfl rfl) (zd_b zq_prog_1_method_2_code_1 30 rfl rfl rfl)
theorem d_Ip_draw_63 : decode prog_1_method_2_code 63 = .ok (.invokespecial 93, 3) := zo_183 (d := 0) (e := 93) (zd_b zq_prog_1_method_2_code_1 31 rfl rfl rfl) (zd_b zq_prog_1_method_2_code_2 0 rfl rfl rfl) (zd_b zq_prog_1_method_2_code_2 1 rfl rfl rfl)
theorem d_Ip_draw_66 : decode prog_1_method_2_code 66 = .ok (.athrow, 1) := zo_191 (zd_b zq_prog_1_method_2_code_2 2 rfl rfl rfl)
theorem d_Ip_draw_27 : decode prog_1_method_2_code 27 = .ok (.iload 4, 2) := zo_21 (d := 4) (zd_b zq_prog_1_method_2_code_0 27 rfl rfl rfl) (zd_b zq_prog_1_method_2_code_0 28 rfl rfl rfl)
theorem d_Ip_draw_29 : decode prog_1_method_2_code 29 = .ok (.iconst 1, 1) := zo_4 (zd_b zq_prog_1_method_2_code_0 29 rfl rfl rfl)
theorem d_Ip_draw_30 : decode prog_1_method_2_code 30 = .ok (.if_icmp .lt 27, 3) := zo_161 (d := 0) (e := 27) (zd_b zq_prog_1_method_2_code_0 30 rfl rfl rfl) (zd_b zq_prog_1_method_2_code_0 31 rfl rfl rfl) (zd_b zq_prog_1_method_2_code_1 0 rfl rfl rfl) (by decide +kernel)
theorem d_Ip_draw_33 : decode prog_1_method_2_code 33 = .ok (.iload 4, 2) := zo_21 (d := 4) (zd_b zq_prog_1_method_2_code_1 1 rfl rfl rfl) (zd_b zq_prog_1_method_2_code_1 2 rfl rfl rfl)
theorem d_Ip_draw_35 : decode prog_1_method_2_code 35 = .ok (.bipush 12, 2) := zo_16 (d := 12) (zd_b zq_prog_1_method_2_code_1 3 rfl rfl rfl) (zd_b zq_prog_1_method_2_code_1 4 rfl rfl rfl) (by decide +kernel)
theorem d_Ip_draw_37 : decode prog_1_method_2_code 37 = .ok (.iload_n 2, 1) := zo_28 (zd_b zq_prog_1_method_2_code_1 5 rfl rfl rfl)
theorem d_Ip_draw_38 : decode prog_1_method_2_code 38 = .ok (.isub, 1) := zo_100 (zd_b zq_prog_1_method_2_code_1 6 rfl rfl rfl)
theorem d_Ip_draw_39 : decode prog_1_method_2_code 39 = .ok (.if_icmp .gt 18, 3) := zo_163 (d := 0) (e := 18) (zd_b zq_prog_1_method_2_code_1 7 rfl rfl rfl) (zd_b zq_prog_1_method_2_code_1 8 rfl rfl rfl) (zd_b zq_prog_1_method_2_code_1 9 rfl rfl rfl) (by decide +kernel)
theorem d_Ip_draw_42 : decode prog_1_method_2_code 42 = .ok (.iload 5, 2) := zo_21 (d := 5) (zd_b zq_prog_1_method_2_code_1 10 rfl rfl rfl) (zd_b zq_prog_1_method_2_code_1 11 rfl rfl rfl)
theorem d_Ip_draw_44 : decode prog_1_method_2_code 44 = .ok (.iconst 1, 1) := zo_4 (zd_b zq_prog_1_method_2_code_1 12 rfl rfl rfl)
theorem d_Ip_draw_45 : decode prog_1_method_2_code 45 = .ok (.if_icmp .lt 12, 3) := zo_161 (d := 0) (e := 12) (zd_b zq_prog_1_method_2_code_1 13 rfl rfl rfl) (zd_b zq_prog_1_method_2_code_1 14 rfl rfl rfl) (zd_b zq_prog_1_method_2_code_1 15 rfl rfl rfl) (by decide +kernel)
theorem d_Ip_draw_48 : decode prog_1_method_2_code 48 = .ok (.iload 5, 2) := zo_21 (d := 5) (zd_b zq_prog_1_method_2_code_1 16 rfl rfl rfl) (zd_b zq_prog_1_method_2_code_1 17 rfl rfl rfl)
theorem d_Ip_draw_50 : decode prog_1_method_2_code 50 = .ok (.bipush 9, 2) := zo_16 (d := 9) (zd_b zq_prog_1_method_2_code_1 18 rfl rfl rfl) (zd_b zq_prog_1_method_2_code_1 19 rfl rfl rfl) (by decide +kernel)
theorem d_Ip_draw_52 : decode prog_1_method_2_code 52 = .ok (.iload_n 3, 1) := zo_29 (zd_b zq_prog_1_method_2_code_1 20 rfl rfl rfl)
theorem d_Ip_draw_53 : decode prog_1_method_2_code 53 = .ok (.isub, 1) := zo_100 (zd_b zq_prog_1_method_2_code_1 21 rfl rfl rfl)
theorem d_Ip_draw_54 : decode prog_1_method_2_code 54 = .ok (.if_icmp .le 13, 3) := zo_164 (d := 0) (e := 13) (zd_b zq_prog_1_method_2_code_1 22 rfl rfl rfl) (zd_b zq_prog_1_method_2_code_1 23 rfl rfl rfl) (zd_b zq_prog_1_method_2_code_1 24 rfl rfl rfl) (by decide +kernel)
theorem d_Ip_draw_9 : decode prog_1_method_2_code 9 = .ok (.new 89, 3) := zo_187 (d := 0) (e := 89) (zd_b zq_prog_1_method_2_code_0 9 rfl rfl rfl) (zd_b zq_prog_1_method_2_code_0 10 rfl rfl rfl) (zd_b zq_prog_1_method_2_code_0 11 rfl rfl rfl)
theorem sr_Ip_91 : Cond.stringRef "Ironpour" 91 "no such kind of cell" ∈ lw_tbl := z_tb3 (i := 186) rfl
theorem d_Ip_draw_12 : decode prog_1_method_2_code 12 = .ok (.dup, 1) := zo_89 (zd_b zq_prog_1_method_2_code_0 12 rfl rfl rfl)
theorem d_Ip_draw_13 : decode prog_1_method_2_code 13 = .ok (.ldc 91, 2) := zo_18 (d := 91) (zd_b zq_prog_1_method_2_code_0 13 rfl rfl rfl) (zd_b zq_prog_1_method_2_code_0 14 rfl rfl rfl)
theorem d_Ip_draw_15 : decode prog_1_method_2_code 15 = .ok (.invokespecial 93, 3) := zo_183 (d := 0) (e := 93) (zd_b zq_prog_1_method_2_code_0 15 rfl rfl rfl) (zd_b zq_prog_1_method_2_code_0 16 rfl rfl rfl) (zd_b zq_prog_1_method_2_code_0 17 rfl rfl rfl)
theorem d_Ip_draw_18 : decode prog_1_method_2_code 18 = .ok (.athrow, 1) := zo_191 (zd_b zq_prog_1_method_2_code_0 18 rfl rfl rfl)
set_option maxHeartbeats 4000000 in
set_option maxRecDepth 100000 in
theorem C_Ip_drawE (g : zG) (a pa ta sa gs co fu la gy du re wm ac : Nat) (pa1 pa2 pa3 : Nat) (f sn : Nat → Int32) (qn : Nat → Nat) (p : Nat) (k x y w v : Int32) (hd : ¬ (0 ≤ z_ix 0 k ∧ (0 ≤ x ∧ x < 12 ∧ 0 ≤ y ∧ y < 9) ∧ 1 ≤ w ∧ w ≤ 12 - x ∧ 1 ≤ v ∧ v ≤ 9 - y)) : CT g M_Ip_draw [.ref a, .int k, .int x, .int y, .int w, .int v] [(a, .inr (11, [.ref pa, .ref ta, .ref sa, .ref gs, .ref co, .ref fu, .ref la, .ref gy, .ref du, .ref re, .ref wm, .ref ac])), (pa, .inr (8, [.ref pa1, .ref pa2, .ref pa3, .int (nI p)])), (pa1, .inl (1, 108, .inl f)), (pa2, .inl (2, 108, .inl sn)), (pa3, .inl (0, 108, .inl (fun k => nI (qn k))))] (fun o cs1 => o = .inr "java/lang/IllegalArgumentException" ∧ cs1 = [(a, .inr (11, [.ref pa, .ref ta, .ref sa, .ref gs, .ref co, .ref fu, .ref la, .ref gy, .ref du, .ref re, .ref wm, .ref ac])), (pa, .inr (8, [.ref pa1, .ref pa2, .ref pa3, .int (nI p)])), (pa1, .inl (1, 108, .inl f)), (pa2, .inl (2, 108, .inl sn)), (pa3, .inl (0, 108, .inl (fun k => nI (qn k))))]) 1 6 := by
  refine z_of (by decide) rfl (Nat.le_of_ble_eq_true rfl) (fun w0 => ?_)
  refine r_lvE (lv2 := [(0, .ref a), (1, .int k), (2, .int x), (3, .int y), (4, .int w), (5, .int v)]) rfl ?_
  refine r_ldcS (own := "Ironpour") (i := 0) (by decide) d_Ip_draw_0 ?_
  refine r_iload_n d_Ip_draw_2 rfl 1 rfl ?_
  refine r_callVS (As := [.int k]) (rest := []) (csC := []) (is := []) (i := 0) (by first | assumption | decide) rfl ln_Ip_83 w_im_String_indexOf_0 w_se_String_indexOf_0 ok_Ip_draw_String_indexOf_0 d_Ip_draw_3 (C_St_indexOf g 0 (by decide) k) rfl rfl (Nat.le_of_ble_eq_true rfl) rfl (by decide) (by omega) (by omega) (fun E cs1 hx => ?_) (fun v cs1 hx => ?_)
  · exact absurd hx.1 (by simp)
  · obtain ⟨e1, rfl⟩ := hx
    cases e1
    refine ⟨rfl, ?_⟩
    refine r_st (st2 := [.int (z_ix 0 k)]) rfl ?_
    refine r_cs (cs2 := [(a, .inr (11, [.ref pa, .ref ta, .ref sa, .ref gs, .ref co, .ref fu, .ref la, .ref gy, .ref du, .ref re, .ref wm, .ref ac])), (pa, .inr (8, [.ref pa1, .ref pa2, .ref pa3, .int (nI p)])), (pa1, .inl (1, 108, .inl f)), (pa2, .inl (2, 108, .inl sn)), (pa3, .inl (0, 108, .inl (fun k => nI (qn k))))]) rfl ?_
    refine r_if_ge (tgt := 19) d_Ip_draw_6 (by decide) (fun c_6 => ?_) (fun c_6 => ?_)
    · refine r_iload_n d_Ip_draw_19 rfl 2 rfl ?_
      refine r_iload_n d_Ip_draw_20 rfl 3 rfl ?_
      refine r_callS (As := [.int x, .int y]) (rest := []) (csC := []) (is := []) ln_Ip_96 w_st_Ip_isCell ok_Ip_draw_Ip_isCell d_Ip_draw_21 (C_Ip_isCell g x y) rfl rfl (Nat.le_of_ble_eq_true rfl) rfl (by decide) (by omega) (by omega) (fun E cs1 hx => ?_) (fun v cs1 hx => ?_)
      · exact absurd hx.1 (by simp)
      · obtain ⟨e1, rfl⟩ := hx
        cases e1
        refine ⟨rfl, ?_⟩
        refine r_st (st2 := [.int (if 0 ≤ x ∧ x < 12 ∧ 0 ≤ y ∧ y < 9 then 1 else 0)]) rfl ?_
        refine r_cs (cs2 := [(a, .inr (11, [.ref pa, .ref ta, .ref sa, .ref gs, .ref co, .ref fu, .ref la, .ref gy, .ref du, .ref re, .ref wm, .ref ac])), (pa, .inr (8, [.ref pa1, .ref pa2, .ref pa3, .int (nI p)])), (pa1, .inl (1, 108, .inl f)), (pa2, .inl (2, 108, .inl sn)), (pa3, .inl (0, 108, .inl (fun k => nI (qn k))))]) rfl ?_
        refine r_if_eq (tgt := 57) d_Ip_draw_24 (by decide) (fun c_24 => ?_) (fun c_24 => ?_)
        · refine r_throw tb_Ip_89_93 sr_Ip_100 d_Ip_draw_57 d_Ip_draw_60 d_Ip_draw_61 d_Ip_draw_63 d_Ip_draw_66 rfl (by decide) (by decide) (Nat.le_of_ble_eq_true rfl) (by omega) (by omega) ?_
          exact ⟨rfl, rfl⟩
        · refine r_iload d_Ip_draw_27 4 rfl ?_
          refine r_iconst d_Ip_draw_29 (v := 1) (by decide) ?_
          refine r_icmp_lt (tgt := 57) d_Ip_draw_30 (by decide) (fun c_30 => ?_) (fun c_30 => ?_)
          · refine r_throw tb_Ip_89_93 sr_Ip_100 d_Ip_draw_57 d_Ip_draw_60 d_Ip_draw_61 d_Ip_draw_63 d_Ip_draw_66 rfl (by decide) (by decide) (Nat.le_of_ble_eq_true rfl) (by omega) (by omega) ?_
            exact ⟨rfl, rfl⟩
          · refine r_iload d_Ip_draw_33 4 rfl ?_
            refine r_bipush d_Ip_draw_35 (v := 12) (by decide) ?_
            refine r_iload_n d_Ip_draw_37 rfl 2 rfl ?_
            refine r_isub d_Ip_draw_38 (v := 12 - x) rfl ?_
            refine r_icmp_gt (tgt := 57) d_Ip_draw_39 (by decide) (fun c_39 => ?_) (fun c_39 => ?_)
            · refine r_throw tb_Ip_89_93 sr_Ip_100 d_Ip_draw_57 d_Ip_draw_60 d_Ip_draw_61 d_Ip_draw_63 d_Ip_draw_66 rfl (by decide) (by decide) (Nat.le_of_ble_eq_true rfl) (by omega) (by omega) ?_
              exact ⟨rfl, rfl⟩
            · refine r_iload d_Ip_draw_42 5 rfl ?_
              refine r_iconst d_Ip_draw_44 (v := 1) (by decide) ?_
              refine r_icmp_lt (tgt := 57) d_Ip_draw_45 (by decide) (fun c_45 => ?_) (fun c_45 => ?_)
              · refine r_throw tb_Ip_89_93 sr_Ip_100 d_Ip_draw_57 d_Ip_draw_60 d_Ip_draw_61 d_Ip_draw_63 d_Ip_draw_66 rfl (by decide) (by decide) (Nat.le_of_ble_eq_true rfl) (by omega) (by omega) ?_
                exact ⟨rfl, rfl⟩
              · refine r_iload d_Ip_draw_48 5 rfl ?_
                refine r_bipush d_Ip_draw_50 (v := 9) (by decide) ?_
                refine r_iload_n d_Ip_draw_52 rfl 3 rfl ?_
                refine r_isub d_Ip_draw_53 (v := 9 - y) rfl ?_
                refine r_icmp_le (tgt := 67) d_Ip_draw_54 (by decide) (fun c_54 => ?_) (fun c_54 => ?_)
                · exact absurd ⟨c_6, z_b1 c_24, Int32.not_lt.mp c_30, Int32.not_lt.mp c_39, Int32.not_lt.mp c_45, c_54⟩ hd
                · refine r_throw tb_Ip_89_93 sr_Ip_100 d_Ip_draw_57 d_Ip_draw_60 d_Ip_draw_61 d_Ip_draw_63 d_Ip_draw_66 rfl (by decide) (by decide) (Nat.le_of_ble_eq_true rfl) (by omega) (by omega) ?_
                  exact ⟨rfl, rfl⟩
    · refine r_throw tb_Ip_89_93 sr_Ip_91 d_Ip_draw_9 d_Ip_draw_12 d_Ip_draw_13 d_Ip_draw_15 d_Ip_draw_18 rfl (by decide) (by decide) (Nat.le_of_ble_eq_true rfl) (by omega) (by omega) ?_
      exact ⟨rfl, rfl⟩
