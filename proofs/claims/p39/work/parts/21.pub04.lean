set_option maxHeartbeats 4000000 in
set_option maxRecDepth 100000 in
theorem C_Ip_isFedN (g : zG) (a pa ta sa gs co fu la gy du re wm ac : Nat) (ta1 ta2 taz taz1 taz2 taz3 taz4 taz5 taz6 ta4 ta5 ta6 : Nat) (X : zTr) (x y : Int32) (h : Int32) (c : Nat) (hz : z_cl x y = some c) (hh : 1200 ≤ h ∧ h ≤ 1500) (hb : (frT h X).2.2.1 c = 0 ∨ (frT h X).2.2.1 c = 1) : CT g M_Ip_isFed [.ref a, .int x, .int y, .int h] [(a, .inr (11, [.ref pa, .ref ta, .ref sa, .ref gs, .ref co, .ref fu, .ref la, .ref gy, .ref du, .ref re, .ref wm, .ref ac])), (ta, .inr (10, [.ref ta1, .ref ta2, .ref taz, .ref ta4, .ref ta5, .ref ta6, .int X.1.2.2.1, .int X.1.2.2.2])), (ta1, .inl (1, 108, .inl X.1.1)), (ta2, .inl (0, 108, .inl X.1.2.1)), (taz, .inr (2, [.ref taz1, .ref taz2, .ref taz3, .ref taz4, .ref taz5, .ref taz6, .int X.2.1.1.1.2.2.2])), (taz1, .inl (0, 108, .inl X.2.1.1.1.1)), (taz2, .inl (0, 108, .inl X.2.1.1.2)), (taz3, .inl (0, 108, .inl X.2.1.1.1.2.1)), (taz4, .inl (0, 108, .inl X.2.1.1.1.2.2.1)), (taz5, .inl (0, 108, .inl X.2.1.2.1)), (taz6, .inl (0, 108, .inl X.2.1.2.2)), (ta4, .inl (2, 108, .inl X.2.2.1)), (ta5, .inl (2, 108, .inl X.2.2.2.1)), (ta6, .inl (0, 108, .inl (fun k => nI (X.2.2.2.2 k))))] (fun o cs1 => o = .inl (some (.int ((frT h X).2.2.1 c))) ∧ cs1 = [(a, .inr (11, [.ref pa, .ref ta, .ref sa, .ref gs, .ref co, .ref fu, .ref la, .ref gy, .ref du, .ref re, .ref wm, .ref ac])), (ta, .inr (10, [.ref ta1, .ref ta2, .ref taz, .ref ta4, .ref ta5, .ref ta6, .int ((frT h X).1.2.2.1), .int ((frT h X).1.2.2.2)])), (ta1, .inl (1, 108, .inl ((frT h X).1.1))), (ta2, .inl (0, 108, .inl ((frT h X).1.2.1))), (taz, .inr (2, [.ref taz1, .ref taz2, .ref taz3, .ref taz4, .ref taz5, .ref taz6, .int ((frT h X).2.1.1.1.2.2.2)])), (taz1, .inl (0, 108, .inl ((frT h X).2.1.1.1.1))), (taz2, .inl (0, 108, .inl ((frT h X).2.1.1.2))), (taz3, .inl (0, 108, .inl ((frT h X).2.1.1.1.2.1))), (taz4, .inl (0, 108, .inl ((frT h X).2.1.1.1.2.2.1))), (taz5, .inl (0, 108, .inl ((frT h X).2.1.2.1))), (taz6, .inl (0, 108, .inl ((frT h X).2.1.2.2))), (ta4, .inl (2, 108, .inl ((frT h X).2.2.1))), (ta5, .inl (2, 108, .inl ((frT h X).2.2.2.1))), (ta6, .inl (0, 108, .inl (fun k => nI ((frT h X).2.2.2.2 k))))]) 2 12 := by
  refine z_of (by decide) rfl (Nat.le_of_ble_eq_true rfl) (fun w0 => ?_)
  refine r_lvE (lv2 := [(0, .ref a), (1, .int x), (2, .int y), (3, .int h)]) rfl ?_
  have hc := z_cl_lt hz
  refine r_iload_n d_Ip_isFed_0 rfl 1 rfl ?_
  refine r_iload_n d_Ip_isFed_1 rfl 2 rfl ?_
  refine r_callS (As := [.int x, .int y]) (rest := []) (csC := []) (is := []) ln_Ip_114 w_st_Ip_cellAt ok_Ip_isFed_Ip_cellAt d_Ip_isFed_2 (C_Ip_cellAt g x y) rfl rfl (Nat.le_of_ble_eq_true rfl) rfl (by decide) (by omega) (by omega) (fun E cs1 hx => ?_) (fun v cs1 hx => ?_)
  · simp only [hz] at hx
    exact absurd hx.1 (by simp)
  · simp only [hz] at hx
    obtain ⟨e1, rfl⟩ := hx
    cases e1
    refine ⟨rfl, ?_⟩
    refine r_st (st2 := [.int (nI c)]) rfl ?_
    refine r_cs (cs2 := [(a, .inr (11, [.ref pa, .ref ta, .ref sa, .ref gs, .ref co, .ref fu, .ref la, .ref gy, .ref du, .ref re, .ref wm, .ref ac])), (ta, .inr (10, [.ref ta1, .ref ta2, .ref taz, .ref ta4, .ref ta5, .ref ta6, .int X.1.2.2.1, .int X.1.2.2.2])), (ta1, .inl (1, 108, .inl X.1.1)), (ta2, .inl (0, 108, .inl X.1.2.1)), (taz, .inr (2, [.ref taz1, .ref taz2, .ref taz3, .ref taz4, .ref taz5, .ref taz6, .int X.2.1.1.1.2.2.2])), (taz1, .inl (0, 108, .inl X.2.1.1.1.1)), (taz2, .inl (0, 108, .inl X.2.1.1.2)), (taz3, .inl (0, 108, .inl X.2.1.1.1.2.1)), (taz4, .inl (0, 108, .inl X.2.1.1.1.2.2.1)), (taz5, .inl (0, 108, .inl X.2.1.2.1)), (taz6, .inl (0, 108, .inl X.2.1.2.2)), (ta4, .inl (2, 108, .inl X.2.2.1)), (ta5, .inl (2, 108, .inl X.2.2.2.1)), (ta6, .inl (0, 108, .inl (fun k => nI (X.2.2.2.2 k))))]) rfl ?_
    refine r_istore (lv' := [(4, .int (nI c)), (0, .ref a), (1, .int x), (2, .int y), (3, .int h)]) d_Ip_isFed_5 (by decide) rfl ?_
    refine r_iload_n d_Ip_isFed_7 rfl 4 rfl ?_
    refine r_callS (As := [.int h]) (rest := []) (csC := []) (is := []) ln_Ip_158 w_st_Ip_checkHeat ok_Ip_isFed_Ip_checkHeat d_Ip_isFed_8 (C_Ip_checkHeat g h) rfl rfl (Nat.le_of_ble_eq_true rfl) rfl (by decide) (by omega) (by omega) (fun E cs1 hx => ?_) (fun v cs1 hx => ?_)
    · simp only [if_pos hh] at hx
      exact absurd hx.1 (by simp)
    · simp only [if_pos hh] at hx
      obtain ⟨e1, rfl⟩ := hx
      cases e1
      refine ⟨rfl, ?_⟩
      refine r_st (st2 := []) rfl ?_
      refine r_cs (cs2 := [(a, .inr (11, [.ref pa, .ref ta, .ref sa, .ref gs, .ref co, .ref fu, .ref la, .ref gy, .ref du, .ref re, .ref wm, .ref ac])), (ta, .inr (10, [.ref ta1, .ref ta2, .ref taz, .ref ta4, .ref ta5, .ref ta6, .int X.1.2.2.1, .int X.1.2.2.2])), (ta1, .inl (1, 108, .inl X.1.1)), (ta2, .inl (0, 108, .inl X.1.2.1)), (taz, .inr (2, [.ref taz1, .ref taz2, .ref taz3, .ref taz4, .ref taz5, .ref taz6, .int X.2.1.1.1.2.2.2])), (taz1, .inl (0, 108, .inl X.2.1.1.1.1)), (taz2, .inl (0, 108, .inl X.2.1.1.2)), (taz3, .inl (0, 108, .inl X.2.1.1.1.2.1)), (taz4, .inl (0, 108, .inl X.2.1.1.1.2.2.1)), (taz5, .inl (0, 108, .inl X.2.1.2.1)), (taz6, .inl (0, 108, .inl X.2.1.2.2)), (ta4, .inl (2, 108, .inl X.2.2.1)), (ta5, .inl (2, 108, .inl X.2.2.2.1)), (ta6, .inl (0, 108, .inl (fun k => nI (X.2.2.2.2 k))))]) rfl ?_
      refine r_aload_n d_Ip_isFed_11 rfl 1 rfl ?_
      refine r_get fs_Ip_19 d_Ip_isFed_12 (q0 := 0) rfl rfl ?_
      refine r_iload_n d_Ip_isFed_15 rfl 4 rfl ?_
      refine r_callV (As := [.int h]) (rest := []) (csC := [(ta, .inr (10, [.ref ta1, .ref ta2, .ref taz, .ref ta4, .ref ta5, .ref ta6, .int X.1.2.2.1, .int X.1.2.2.2])), (ta1, .inl (1, 108, .inl X.1.1)), (ta2, .inl (0, 108, .inl X.1.2.1)), (taz, .inr (2, [.ref taz1, .ref taz2, .ref taz3, .ref taz4, .ref taz5, .ref taz6, .int X.2.1.1.1.2.2.2])), (taz1, .inl (0, 108, .inl X.2.1.1.1.1)), (taz2, .inl (0, 108, .inl X.2.1.1.2)), (taz3, .inl (0, 108, .inl X.2.1.1.1.2.1)), (taz4, .inl (0, 108, .inl X.2.1.1.1.2.2.1)), (taz5, .inl (0, 108, .inl X.2.1.2.1)), (taz6, .inl (0, 108, .inl X.2.1.2.2)), (ta4, .inl (2, 108, .inl X.2.2.1)), (ta5, .inl (2, 108, .inl X.2.2.2.1)), (ta6, .inl (0, 108, .inl (fun k => nI (X.2.2.2.2 k))))]) (is := [1, 2, 3, 4, 5, 6, 7, 8, 9, 10, 11, 12, 13]) (q0 := 1) rfl rfl ln_Ip_162 w_im_Tr_freeze w_se_Tr_freeze ok_Ip_isFed_Tr_freeze d_Ip_isFed_16 (X_freeze g ta ta1 ta2 taz taz1 taz2 taz3 taz4 taz5 taz6 ta4 ta5 ta6 h X) rfl rfl (Nat.le_of_ble_eq_true rfl) rfl (by decide) (by omega) (by omega) (fun E cs1 hx => ?_) (fun v cs1 hx => ?_)
      · exact absurd hx.1 (by simp)
      · obtain ⟨e1, rfl⟩ := hx
        cases e1
        refine ⟨rfl, ?_⟩
        refine r_st (st2 := []) rfl ?_
        refine r_cs (cs2 := [(a, .inr (11, [.ref pa, .ref ta, .ref sa, .ref gs, .ref co, .ref fu, .ref la, .ref gy, .ref du, .ref re, .ref wm, .ref ac])), (ta, .inr (10, [.ref ta1, .ref ta2, .ref taz, .ref ta4, .ref ta5, .ref ta6, .int ((frT h X).1.2.2.1), .int ((frT h X).1.2.2.2)])), (ta1, .inl (1, 108, .inl ((frT h X).1.1))), (ta2, .inl (0, 108, .inl ((frT h X).1.2.1))), (taz, .inr (2, [.ref taz1, .ref taz2, .ref taz3, .ref taz4, .ref taz5, .ref taz6, .int ((frT h X).2.1.1.1.2.2.2)])), (taz1, .inl (0, 108, .inl ((frT h X).2.1.1.1.1))), (taz2, .inl (0, 108, .inl ((frT h X).2.1.1.2))), (taz3, .inl (0, 108, .inl ((frT h X).2.1.1.1.2.1))), (taz4, .inl (0, 108, .inl ((frT h X).2.1.1.1.2.2.1))), (taz5, .inl (0, 108, .inl ((frT h X).2.1.2.1))), (taz6, .inl (0, 108, .inl ((frT h X).2.1.2.2))), (ta4, .inl (2, 108, .inl ((frT h X).2.2.1))), (ta5, .inl (2, 108, .inl ((frT h X).2.2.2.1))), (ta6, .inl (0, 108, .inl (fun k => nI ((frT h X).2.2.2.2 k))))]) rfl ?_
        refine r_aload_n d_Ip_isFed_19 rfl 1 rfl ?_
        refine r_get fs_Ip_19 d_Ip_isFed_20 (q0 := 0) rfl rfl ?_
        refine r_get fs_Ip_183 d_Ip_isFed_23 (q0 := 1) rfl rfl ?_
        refine r_iload d_Ip_isFed_26 0 rfl ?_
        refine r_zald d_Ip_isFed_28 (q0 := 11) rfl (vp_in_nI (by omega) (by omega)) (v := ((frT h X).2.2.1) c) (by rw [nI_clamp (by omega)]) ?_
        refine r_iret d_Ip_isFed_29 rfl (by rcases hb with e | e <;> rw [e] <;> rfl) ?_
        exact ⟨rfl, rfl⟩
abbrev M_Ip_shrunk : zM := (⟨"Ironpour", "shrunk", "(I)I"⟩, prog_1_method_14_code, 2, (Option.some FieldType.int), 7, 136, [])
theorem d_Ip_shrunk_0 : decode prog_1_method_14_code 0 = .ok (.iload_n 1, 1) := zo_27 (zd_b zq_prog_1_method_14_code_0 0 rfl rfl rfl)
theorem d_Ip_shrunk_1 : decode prog_1_method_14_code 1 = .ok (.invokestatic 158, 3) := zo_184 (d := 0) (e := 158) (zd_b zq_prog_1_method_14_code_0 1 rfl rfl rfl) (zd_b zq_prog_1_method_14_code_0 2 rfl rfl rfl) (zd_b zq_prog_1_method_14_code_0 3 rfl rfl rfl)
theorem ok_Ip_shrunk_Ip_checkHeat : z_ok M_Ip_shrunk M_Ip_checkHeat 1 := ⟨z_mj4 (i := 94) rfl (by decide +kernel), rfl, ⟨by decide +kernel, by decide +kernel, by decide +kernel⟩, ⟨by decide, by decide⟩, z_mj1 (i := 1) rfl (by decide +kernel), rfl⟩
set_option maxHeartbeats 4000000 in
set_option maxRecDepth 100000 in
theorem C_Ip_shrunkE (g : zG) (a pa ta sa gs co fu la gy du re wm ac : Nat) (ta1 ta2 taz taz1 taz2 taz3 taz4 taz5 taz6 ta4 ta5 ta6 : Nat) (X : zTr) (h : Int32) (hh : ¬ (1200 ≤ h ∧ h ≤ 1500)) : CT g M_Ip_shrunk [.ref a, .int h] [(a, .inr (11, [.ref pa, .ref ta, .ref sa, .ref gs, .ref co, .ref fu, .ref la, .ref gy, .ref du, .ref re, .ref wm, .ref ac])), (ta, .inr (10, [.ref ta1, .ref ta2, .ref taz, .ref ta4, .ref ta5, .ref ta6, .int X.1.2.2.1, .int X.1.2.2.2])), (ta1, .inl (1, 108, .inl X.1.1)), (ta2, .inl (0, 108, .inl X.1.2.1)), (taz, .inr (2, [.ref taz1, .ref taz2, .ref taz3, .ref taz4, .ref taz5, .ref taz6, .int X.2.1.1.1.2.2.2])), (taz1, .inl (0, 108, .inl X.2.1.1.1.1)), (taz2, .inl (0, 108, .inl X.2.1.1.2)), (taz3, .inl (0, 108, .inl X.2.1.1.1.2.1)), (taz4, .inl (0, 108, .inl X.2.1.1.1.2.2.1)), (taz5, .inl (0, 108, .inl X.2.1.2.1)), (taz6, .inl (0, 108, .inl X.2.1.2.2)), (ta4, .inl (2, 108, .inl X.2.2.1)), (ta5, .inl (2, 108, .inl X.2.2.2.1)), (ta6, .inl (0, 108, .inl (fun k => nI (X.2.2.2.2 k))))] (fun o cs1 => o = .inr "java/lang/IllegalArgumentException" ∧ cs1 = [(a, .inr (11, [.ref pa, .ref ta, .ref sa, .ref gs, .ref co, .ref fu, .ref la, .ref gy, .ref du, .ref re, .ref wm, .ref ac])), (ta, .inr (10, [.ref ta1, .ref ta2, .ref taz, .ref ta4, .ref ta5, .ref ta6, .int X.1.2.2.1, .int X.1.2.2.2])), (ta1, .inl (1, 108, .inl X.1.1)), (ta2, .inl (0, 108, .inl X.1.2.1)), (taz, .inr (2, [.ref taz1, .ref taz2, .ref taz3, .ref taz4, .ref taz5, .ref taz6, .int X.2.1.1.1.2.2.2])), (taz1, .inl (0, 108, .inl X.2.1.1.1.1)), (taz2, .inl (0, 108, .inl X.2.1.1.2)), (taz3, .inl (0, 108, .inl X.2.1.1.1.2.1)), (taz4, .inl (0, 108, .inl X.2.1.1.1.2.2.1)), (taz5, .inl (0, 108, .inl X.2.1.2.1)), (taz6, .inl (0, 108, .inl X.2.1.2.2)), (ta4, .inl (2, 108, .inl X.2.2.1)), (ta5, .inl (2, 108, .inl X.2.2.2.1)), (ta6, .inl (0, 108, .inl (fun k => nI (X.2.2.2.2 k))))]) 1 6 := by
  refine z_of (by decide) rfl (Nat.le_of_ble_eq_true rfl) (fun w0 => ?_)
  refine r_lvE (lv2 := [(0, .ref a), (1, .int h)]) rfl ?_
  refine r_iload_n d_Ip_shrunk_0 rfl 1 rfl ?_
  refine r_callS (As := [.int h]) (rest := []) (csC := []) (is := []) ln_Ip_158 w_st_Ip_checkHeat ok_Ip_shrunk_Ip_checkHeat d_Ip_shrunk_1 (C_Ip_checkHeat g h) rfl rfl (Nat.le_of_ble_eq_true rfl) rfl (by decide) (by omega) (by omega) (fun E cs1 hx => ?_) (fun v cs1 hx => ?_)
  · simp only [if_neg hh] at hx
    obtain ⟨e1, rfl⟩ := hx
    cases e1
    exact ⟨rfl, rfl, rfl⟩
  · simp only [if_neg hh] at hx
    exact absurd hx.1 (by simp)
theorem d_Ip_shrunk_4 : decode prog_1_method_14_code 4 = .ok (.aload_n 0, 1) := zo_42 (zd_b zq_prog_1_method_14_code_0 4 rfl rfl rfl)
theorem d_Ip_shrunk_5 : decode prog_1_method_14_code 5 = .ok (.getfield 19, 3) := zo_180 (d := 0) (e := 19) (zd_b zq_prog_1_method_14_code_0 5 rfl rfl rfl) (zd_b zq_prog_1_method_14_code_0 6 rfl rfl rfl) (zd_b zq_prog_1_method_14_code_0 7 rfl rfl rfl)
theorem d_Ip_shrunk_8 : decode prog_1_method_14_code 8 = .ok (.iload_n 1, 1) := zo_27 (zd_b zq_prog_1_method_14_code_0 8 rfl rfl rfl)
theorem d_Ip_shrunk_9 : decode prog_1_method_14_code 9 = .ok (.invokevirtual 162, 3) := zo_182 (d := 0) (e := 162) (zd_b zq_prog_1_method_14_code_0 9 rfl rfl rfl) (zd_b zq_prog_1_method_14_code_0 10 rfl rfl rfl) (zd_b zq_prog_1_method_14_code_0 11 rfl rfl rfl)
theorem ok_Ip_shrunk_Tr_freeze : z_ok M_Ip_shrunk M_Tr_freeze 1 := ⟨z_mj2 (i := 208) rfl (by decide +kernel), rfl, ⟨by decide +kernel, by decide +kernel, by decide +kernel⟩, ⟨by decide, by decide⟩, z_mj1 (i := 3) rfl (by decide +kernel), rfl⟩
theorem d_Ip_shrunk_12 : decode prog_1_method_14_code 12 = .ok (.aload_n 0, 1) := zo_42 (zd_b zq_prog_1_method_14_code_0 12 rfl rfl rfl)
theorem d_Ip_shrunk_13 : decode prog_1_method_14_code 13 = .ok (.getfield 19, 3) := zo_180 (d := 0) (e := 19) (zd_b zq_prog_1_method_14_code_0 13 rfl rfl rfl) (zd_b zq_prog_1_method_14_code_0 14 rfl rfl rfl) (zd_b zq_prog_1_method_14_code_0 15 rfl rfl rfl)
theorem d_Ip_shrunk_16 : decode prog_1_method_14_code 16 = .ok (.invokevirtual 187, 3) := zo_182 (d := 0) (e := 187) (zd_b zq_prog_1_method_14_code_0 16 rfl rfl rfl) (zd_b zq_prog_1_method_14_code_0 17 rfl rfl rfl) (zd_b zq_prog_1_method_14_code_0 18 rfl rfl rfl)
theorem ok_Ip_shrunk_Tr_shrunkCells : z_ok M_Ip_shrunk M_Tr_shrunkCells 0 := ⟨z_mj4 (i := 128) rfl (by decide +kernel), rfl, ⟨by decide +kernel, by decide +kernel, by decide +kernel⟩, ⟨by decide, by decide⟩, z_mj1 (i := 3) rfl (by decide +kernel), rfl⟩
theorem ln_Ip_187 : Cond.methodLink "Ironpour" 187 M_Tr_shrunkCells.1 ∈ z_gw := z_mj4 (i := 125) rfl (by decide +kernel)
theorem w_im_Tr_shrunkCells : Cond.instanceMethod M_Tr_shrunkCells.1 ∈ z_gw := z_mj4 (i := 126) rfl (by decide +kernel)
theorem w_se_Tr_shrunkCells : Cond.selects M_Tr_shrunkCells.1.cls M_Tr_shrunkCells.1 M_Tr_shrunkCells.1 ∈ z_gw := z_mj4 (i := 127) rfl (by decide +kernel)
theorem d_Ip_shrunk_19 : decode prog_1_method_14_code 19 = .ok (.ireturn, 1) := zo_172 (zd_b zq_prog_1_method_14_code_0 19 rfl rfl rfl)
set_option maxHeartbeats 4000000 in
set_option maxRecDepth 100000 in
theorem C_Ip_shrunkN (g : zG) (a pa ta sa gs co fu la gy du re wm ac : Nat) (ta1 ta2 taz taz1 taz2 taz3 taz4 taz5 taz6 ta4 ta5 ta6 : Nat) (X : zTr) (h : Int32) (hh : 1200 ≤ h ∧ h ≤ 1500) : CT g M_Ip_shrunk [.ref a, .int h] [(a, .inr (11, [.ref pa, .ref ta, .ref sa, .ref gs, .ref co, .ref fu, .ref la, .ref gy, .ref du, .ref re, .ref wm, .ref ac])), (ta, .inr (10, [.ref ta1, .ref ta2, .ref taz, .ref ta4, .ref ta5, .ref ta6, .int X.1.2.2.1, .int X.1.2.2.2])), (ta1, .inl (1, 108, .inl X.1.1)), (ta2, .inl (0, 108, .inl X.1.2.1)), (taz, .inr (2, [.ref taz1, .ref taz2, .ref taz3, .ref taz4, .ref taz5, .ref taz6, .int X.2.1.1.1.2.2.2])), (taz1, .inl (0, 108, .inl X.2.1.1.1.1)), (taz2, .inl (0, 108, .inl X.2.1.1.2)), (taz3, .inl (0, 108, .inl X.2.1.1.1.2.1)), (taz4, .inl (0, 108, .inl X.2.1.1.1.2.2.1)), (taz5, .inl (0, 108, .inl X.2.1.2.1)), (taz6, .inl (0, 108, .inl X.2.1.2.2)), (ta4, .inl (2, 108, .inl X.2.2.1)), (ta5, .inl (2, 108, .inl X.2.2.2.1)), (ta6, .inl (0, 108, .inl (fun k => nI (X.2.2.2.2 k))))] (fun o cs1 => o = .inl (some (.int (nI (shN (frT h X))))) ∧ cs1 = [(a, .inr (11, [.ref pa, .ref ta, .ref sa, .ref gs, .ref co, .ref fu, .ref la, .ref gy, .ref du, .ref re, .ref wm, .ref ac])), (ta, .inr (10, [.ref ta1, .ref ta2, .ref taz, .ref ta4, .ref ta5, .ref ta6, .int ((frT h X).1.2.2.1), .int ((frT h X).1.2.2.2)])), (ta1, .inl (1, 108, .inl ((frT h X).1.1))), (ta2, .inl (0, 108, .inl ((frT h X).1.2.1))), (taz, .inr (2, [.ref taz1, .ref taz2, .ref taz3, .ref taz4, .ref taz5, .ref taz6, .int ((frT h X).2.1.1.1.2.2.2)])), (taz1, .inl (0, 108, .inl ((frT h X).2.1.1.1.1))), (taz2, .inl (0, 108, .inl ((frT h X).2.1.1.2))), (taz3, .inl (0, 108, .inl ((frT h X).2.1.1.1.2.1))), (taz4, .inl (0, 108, .inl ((frT h X).2.1.1.1.2.2.1))), (taz5, .inl (0, 108, .inl ((frT h X).2.1.2.1))), (taz6, .inl (0, 108, .inl ((frT h X).2.1.2.2))), (ta4, .inl (2, 108, .inl ((frT h X).2.2.1))), (ta5, .inl (2, 108, .inl ((frT h X).2.2.2.1))), (ta6, .inl (0, 108, .inl (fun k => nI ((frT h X).2.2.2.2 k))))]) 1 6 := by
  refine z_of (by decide) rfl (Nat.le_of_ble_eq_true rfl) (fun w0 => ?_)
  refine r_lvE (lv2 := [(0, .ref a), (1, .int h)]) rfl ?_
  refine r_iload_n d_Ip_shrunk_0 rfl 1 rfl ?_
  refine r_callS (As := [.int h]) (rest := []) (csC := []) (is := []) ln_Ip_158 w_st_Ip_checkHeat ok_Ip_shrunk_Ip_checkHeat d_Ip_shrunk_1 (C_Ip_checkHeat g h) rfl rfl (Nat.le_of_ble_eq_true rfl) rfl (by decide) (by omega) (by omega) (fun E cs1 hx => ?_) (fun v cs1 hx => ?_)
  · simp only [if_pos hh] at hx
    exact absurd hx.1 (by simp)
  · simp only [if_pos hh] at hx
    obtain ⟨e1, rfl⟩ := hx
    cases e1
    refine ⟨rfl, ?_⟩
    refine r_st (st2 := []) rfl ?_
    refine r_cs (cs2 := [(a, .inr (11, [.ref pa, .ref ta, .ref sa, .ref gs, .ref co, .ref fu, .ref la, .ref gy, .ref du, .ref re, .ref wm, .ref ac])), (ta, .inr (10, [.ref ta1, .ref ta2, .ref taz, .ref ta4, .ref ta5, .ref ta6, .int X.1.2.2.1, .int X.1.2.2.2])), (ta1, .inl (1, 108, .inl X.1.1)), (ta2, .inl (0, 108, .inl X.1.2.1)), (taz, .inr (2, [.ref taz1, .ref taz2, .ref taz3, .ref taz4, .ref taz5, .ref taz6, .int X.2.1.1.1.2.2.2])), (taz1, .inl (0, 108, .inl X.2.1.1.1.1)), (taz2, .inl (0, 108, .inl X.2.1.1.2)), (taz3, .inl (0, 108, .inl X.2.1.1.1.2.1)), (taz4, .inl (0, 108, .inl X.2.1.1.1.2.2.1)), (taz5, .inl (0, 108, .inl X.2.1.2.1)), (taz6, .inl (0, 108, .inl X.2.1.2.2)), (ta4, .inl (2, 108, .inl X.2.2.1)), (ta5, .inl (2, 108, .inl X.2.2.2.1)), (ta6, .inl (0, 108, .inl (fun k => nI (X.2.2.2.2 k))))]) rfl ?_
    refine r_aload_n d_Ip_shrunk_4 rfl 0 rfl ?_
    refine r_get fs_Ip_19 d_Ip_shrunk_5 (q0 := 0) rfl rfl ?_
    refine r_iload_n d_Ip_shrunk_8 rfl 1 rfl ?_
    refine r_callV (As := [.int h]) (rest := []) (csC := [(ta, .inr (10, [.ref ta1, .ref ta2, .ref taz, .ref ta4, .ref ta5, .ref ta6, .int X.1.2.2.1, .int X.1.2.2.2])), (ta1, .inl (1, 108, .inl X.1.1)), (ta2, .inl (0, 108, .inl X.1.2.1)), (taz, .inr (2, [.ref taz1, .ref taz2, .ref taz3, .ref taz4, .ref taz5, .ref taz6, .int X.2.1.1.1.2.2.2])), (taz1, .inl (0, 108, .inl X.2.1.1.1.1)), (taz2, .inl (0, 108, .inl X.2.1.1.2)), (taz3, .inl (0, 108, .inl X.2.1.1.1.2.1)), (taz4, .inl (0, 108, .inl X.2.1.1.1.2.2.1)), (taz5, .inl (0, 108, .inl X.2.1.2.1)), (taz6, .inl (0, 108, .inl X.2.1.2.2)), (ta4, .inl (2, 108, .inl X.2.2.1)), (ta5, .inl (2, 108, .inl X.2.2.2.1)), (ta6, .inl (0, 108, .inl (fun k => nI (X.2.2.2.2 k))))]) (is := [1, 2, 3, 4, 5, 6, 7, 8, 9, 10, 11, 12, 13]) (q0 := 1) rfl rfl ln_Ip_162 w_im_Tr_freeze w_se_Tr_freeze ok_Ip_shrunk_Tr_freeze d_Ip_shrunk_9 (X_freeze g ta ta1 ta2 taz taz1 taz2 taz3 taz4 taz5 taz6 ta4 ta5 ta6 h X) rfl rfl (Nat.le_of_ble_eq_true rfl) rfl (by decide) (by omega) (by omega) (fun E cs1 hx => ?_) (fun v cs1 hx => ?_)
    · exact absurd hx.1 (by simp)
    · obtain ⟨e1, rfl⟩ := hx
      cases e1
      refine ⟨rfl, ?_⟩
      refine r_st (st2 := []) rfl ?_
      refine r_cs (cs2 := [(a, .inr (11, [.ref pa, .ref ta, .ref sa, .ref gs, .ref co, .ref fu, .ref la, .ref gy, .ref du, .ref re, .ref wm, .ref ac])), (ta, .inr (10, [.ref ta1, .ref ta2, .ref taz, .ref ta4, .ref ta5, .ref ta6, .int ((frT h X).1.2.2.1), .int ((frT h X).1.2.2.2)])), (ta1, .inl (1, 108, .inl ((frT h X).1.1))), (ta2, .inl (0, 108, .inl ((frT h X).1.2.1))), (taz, .inr (2, [.ref taz1, .ref taz2, .ref taz3, .ref taz4, .ref taz5, .ref taz6, .int ((frT h X).2.1.1.1.2.2.2)])), (taz1, .inl (0, 108, .inl ((frT h X).2.1.1.1.1))), (taz2, .inl (0, 108, .inl ((frT h X).2.1.1.2))), (taz3, .inl (0, 108, .inl ((frT h X).2.1.1.1.2.1))), (taz4, .inl (0, 108, .inl ((frT h X).2.1.1.1.2.2.1))), (taz5, .inl (0, 108, .inl ((frT h X).2.1.2.1))), (taz6, .inl (0, 108, .inl ((frT h X).2.1.2.2))), (ta4, .inl (2, 108, .inl ((frT h X).2.2.1))), (ta5, .inl (2, 108, .inl ((frT h X).2.2.2.1))), (ta6, .inl (0, 108, .inl (fun k => nI ((frT h X).2.2.2.2 k))))]) rfl ?_
      refine r_aload_n d_Ip_shrunk_12 rfl 0 rfl ?_
      refine r_get fs_Ip_19 d_Ip_shrunk_13 (q0 := 0) rfl rfl ?_
      refine r_callV (As := []) (rest := []) (csC := [(ta, .inr (10, [.ref ta1, .ref ta2, .ref taz, .ref ta4, .ref ta5, .ref ta6, .int ((frT h X).1.2.2.1), .int ((frT h X).1.2.2.2)])), (ta1, .inl (1, 108, .inl ((frT h X).1.1))), (ta2, .inl (0, 108, .inl ((frT h X).1.2.1))), (taz, .inr (2, [.ref taz1, .ref taz2, .ref taz3, .ref taz4, .ref taz5, .ref taz6, .int ((frT h X).2.1.1.1.2.2.2)])), (taz4, .inl (0, 108, .inl ((frT h X).2.1.1.1.2.2.1))), (ta4, .inl (2, 108, .inl ((frT h X).2.2.1))), (ta5, .inl (2, 108, .inl ((frT h X).2.2.2.1))), (ta6, .inl (0, 108, .inl (fun k => nI ((frT h X).2.2.2.2 k))))]) (is := [1, 2, 3, 4, 8, 11, 12, 13]) (q0 := 1) rfl rfl ln_Ip_187 w_im_Tr_shrunkCells w_se_Tr_shrunkCells ok_Ip_shrunk_Tr_shrunkCells d_Ip_shrunk_16 (X_shrunkCells g ta ta1 ta2 taz taz1 taz2 taz3 taz4 taz5 taz6 ta4 ta5 ta6 (frT h X)) rfl rfl (Nat.le_of_ble_eq_true rfl) rfl (by decide) (by omega) (by omega) (fun E cs1 hx => ?_) (fun v cs1 hx => ?_)
      · exact absurd hx.1 (by simp)
      · obtain ⟨e1, rfl⟩ := hx
        cases e1
        refine ⟨rfl, ?_⟩
        refine r_st (st2 := [.int (nI (shN (frT h X)))]) rfl ?_
        refine r_cs (cs2 := [(a, .inr (11, [.ref pa, .ref ta, .ref sa, .ref gs, .ref co, .ref fu, .ref la, .ref gy, .ref du, .ref re, .ref wm, .ref ac])), (ta, .inr (10, [.ref ta1, .ref ta2, .ref taz, .ref ta4, .ref ta5, .ref ta6, .int ((frT h X).1.2.2.1), .int ((frT h X).1.2.2.2)])), (ta1, .inl (1, 108, .inl ((frT h X).1.1))), (ta2, .inl (0, 108, .inl ((frT h X).1.2.1))), (taz, .inr (2, [.ref taz1, .ref taz2, .ref taz3, .ref taz4, .ref taz5, .ref taz6, .int ((frT h X).2.1.1.1.2.2.2)])), (taz1, .inl (0, 108, .inl ((frT h X).2.1.1.1.1))), (taz2, .inl (0, 108, .inl ((frT h X).2.1.1.2))), (taz3, .inl (0, 108, .inl ((frT h X).2.1.1.1.2.1))), (taz4, .inl (0, 108, .inl ((frT h X).2.1.1.1.2.2.1))), (taz5, .inl (0, 108, .inl ((frT h X).2.1.2.1))), (taz6, .inl (0, 108, .inl ((frT h X).2.1.2.2))), (ta4, .inl (2, 108, .inl ((frT h X).2.2.1))), (ta5, .inl (2, 108, .inl ((frT h X).2.2.2.1))), (ta6, .inl (0, 108, .inl (fun k => nI ((frT h X).2.2.2.2 k))))]) rfl ?_
        refine r_iret d_Ip_shrunk_19 rfl rfl ?_
        exact ⟨rfl, rfl⟩

