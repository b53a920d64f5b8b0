abbrev M_Lw_draw : zM := (⟨"IronpourLaw", "draw", "(LIronpour;CIIII[J)I"⟩, method_3_code, 8, (Option.some FieldType.int), 9, 205, [((0 : Nat), (16 : Nat), (19 : Nat), (13 : Nat))])
theorem d_Lw_draw_0 : decode method_3_code 0 = .ok (.aload 6, 2) := by decide +kernel
theorem d_Lw_draw_2 : decode method_3_code 2 = .ok (.iconst 0, 1) := by decide +kernel
theorem d_Lw_draw_3 : decode method_3_code 3 = .ok (.aload_n 0, 1) := by decide +kernel
theorem d_Lw_draw_4 : decode method_3_code 4 = .ok (.iload_n 1, 1) := by decide +kernel
theorem d_Lw_draw_5 : decode method_3_code 5 = .ok (.iload_n 2, 1) := by decide +kernel
theorem d_Lw_draw_6 : decode method_3_code 6 = .ok (.iload_n 3, 1) := by decide +kernel
theorem d_Lw_draw_7 : decode method_3_code 7 = .ok (.iload 4, 2) := by decide +kernel
theorem d_Lw_draw_9 : decode method_3_code 9 = .ok (.iload 5, 2) := by decide +kernel
theorem d_Lw_draw_11 : decode method_3_code 11 = .ok (.invokevirtual 7, 3) := by decide +kernel
theorem ok_Lw_draw_Ip_draw : z_okH M_Lw_draw M_Ip_draw 5 := ⟨z_mem (i := 590) (by decide +kernel) (by decide +kernel), rfl, ⟨by decide +kernel, by decide +kernel, by decide +kernel⟩, ⟨by decide, by decide⟩, z_mem (i := 58) (by decide +kernel) (by decide +kernel)⟩
theorem ln_Lw_7 : Cond.methodLink "IronpourLaw" 7 M_Ip_draw.1 ∈ z_gw := z_mem (i := 587) (by decide +kernel) (by decide +kernel)
theorem w_im_Ip_draw : Cond.instanceMethod M_Ip_draw.1 ∈ z_gw := z_mem (i := 588) (by decide +kernel) (by decide +kernel)
theorem w_se_Ip_draw : Cond.selects M_Ip_draw.1.cls M_Ip_draw.1 M_Ip_draw.1 ∈ z_gw := z_mem (i := 589) (by decide +kernel) (by decide +kernel)
theorem ce_13 : Cond.castable "java/lang/IllegalArgumentException" "java/lang/IllegalArgumentException" ∈ z_nw := z_memN (i := 680) (by decide +kernel) (by decide +kernel)
theorem lx_Lw_13 : Cond.classLink "IronpourLaw" 13 "java/lang/IllegalArgumentException" ∈ z_gw := z_mem (i := 586) (by decide +kernel) (by decide +kernel)
theorem d_Lw_draw_19 : decode method_3_code 19 = .ok (.astore 7, 2) := by decide +kernel
theorem d_Lw_draw_21 : decode method_3_code 21 = .ok (.iconst 1, 1) := by decide +kernel
theorem d_Lw_draw_22 : decode method_3_code 22 = .ok (.ireturn, 1) := by decide +kernel
set_option maxHeartbeats 4000000 in
set_option maxRecDepth 100000 in
theorem C_Lw_drawE (g : zG) (a pa ta sa gs co fu la gy du re wm ac : Nat) (pa1 pa2 pa3 : Nat) (f sn : Nat → Int32) (qn : Nat → Nat) (p : Nat) (k x y w v : Int32) (hd : ¬ (0 ≤ z_ix 0 k ∧ (0 ≤ x ∧ x < 12 ∧ 0 ≤ y ∧ y < 9) ∧ 1 ≤ w ∧ w ≤ 12 - x ∧ 1 ≤ v ∧ v ≤ 9 - y)) (ou : Nat) (of : Nat → Int64) : CT g M_Lw_draw [.ref a, .int k, .int x, .int y, .int w, .int v, .ref ou] [(a, .inr (11, [.ref pa, .ref ta, .ref sa, .ref gs, .ref co, .ref fu, .ref la, .ref gy, .ref du, .ref re, .ref wm, .ref ac])), (pa, .inr (8, [.ref pa1, .ref pa2, .ref pa3, .int (nI p)])), (pa1, .inl (1, 108, .inl f)), (pa2, .inl (2, 108, .inl sn)), (pa3, .inl (0, 108, .inl (fun k => nI (qn k)))), (ou, .inl (3, 1, .inr (.inl of)))] (fun o cs1 => o = .inl (some (.int 1)) ∧ cs1 = [(a, .inr (11, [.ref pa, .ref ta, .ref sa, .ref gs, .ref co, .ref fu, .ref la, .ref gy, .ref du, .ref re, .ref wm, .ref ac])), (pa, .inr (8, [.ref pa1, .ref pa2, .ref pa3, .int (nI p)])), (pa1, .inl (1, 108, .inl f)), (pa2, .inl (2, 108, .inl sn)), (pa3, .inl (0, 108, .inl (fun k => nI (qn k)))), (ou, .inl (3, 1, .inr (.inl of)))]) 1 6 := by
  refine z_ofH (by decide) (by decide) (Nat.le_of_ble_eq_true rfl) (fun w0 => ?_)
  refine r_lvE (lv2 := [(0, .ref a), (1, .int k), (2, .int x), (3, .int y), (4, .int w), (5, .int v), (6, .ref ou)]) rfl ?_
  refine r_aload d_Lw_draw_0 6 rfl ?_
  refine r_iconst d_Lw_draw_2 (v := 0) (by decide) ?_
  refine r_aload_n d_Lw_draw_3 rfl 0 rfl ?_
  refine r_iload_n d_Lw_draw_4 rfl 1 rfl ?_
  refine r_iload_n d_Lw_draw_5 rfl 2 rfl ?_
  refine r_iload_n d_Lw_draw_6 rfl 3 rfl ?_
  refine r_iload d_Lw_draw_7 4 rfl ?_
  refine r_iload d_Lw_draw_9 5 rfl ?_
  refine r_callVH (As := [.int k, .int x, .int y, .int w, .int v]) (rest := [.int 0, .ref ou]) (csC := [(a, .inr (11, [.ref pa, .ref ta, .ref sa, .ref gs, .ref co, .ref fu, .ref la, .ref gy, .ref du, .ref re, .ref wm, .ref ac])), (pa, .inr (8, [.ref pa1, .ref pa2, .ref pa3, .int (nI p)])), (pa1, .inl (1, 108, .inl f)), (pa2, .inl (2, 108, .inl sn)), (pa3, .inl (0, 108, .inl (fun k => nI (qn k))))]) (is := [0, 1, 2, 3, 4]) (q0 := 0) rfl rfl ln_Lw_7 w_im_Ip_draw w_se_Ip_draw ok_Lw_draw_Ip_draw d_Lw_draw_11 (C_Ip_drawE g a pa ta sa gs co fu la gy du re wm ac pa1 pa2 pa3 f sn qn p k x y w v hd) rfl rfl (Nat.le_of_ble_eq_true rfl) rfl (by decide) (by omega) (by omega) (fun E cs1 hx => ?_) (fun v cs1 hx => ?_)
  · obtain ⟨e1, rfl⟩ := hx
    cases e1
    refine ⟨rfl, "java/lang/IllegalArgumentException", [], [], (0, 16, 19, 13), rfl, (fun z hz => nomatch hz), by decide, by decide, lx_Lw_13, ce_13, fun qx => ?_⟩
    refine r_cs (cs2 := [(a, .inr (11, [.ref pa, .ref ta, .ref sa, .ref gs, .ref co, .ref fu, .ref la, .ref gy, .ref du, .ref re, .ref wm, .ref ac])), (pa, .inr (8, [.ref pa1, .ref pa2, .ref pa3, .int (nI p)])), (pa1, .inl (1, 108, .inl f)), (pa2, .inl (2, 108, .inl sn)), (pa3, .inl (0, 108, .inl (fun k => nI (qn k)))), (ou, .inl (3, 1, .inr (.inl of)))]) rfl ?_
    refine r_astore (lv' := [(7, .ref qx), (0, .ref a), (1, .int k), (2, .int x), (3, .int y), (4, .int w), (5, .int v), (6, .ref ou)]) d_Lw_draw_19 (by decide) rfl ?_
    refine r_iconst d_Lw_draw_21 (v := 1) (by decide) ?_
    refine r_iret d_Lw_draw_22 rfl rfl ?_
    exact ⟨rfl, rfl⟩
  · exact absurd hx.1 (by simp)
theorem d_Lw_draw_14 : decode method_3_code 14 = .ok (.i2l, 1) := by decide +kernel
theorem d_Lw_draw_15 : decode method_3_code 15 = .ok (.lastore, 1) := by decide +kernel
theorem d_Lw_draw_16 : decode method_3_code 16 = .ok (.goto 7, 3) := by decide +kernel
theorem d_Lw_draw_23 : decode method_3_code 23 = .ok (.iconst 0, 1) := by decide +kernel
theorem d_Lw_draw_24 : decode method_3_code 24 = .ok (.ireturn, 1) := by decide +kernel
set_option maxHeartbeats 4000000 in
set_option maxRecDepth 100000 in
theorem C_Lw_drawZ (g : zG) (a pa ta sa gs co fu la gy du re wm ac : Nat) (pa1 pa2 pa3 : Nat) (f sn : Nat → Int32) (qn : Nat → Nat) (p : Nat) (ta1 ta2 taz taz1 taz2 taz3 taz4 taz5 taz6 ta4 ta5 ta6 : Nat) (X : zTr) (kd : Int32) (hk : z_kind kd) (hki : 0 ≤ z_ix 0 kd) (x y u v : Nat) (hx : x + u ≤ 12) (hy : y + v ≤ 9) (hu : 1 ≤ u) (hv : 1 ≤ v) (hz : (prect kd x y u (f, 0) v).2 = 0) (ou : Nat) (of : Nat → Int64) : CT g M_Lw_draw [.ref a, .int kd, .int (nI x), .int (nI y), .int (nI u), .int (nI v), .ref ou] [(a, .inr (11, [.ref pa, .ref ta, .ref sa, .ref gs, .ref co, .ref fu, .ref la, .ref gy, .ref du, .ref re, .ref wm, .ref ac])), (pa, .inr (8, [.ref pa1, .ref pa2, .ref pa3, .int (nI p)])), (pa1, .inl (1, 108, .inl f)), (pa2, .inl (2, 108, .inl sn)), (pa3, .inl (0, 108, .inl (fun k => nI (qn k)))), (ta, .inr (10, [.ref ta1, .ref ta2, .ref taz, .ref ta4, .ref ta5, .ref ta6, .int X.1.2.2.1, .int X.1.2.2.2])), (ta1, .inl (1, 108, .inl X.1.1)), (ta2, .inl (0, 108, .inl X.1.2.1)), (taz, .inr (2, [.ref taz1, .ref taz2, .ref taz3, .ref taz4, .ref taz5, .ref taz6, .int X.2.1.1.1.2.2.2])), (taz1, .inl (0, 108, .inl X.2.1.1.1.1)), (taz2, .inl (0, 108, .inl X.2.1.1.2)), (taz3, .inl (0, 108, .inl X.2.1.1.1.2.1)), (taz4, .inl (0, 108, .inl X.2.1.1.1.2.2.1)), (taz5, .inl (0, 108, .inl X.2.1.2.1)), (taz6, .inl (0, 108, .inl X.2.1.2.2)), (ta4, .inl (2, 108, .inl X.2.2.1)), (ta5, .inl (2, 108, .inl X.2.2.2.1)), (ta6, .inl (0, 108, .inl (fun k => nI (X.2.2.2.2 k)))), (ou, .inl (3, 1, .inr (.inl of)))] (fun o cs1 => o = .inl (some (.int 0)) ∧ cs1 = [(a, .inr (11, [.ref pa, .ref ta, .ref sa, .ref gs, .ref co, .ref fu, .ref la, .ref gy, .ref du, .ref re, .ref wm, .ref ac])), (pa, .inr (8, [.ref pa1, .ref pa2, .ref pa3, .int (nI p)])), (pa1, .inl (1, 108, .inl ((prect kd x y u (f, 0) v).1))), (pa2, .inl (2, 108, .inl sn)), (pa3, .inl (0, 108, .inl (fun k => nI (qn k)))), (ta, .inr (10, [.ref ta1, .ref ta2, .ref taz, .ref ta4, .ref ta5, .ref ta6, .int X.1.2.2.1, .int X.1.2.2.2])), (ta1, .inl (1, 108, .inl X.1.1)), (ta2, .inl (0, 108, .inl X.1.2.1)), (taz, .inr (2, [.ref taz1, .ref taz2, .ref taz3, .ref taz4, .ref taz5, .ref taz6, .int X.2.1.1.1.2.2.2])), (taz1, .inl (0, 108, .inl X.2.1.1.1.1)), (taz2, .inl (0, 108, .inl X.2.1.1.2)), (taz3, .inl (0, 108, .inl X.2.1.1.1.2.1)), (taz4, .inl (0, 108, .inl X.2.1.1.1.2.2.1)), (taz5, .inl (0, 108, .inl X.2.1.2.1)), (taz6, .inl (0, 108, .inl X.2.1.2.2)), (ta4, .inl (2, 108, .inl X.2.2.1)), (ta5, .inl (2, 108, .inl X.2.2.2.1)), (ta6, .inl (0, 108, .inl (fun k => nI (X.2.2.2.2 k)))), (ou, .inl (3, 1, .inr (.inl (vp_updL of 0 ((nI (prect kd x y u (f, 0) v).2)).toInt64))))]) 1 6 := by
  refine z_ofH (by decide) (by decide) (Nat.le_of_ble_eq_true rfl) (fun w0 => ?_)
  refine r_lvE (lv2 := [(0, .ref a), (1, .int kd), (2, .int (nI x)), (3, .int (nI y)), (4, .int (nI u)), (5, .int (nI v)), (6, .ref ou)]) rfl ?_
  refine r_aload d_Lw_draw_0 6 rfl ?_
  refine r_iconst d_Lw_draw_2 (v := 0) (by decide) ?_
  refine r_aload_n d_Lw_draw_3 rfl 0 rfl ?_
  refine r_iload_n d_Lw_draw_4 rfl 1 rfl ?_
  refine r_iload_n d_Lw_draw_5 rfl 2 rfl ?_
  refine r_iload_n d_Lw_draw_6 rfl 3 rfl ?_
  refine r_iload d_Lw_draw_7 4 rfl ?_
  refine r_iload d_Lw_draw_9 5 rfl ?_
  refine r_callVH (As := [.int kd, .int (nI x), .int (nI y), .int (nI u), .int (nI v)]) (rest := [.int 0, .ref ou]) (csC := [(a, .inr (11, [.ref pa, .ref ta, .ref sa, .ref gs, .ref co, .ref fu, .ref la, .ref gy, .ref du, .ref re, .ref wm, .ref ac])), (pa, .inr (8, [.ref pa1, .ref pa2, .ref pa3, .int (nI p)])), (pa1, .inl (1, 108, .inl f)), (pa2, .inl (2, 108, .inl sn)), (pa3, .inl (0, 108, .inl (fun k => nI (qn k)))), (ta, .inr (10, [.ref ta1, .ref ta2, .ref taz, .ref ta4, .ref ta5, .ref ta6, .int X.1.2.2.1, .int X.1.2.2.2])), (ta1, .inl (1, 108, .inl X.1.1)), (ta2, .inl (0, 108, .inl X.1.2.1)), (taz, .inr (2, [.ref taz1, .ref taz2, .ref taz3, .ref taz4, .ref taz5, .ref taz6, .int X.2.1.1.1.2.2.2])), (taz1, .inl (0, 108, .inl X.2.1.1.1.1)), (taz2, .inl (0, 108, .inl X.2.1.1.2)), (taz3, .inl (0, 108, .inl X.2.1.1.1.2.1)), (taz4, .inl (0, 108, .inl X.2.1.1.1.2.2.1)), (taz5, .inl (0, 108, .inl X.2.1.2.1)), (taz6, .inl (0, 108, .inl X.2.1.2.2)), (ta4, .inl (2, 108, .inl X.2.2.1)), (ta5, .inl (2, 108, .inl X.2.2.2.1)), (ta6, .inl (0, 108, .inl (fun k => nI (X.2.2.2.2 k))))]) (is := [0, 1, 2, 3, 4, 5, 6, 7, 8, 9, 10, 11, 12, 13, 14, 15, 16, 17]) (q0 := 0) rfl rfl ln_Lw_7 w_im_Ip_draw w_se_Ip_draw ok_Lw_draw_Ip_draw d_Lw_draw_11 (C_Ip_drawZ g a pa ta sa gs co fu la gy du re wm ac pa1 pa2 pa3 f sn qn p ta1 ta2 taz taz1 taz2 taz3 taz4 taz5 taz6 ta4 ta5 ta6 X kd hk hki x y u v hx hy hu hv hz) rfl rfl (Nat.le_of_ble_eq_true rfl) rfl (by decide) (by omega) (by omega) (fun E cs1 hx => ?_) (fun v cs1 hx => ?_)
  · exact absurd hx.1 (by simp)
  · obtain ⟨e1, rfl⟩ := hx
    cases e1
    refine ⟨rfl, ?_⟩
    refine r_st (st2 := [.int (nI (prect kd x y u (f, 0) v).2), .int 0, .ref ou]) rfl ?_
    refine r_cs (cs2 := [(a, .inr (11, [.ref pa, .ref ta, .ref sa, .ref gs, .ref co, .ref fu, .ref la, .ref gy, .ref du, .ref re, .ref wm, .ref ac])), (pa, .inr (8, [.ref pa1, .ref pa2, .ref pa3, .int (nI p)])), (pa1, .inl (1, 108, .inl ((prect kd x y u (f, 0) v).1))), (pa2, .inl (2, 108, .inl sn)), (pa3, .inl (0, 108, .inl (fun k => nI (qn k)))), (ta, .inr (10, [.ref ta1, .ref ta2, .ref taz, .ref ta4, .ref ta5, .ref ta6, .int X.1.2.2.1, .int X.1.2.2.2])), (ta1, .inl (1, 108, .inl X.1.1)), (ta2, .inl (0, 108, .inl X.1.2.1)), (taz, .inr (2, [.ref taz1, .ref taz2, .ref taz3, .ref taz4, .ref taz5, .ref taz6, .int X.2.1.1.1.2.2.2])), (taz1, .inl (0, 108, .inl X.2.1.1.1.1)), (taz2, .inl (0, 108, .inl X.2.1.1.2)), (taz3, .inl (0, 108, .inl X.2.1.1.1.2.1)), (taz4, .inl (0, 108, .inl X.2.1.1.1.2.2.1)), (taz5, .inl (0, 108, .inl X.2.1.2.1)), (taz6, .inl (0, 108, .inl X.2.1.2.2)), (ta4, .inl (2, 108, .inl X.2.2.1)), (ta5, .inl (2, 108, .inl X.2.2.2.1)), (ta6, .inl (0, 108, .inl (fun k => nI (X.2.2.2.2 k)))), (ou, .inl (3, 1, .inr (.inl of)))]) rfl ?_
    refine r_i2l d_Lw_draw_14 (v := (nI (prect kd x y u (f, 0) v).2).toInt64) rfl ?_
    refine r_last d_Lw_draw_15 (q0 := 18) rfl (fun q => q.elim (by decide) (by decide)) (f' := vp_updL of 0 ((nI (prect kd x y u (f, 0) v).2).toInt64)) rfl (cs' := [(a, .inr (11, [.ref pa, .ref ta, .ref sa, .ref gs, .ref co, .ref fu, .ref la, .ref gy, .ref du, .ref re, .ref wm, .ref ac])), (pa, .inr (8, [.ref pa1, .ref pa2, .ref pa3, .int (nI p)])), (pa1, .inl (1, 108, .inl ((prect kd x y u (f, 0) v).1))), (pa2, .inl (2, 108, .inl sn)), (pa3, .inl (0, 108, .inl (fun k => nI (qn k)))), (ta, .inr (10, [.ref ta1, .ref ta2, .ref taz, .ref ta4, .ref ta5, .ref ta6, .int X.1.2.2.1, .int X.1.2.2.2])), (ta1, .inl (1, 108, .inl X.1.1)), (ta2, .inl (0, 108, .inl X.1.2.1)), (taz, .inr (2, [.ref taz1, .ref taz2, .ref taz3, .ref taz4, .ref taz5, .ref taz6, .int X.2.1.1.1.2.2.2])), (taz1, .inl (0, 108, .inl X.2.1.1.1.1)), (taz2, .inl (0, 108, .inl X.2.1.1.2)), (taz3, .inl (0, 108, .inl X.2.1.1.1.2.1)), (taz4, .inl (0, 108, .inl X.2.1.1.1.2.2.1)), (taz5, .inl (0, 108, .inl X.2.1.2.1)), (taz6, .inl (0, 108, .inl X.2.1.2.2)), (ta4, .inl (2, 108, .inl X.2.2.1)), (ta5, .inl (2, 108, .inl X.2.2.2.1)), (ta6, .inl (0, 108, .inl (fun k => nI (X.2.2.2.2 k)))), (ou, .inl (3, 1, .inr (.inl (vp_updL of 0 ((nI (prect kd x y u (f, 0) v).2).toInt64)))))]) rfl ?_
    refine r_goto (tgt := 23) d_Lw_draw_16 (by decide) ?_
    refine r_iconst d_Lw_draw_23 (v := 0) (by decide) ?_
    refine r_iret d_Lw_draw_24 rfl rfl ?_
    exact ⟨rfl, rfl⟩
set_option maxHeartbeats 4000000 in
set_option maxRecDepth 100000 in
theorem C_Lw_drawN (g : zG) (a pa ta sa gs co fu la gy du re wm ac : Nat) (pa1 pa2 pa3 : Nat) (f sn : Nat → Int32) (qn : Nat → Nat) (p : Nat) (ta1 ta2 taz taz1 taz2 taz3 taz4 taz5 taz6 ta4 ta5 ta6 : Nat) (X : zTr) (kd : Int32) (hk : z_kind kd) (hki : 0 ≤ z_ix 0 kd) (x y u v : Nat) (hx : x + u ≤ 12) (hy : y + v ≤ 9) (hu : 1 ≤ u) (hv : 1 ≤ v) (hz : ¬ (prect kd x y u (f, 0) v).2 = 0) (hf : z_ch (prect kd x y u (f, 0) v).1) (ou : Nat) (of : Nat → Int64) : CT g M_Lw_draw [.ref a, .int kd, .int (nI x), .int (nI y), .int (nI u), .int (nI v), .ref ou] [(a, .inr (11, [.ref pa, .ref ta, .ref sa, .ref gs, .ref co, .ref fu, .ref la, .ref gy, .ref du, .ref re, .ref wm, .ref ac])), (pa, .inr (8, [.ref pa1, .ref pa2, .ref pa3, .int (nI p)])), (pa1, .inl (1, 108, .inl f)), (pa2, .inl (2, 108, .inl sn)), (pa3, .inl (0, 108, .inl (fun k => nI (qn k)))), (ta, .inr (10, [.ref ta1, .ref ta2, .ref taz, .ref ta4, .ref ta5, .ref ta6, .int X.1.2.2.1, .int X.1.2.2.2])), (ta1, .inl (1, 108, .inl X.1.1)), (ta2, .inl (0, 108, .inl X.1.2.1)), (taz, .inr (2, [.ref taz1, .ref taz2, .ref taz3, .ref taz4, .ref taz5, .ref taz6, .int X.2.1.1.1.2.2.2])), (taz1, .inl (0, 108, .inl X.2.1.1.1.1)), (taz2, .inl (0, 108, .inl X.2.1.1.2)), (taz3, .inl (0, 108, .inl X.2.1.1.1.2.1)), (taz4, .inl (0, 108, .inl X.2.1.1.1.2.2.1)), (taz5, .inl (0, 108, .inl X.2.1.2.1)), (taz6, .inl (0, 108, .inl X.2.1.2.2)), (ta4, .inl (2, 108, .inl X.2.2.1)), (ta5, .inl (2, 108, .inl X.2.2.2.1)), (ta6, .inl (0, 108, .inl (fun k => nI (X.2.2.2.2 k)))), (ou, .inl (3, 1, .inr (.inl of)))] (fun o cs1 => o = .inl (some (.int 0)) ∧ cs1 = [(a, .inr (11, [.ref pa, .ref ta, .ref sa, .ref gs, .ref co, .ref fu, .ref la, .ref gy, .ref du, .ref re, .ref wm, .ref ac])), (pa, .inr (8, [.ref pa1, .ref pa2, .ref pa3, .int (nI p)])), (pa1, .inl (1, 108, .inl ((prect kd x y u (f, 0) v).1))), (pa2, .inl (2, 108, .inl sn)), (pa3, .inl (0, 108, .inl (fun k => nI (qn k)))), (ta, .inr (10, [.ref ta1, .ref ta2, .ref taz, .ref ta4, .ref ta5, .ref ta6, .int ((tkT (prect kd x y u (f, 0) v).1 X).1.2.2.1), .int ((tkT (prect kd x y u (f, 0) v).1 X).1.2.2.2)])), (ta1, .inl (1, 108, .inl ((tkT (prect kd x y u (f, 0) v).1 X).1.1))), (ta2, .inl (0, 108, .inl ((tkT (prect kd x y u (f, 0) v).1 X).1.2.1))), (taz, .inr (2, [.ref taz1, .ref taz2, .ref taz3, .ref taz4, .ref taz5, .ref taz6, .int ((tkT (prect kd x y u (f, 0) v).1 X).2.1.1.1.2.2.2)])), (taz1, .inl (0, 108, .inl ((tkT (prect kd x y u (f, 0) v).1 X).2.1.1.1.1))), (taz2, .inl (0, 108, .inl ((tkT (prect kd x y u (f, 0) v).1 X).2.1.1.2))), (taz3, .inl (0, 108, .inl ((tkT (prect kd x y u (f, 0) v).1 X).2.1.1.1.2.1))), (taz4, .inl (0, 108, .inl ((tkT (prect kd x y u (f, 0) v).1 X).2.1.1.1.2.2.1))), (taz5, .inl (0, 108, .inl ((tkT (prect kd x y u (f, 0) v).1 X).2.1.2.1))), (taz6, .inl (0, 108, .inl ((tkT (prect kd x y u (f, 0) v).1 X).2.1.2.2))), (ta4, .inl (2, 108, .inl ((tkT (prect kd x y u (f, 0) v).1 X).2.2.1))), (ta5, .inl (2, 108, .inl ((tkT (prect kd x y u (f, 0) v).1 X).2.2.2.1))), (ta6, .inl (0, 108, .inl (fun k => nI ((tkT (prect kd x y u (f, 0) v).1 X).2.2.2.2 k)))), (ou, .inl (3, 1, .inr (.inl (vp_updL of 0 ((nI (prect kd x y u (f, 0) v).2)).toInt64))))]) 1 6 := by
  refine z_ofH (by decide) (by decide) (Nat.le_of_ble_eq_true rfl) (fun w0 => ?_)
  refine r_lvE (lv2 := [(0, .ref a), (1, .int kd), (2, .int (nI x)), (3, .int (nI y)), (4, .int (nI u)), (5, .int (nI v)), (6, .ref ou)]) rfl ?_
  refine r_aload d_Lw_draw_0 6 rfl ?_
  refine r_iconst d_Lw_draw_2 (v := 0) (by decide) ?_
  refine r_aload_n d_Lw_draw_3 rfl 0 rfl ?_
  refine r_iload_n d_Lw_draw_4 rfl 1 rfl ?_
  refine r_iload_n d_Lw_draw_5 rfl 2 rfl ?_
  refine r_iload_n d_Lw_draw_6 rfl 3 rfl ?_
  refine r_iload d_Lw_draw_7 4 rfl ?_
  refine r_iload d_Lw_draw_9 5 rfl ?_
  refine r_callVH (As := [.int kd, .int (nI x), .int (nI y), .int (nI u), .int (nI v)]) (rest := [.int 0, .ref ou]) (csC := [(a, .inr (11, [.ref pa, .ref ta, .ref sa, .ref gs, .ref co, .ref fu, .ref la, .ref gy, .ref du, .ref re, .ref wm, .ref ac])), (pa, .inr (8, [.ref pa1, .ref pa2, .ref pa3, .int (nI p)])), (pa1, .inl (1, 108, .inl f)), (pa2, .inl (2, 108, .inl sn)), (pa3, .inl (0, 108, .inl (fun k => nI (qn k)))), (ta, .inr (10, [.ref ta1, .ref ta2, .ref taz, .ref ta4, .ref ta5, .ref ta6, .int X.1.2.2.1, .int X.1.2.2.2])), (ta1, .inl (1, 108, .inl X.1.1)), (ta2, .inl (0, 108, .inl X.1.2.1)), (taz, .inr (2, [.ref taz1, .ref taz2, .ref taz3, .ref taz4, .ref taz5, .ref taz6, .int X.2.1.1.1.2.2.2])), (taz1, .inl (0, 108, .inl X.2.1.1.1.1)), (taz2, .inl (0, 108, .inl X.2.1.1.2)), (taz3, .inl (0, 108, .inl X.2.1.1.1.2.1)), (taz4, .inl (0, 108, .inl X.2.1.1.1.2.2.1)), (taz5, .inl (0, 108, .inl X.2.1.2.1)), (taz6, .inl (0, 108, .inl X.2.1.2.2)), (ta4, .inl (2, 108, .inl X.2.2.1)), (ta5, .inl (2, 108, .inl X.2.2.2.1)), (ta6, .inl (0, 108, .inl (fun k => nI (X.2.2.2.2 k))))]) (is := [0, 1, 2, 3, 4, 5, 6, 7, 8, 9, 10, 11, 12, 13, 14, 15, 16, 17]) (q0 := 0) rfl rfl ln_Lw_7 w_im_Ip_draw w_se_Ip_draw ok_Lw_draw_Ip_draw d_Lw_draw_11 (C_Ip_drawN g a pa ta sa gs co fu la gy du re wm ac pa1 pa2 pa3 f sn qn p ta1 ta2 taz taz1 taz2 taz3 taz4 taz5 taz6 ta4 ta5 ta6 X kd hk hki x y u v hx hy hu hv hz hf) rfl rfl (Nat.le_of_ble_eq_true rfl) rfl (by decide) (by omega) (by omega) (fun E cs1 hx => ?_) (fun v cs1 hx => ?_)
  · exact absurd hx.1 (by simp)
  · obtain ⟨e1, rfl⟩ := hx
    cases e1
    refine ⟨rfl, ?_⟩
    refine r_st (st2 := [.int (nI (prect kd x y u (f, 0) v).2), .int 0, .ref ou]) rfl ?_
    refine r_cs (cs2 := [(a, .inr (11, [.ref pa, .ref ta, .ref sa, .ref gs, .ref co, .ref fu, .ref la, .ref gy, .ref du, .ref re, .ref wm, .ref ac])), (pa, .inr (8, [.ref pa1, .ref pa2, .ref pa3, .int (nI p)])), (pa1, .inl (1, 108, .inl ((prect kd x y u (f, 0) v).1))), (pa2, .inl (2, 108, .inl sn)), (pa3, .inl (0, 108, .inl (fun k => nI (qn k)))), (ta, .inr (10, [.ref ta1, .ref ta2, .ref taz, .ref ta4, .ref ta5, .ref ta6, .int ((tkT (prect kd x y u (f, 0) v).1 X).1.2.2.1), .int ((tkT (prect kd x y u (f, 0) v).1 X).1.2.2.2)])), (ta1, .inl (1, 108, .inl ((tkT (prect kd x y u (f, 0) v).1 X).1.1))), (ta2, .inl (0, 108, .inl ((tkT (prect kd x y u (f, 0) v).1 X).1.2.1))), (taz, .inr (2, [.ref taz1, .ref taz2, .ref taz3, .ref taz4, .ref taz5, .ref taz6, .int ((tkT (prect kd x y u (f, 0) v).1 X).2.1.1.1.2.2.2)])), (taz1, .inl (0, 108, .inl ((tkT (prect kd x y u (f, 0) v).1 X).2.1.1.1.1))), (taz2, .inl (0, 108, .inl ((tkT (prect kd x y u (f, 0) v).1 X).2.1.1.2))), (taz3, .inl (0, 108, .inl ((tkT (prect kd x y u (f, 0) v).1 X).2.1.1.1.2.1))), (taz4, .inl (0, 108, .inl ((tkT (prect kd x y u (f, 0) v).1 X).2.1.1.1.2.2.1))), (taz5, .inl (0, 108, .inl ((tkT (prect kd x y u (f, 0) v).1 X).2.1.2.1))), (taz6, .inl (0, 108, .inl ((tkT (prect kd x y u (f, 0) v).1 X).2.1.2.2))), (ta4, .inl (2, 108, .inl ((tkT (prect kd x y u (f, 0) v).1 X).2.2.1))), (ta5, .inl (2, 108, .inl ((tkT (prect kd x y u (f, 0) v).1 X).2.2.2.1))), (ta6, .inl (0, 108, .inl (fun k => nI ((tkT (prect kd x y u (f, 0) v).1 X).2.2.2.2 k)))), (ou, .inl (3, 1, .inr (.inl of)))]) rfl ?_
    refine r_i2l d_Lw_draw_14 (v := (nI (prect kd x y u (f, 0) v).2).toInt64) rfl ?_
    refine r_last d_Lw_draw_15 (q0 := 18) rfl (fun q => q.elim (by decide) (by decide)) (f' := vp_updL of 0 ((nI (prect kd x y u (f, 0) v).2).toInt64)) rfl (cs' := [(a, .inr (11, [.ref pa, .ref ta, .ref sa, .ref gs, .ref co, .ref fu, .ref la, .ref gy, .ref du, .ref re, .ref wm, .ref ac])), (pa, .inr (8, [.ref pa1, .ref pa2, .ref pa3, .int (nI p)])), (pa1, .inl (1, 108, .inl ((prect kd x y u (f, 0) v).1))), (pa2, .inl (2, 108, .inl sn)), (pa3, .inl (0, 108, .inl (fun k => nI (qn k)))), (ta, .inr (10, [.ref ta1, .ref ta2, .ref taz, .ref ta4, .ref ta5, .ref ta6, .int ((tkT (prect kd x y u (f, 0) v).1 X).1.2.2.1), .int ((tkT (prect kd x y u (f, 0) v).1 X).1.2.2.2)])), (ta1, .inl (1, 108, .inl ((tkT (prect kd x y u (f, 0) v).1 X).1.1))), (ta2, .inl (0, 108, .inl ((tkT (prect kd x y u (f, 0) v).1 X).1.2.1))), (taz, .inr (2, [.ref taz1, .ref taz2, .ref taz3, .ref taz4, .ref taz5, .ref taz6, .int ((tkT (prect kd x y u (f, 0) v).1 X).2.1.1.1.2.2.2)])), (taz1, .inl (0, 108, .inl ((tkT (prect kd x y u (f, 0) v).1 X).2.1.1.1.1))), (taz2, .inl (0, 108, .inl ((tkT (prect kd x y u (f, 0) v).1 X).2.1.1.2))), (taz3, .inl (0, 108, .inl ((tkT (prect kd x y u (f, 0) v).1 X).2.1.1.1.2.1))), (taz4, .inl (0, 108, .inl ((tkT (prect kd x y u (f, 0) v).1 X).2.1.1.1.2.2.1))), (taz5, .inl (0, 108, .inl ((tkT (prect kd x y u (f, 0) v).1 X).2.1.2.1))), (taz6, .inl (0, 108, .inl ((tkT (prect kd x y u (f, 0) v).1 X).2.1.2.2))), (ta4, .inl (2, 108, .inl ((tkT (prect kd x y u (f, 0) v).1 X).2.2.1))), (ta5, .inl (2, 108, .inl ((tkT (prect kd x y u (f, 0) v).1 X).2.2.2.1))), (ta6, .inl (0, 108, .inl (fun k => nI ((tkT (prect kd x y u (f, 0) v).1 X).2.2.2.2 k)))), (ou, .inl (3, 1, .inr (.inl (vp_updL of 0 ((nI (prect kd x y u (f, 0) v).2).toInt64)))))]) rfl ?_
    refine r_goto (tgt := 23) d_Lw_draw_16 (by decide) ?_
    refine r_iconst d_Lw_draw_23 (v := 0) (by decide) ?_
    refine r_iret d_Lw_draw_24 rfl rfl ?_
    exact ⟨rfl, rfl⟩
abbrev M_Lw_cell : zM := (⟨"IronpourLaw", "cell", "(LIronpour;II[J)I"⟩, method_4_code, 5, (Option.some FieldType.int), 8, 143, [((0 : Nat), (10 : Nat), (13 : Nat), (19 : Nat))])
theorem d_Lw_cell_0 : decode method_4_code 0 = .ok (.aload_n 3, 1) := by decide +kernel
theorem d_Lw_cell_1 : decode method_4_code 1 = .ok (.iconst 0, 1) := by decide +kernel
theorem d_Lw_cell_2 : decode method_4_code 2 = .ok (.aload_n 0, 1) := by decide +kernel
theorem d_Lw_cell_3 : decode method_4_code 3 = .ok (.iload_n 1, 1) := by decide +kernel
theorem d_Lw_cell_4 : decode method_4_code 4 = .ok (.iload_n 2, 1) := by decide +kernel
theorem d_Lw_cell_5 : decode method_4_code 5 = .ok (.invokevirtual 15, 3) := by decide +kernel
theorem ok_Lw_cell_Ip_cell : z_okH M_Lw_cell M_Ip_cell 2 := ⟨z_mem (i := 796) (by decide +kernel) (by decide +kernel), rfl, ⟨by decide +kernel, by decide +kernel, by decide +kernel⟩, ⟨by decide, by decide⟩, z_mem (i := 58) (by decide +kernel) (by decide +kernel)⟩
theorem ln_Lw_15 : Cond.methodLink "IronpourLaw" 15 M_Ip_cell.1 ∈ z_gw := z_mem (i := 793) (by decide +kernel) (by decide +kernel)
theorem w_im_Ip_cell : Cond.instanceMethod M_Ip_cell.1 ∈ z_gw := z_mem (i := 794) (by decide +kernel) (by decide +kernel)
theorem w_se_Ip_cell : Cond.selects M_Ip_cell.1.cls M_Ip_cell.1 M_Ip_cell.1 ∈ z_gw := z_mem (i := 795) (by decide +kernel) (by decide +kernel)
theorem ce_19 : Cond.castable "java/lang/IndexOutOfBoundsException" "java/lang/IndexOutOfBoundsException" ∈ z_nw := z_memN (i := 802) (by decide +kernel) (by decide +kernel)
theorem lx_Lw_19 : Cond.classLink "IronpourLaw" 19 "java/lang/IndexOutOfBoundsException" ∈ z_gw := z_mem (i := 769) (by decide +kernel) (by decide +kernel)
theorem d_Lw_cell_13 : decode method_4_code 13 = .ok (.astore 4, 2) := by decide +kernel
theorem d_Lw_cell_15 : decode method_4_code 15 = .ok (.iconst 1, 1) := by decide +kernel
theorem d_Lw_cell_16 : decode method_4_code 16 = .ok (.ireturn, 1) := by decide +kernel
set_option maxHeartbeats 4000000 in
set_option maxRecDepth 100000 in
theorem C_Lw_cellE (g : zG) (a pa ta sa gs co fu la gy du re wm ac : Nat) (pa1 pa2 pa3 : Nat) (f sn : Nat → Int32) (qn : Nat → Nat) (p : Nat) (x y : Int32) (hz : z_cl x y = none) (ou : Nat) (of : Nat → Int64) : CT g M_Lw_cell [.ref a, .int x, .int y, .ref ou] [(a, .inr (11, [.ref pa, .ref ta, .ref sa, .ref gs, .ref co, .ref fu, .ref la, .ref gy, .ref du, .ref re, .ref wm, .ref ac])), (pa, .inr (8, [.ref pa1, .ref pa2, .ref pa3, .int (nI p)])), (pa1, .inl (1, 108, .inl f)), (pa2, .inl (2, 108, .inl sn)), (pa3, .inl (0, 108, .inl (fun k => nI (qn k)))), (ou, .inl (3, 1, .inr (.inl of)))] (fun o cs1 => o = .inl (some (.int 1)) ∧ cs1 = [(a, .inr (11, [.ref pa, .ref ta, .ref sa, .ref gs, .ref co, .ref fu, .ref la, .ref gy, .ref du, .ref re, .ref wm, .ref ac])), (pa, .inr (8, [.ref pa1, .ref pa2, .ref pa3, .int (nI p)])), (pa1, .inl (1, 108, .inl f)), (pa2, .inl (2, 108, .inl sn)), (pa3, .inl (0, 108, .inl (fun k => nI (qn k)))), (ou, .inl (3, 1, .inr (.inl of)))]) 1 6 := by
  refine z_ofH (by decide) (by decide) (Nat.le_of_ble_eq_true rfl) (fun w0 => ?_)
  refine r_lvE (lv2 := [(0, .ref a), (1, .int x), (2, .int y), (3, .ref ou)]) rfl ?_
  refine r_aload_n d_Lw_cell_0 rfl 3 rfl ?_
  refine r_iconst d_Lw_cell_1 (v := 0) (by decide) ?_
  refine r_aload_n d_Lw_cell_2 rfl 0 rfl ?_
  refine r_iload_n d_Lw_cell_3 rfl 1 rfl ?_
  refine r_iload_n d_Lw_cell_4 rfl 2 rfl ?_
  refine r_callVH (As := [.int x, .int y]) (rest := [.int 0, .ref ou]) (csC := [(a, .inr (11, [.ref pa, .ref ta, .ref sa, .ref gs, .ref co, .ref fu, .ref la, .ref gy, .ref du, .ref re, .ref wm, .ref ac])), (pa, .inr (8, [.ref pa1, .ref pa2, .ref pa3, .int (nI p)])), (pa1, .inl (1, 108, .inl f)), (pa2, .inl (2, 108, .inl sn)), (pa3, .inl (0, 108, .inl (fun k => nI (qn k))))]) (is := [0, 1, 2, 3, 4]) (q0 := 0) rfl rfl ln_Lw_15 w_im_Ip_cell w_se_Ip_cell ok_Lw_cell_Ip_cell d_Lw_cell_5 (C_Ip_cellE g a pa ta sa gs co fu la gy du re wm ac pa1 pa2 pa3 f sn qn p x y hz) rfl rfl (Nat.le_of_ble_eq_true rfl) rfl (by decide) (by omega) (by omega) (fun E cs1 hx => ?_) (fun v cs1 hx => ?_)
  · obtain ⟨e1, rfl⟩ := hx
    cases e1
    refine ⟨rfl, "java/lang/IndexOutOfBoundsException", [], [], (0, 10, 13, 19), rfl, (fun z hz => nomatch hz), by decide, by decide, lx_Lw_19, ce_19, fun qx => ?_⟩
    refine r_cs (cs2 := [(a, .inr (11, [.ref pa, .ref ta, .ref sa, .ref gs, .ref co, .ref fu, .ref la, .ref gy, .ref du, .ref re, .ref wm, .ref ac])), (pa, .inr (8, [.ref pa1, .ref pa2, .ref pa3, .int (nI p)])), (pa1, .inl (1, 108, .inl f)), (pa2, .inl (2, 108, .inl sn)), (pa3, .inl (0, 108, .inl (fun k => nI (qn k)))), (ou, .inl (3, 1, .inr (.inl of)))]) rfl ?_
    refine r_astore (lv' := [(4, .ref qx), (0, .ref a), (1, .int x), (2, .int y), (3, .ref ou)]) d_Lw_cell_13 (by decide) rfl ?_
    refine r_iconst d_Lw_cell_15 (v := 1) (by decide) ?_
    refine r_iret d_Lw_cell_16 rfl rfl ?_
    exact ⟨rfl, rfl⟩
  · exact absurd hx.1 (by simp)
theorem d_Lw_cell_8 : decode method_4_code 8 = .ok (.i2l, 1) := by decide +kernel
theorem d_Lw_cell_9 : decode method_4_code 9 = .ok (.lastore, 1) := by decide +kernel
theorem d_Lw_cell_10 : decode method_4_code 10 = .ok (.goto 7, 3) := by decide +kernel
theorem d_Lw_cell_17 : decode method_4_code 17 = .ok (.iconst 0, 1) := by decide +kernel
theorem d_Lw_cell_18 : decode method_4_code 18 = .ok (.ireturn, 1) := by decide +kernel
set_option maxHeartbeats 4000000 in
set_option maxRecDepth 100000 in
theorem C_Lw_cellN (g : zG) (a pa ta sa gs co fu la gy du re wm ac : Nat) (pa1 pa2 pa3 : Nat) (f sn : Nat → Int32) (qn : Nat → Nat) (p : Nat) (x y : Int32) (c : Nat) (hz : z_cl x y = some c) (hf : z_ch f) (ou : Nat) (of : Nat → Int64) : CT g M_Lw_cell [.ref a, .int x, .int y, .ref ou] [(a, .inr (11, [.ref pa, .ref ta, .ref sa, .ref gs, .ref co, .ref fu, .ref la, .ref gy, .ref du, .ref re, .ref wm, .ref ac])), (pa, .inr (8, [.ref pa1, .ref pa2, .ref pa3, .int (nI p)])), (pa1, .inl (1, 108, .inl f)), (pa2, .inl (2, 108, .inl sn)), (pa3, .inl (0, 108, .inl (fun k => nI (qn k)))), (ou, .inl (3, 1, .inr (.inl of)))] (fun o cs1 => o = .inl (some (.int 0)) ∧ cs1 = [(a, .inr (11, [.ref pa, .ref ta, .ref sa, .ref gs, .ref co, .ref fu, .ref la, .ref gy, .ref du, .ref re, .ref wm, .ref ac])), (pa, .inr (8, [.ref pa1, .ref pa2, .ref pa3, .int (nI p)])), (pa1, .inl (1, 108, .inl f)), (pa2, .inl (2, 108, .inl sn)), (pa3, .inl (0, 108, .inl (fun k => nI (qn k)))), (ou, .inl (3, 1, .inr (.inl (vp_updL of 0 ((f c)).toInt64))))]) 1 6 := by
  refine z_ofH (by decide) (by decide) (Nat.le_of_ble_eq_true rfl) (fun w0 => ?_)
  refine r_lvE (lv2 := [(0, .ref a), (1, .int x), (2, .int y), (3, .ref ou)]) rfl ?_
  refine r_aload_n d_Lw_cell_0 rfl 3 rfl ?_
  refine r_iconst d_Lw_cell_1 (v := 0) (by decide) ?_
  refine r_aload_n d_Lw_cell_2 rfl 0 rfl ?_
  refine r_iload_n d_Lw_cell_3 rfl 1 rfl ?_
  refine r_iload_n d_Lw_cell_4 rfl 2 rfl ?_
  refine r_callVH (As := [.int x, .int y]) (rest := [.int 0, .ref ou]) (csC := [(a, .inr (11, [.ref pa, .ref ta, .ref sa, .ref gs, .ref co, .ref fu, .ref la, .ref gy, .ref du, .ref re, .ref wm, .ref ac])), (pa, .inr (8, [.ref pa1, .ref pa2, .ref pa3, .int (nI p)])), (pa1, .inl (1, 108, .inl f)), (pa2, .inl (2, 108, .inl sn)), (pa3, .inl (0, 108, .inl (fun k => nI (qn k))))]) (is := [0, 1, 2, 3, 4]) (q0 := 0) rfl rfl ln_Lw_15 w_im_Ip_cell w_se_Ip_cell ok_Lw_cell_Ip_cell d_Lw_cell_5 (C_Ip_cellN g a pa ta sa gs co fu la gy du re wm ac pa1 pa2 pa3 f sn qn p x y c hz hf) rfl rfl (Nat.le_of_ble_eq_true rfl) rfl (by decide) (by omega) (by omega) (fun E cs1 hx => ?_) (fun v cs1 hx => ?_)
  · exact absurd hx.1 (by simp)
  · obtain ⟨e1, rfl⟩ := hx
    cases e1
    refine ⟨rfl, ?_⟩
    refine r_st (st2 := [.int (f c), .int 0, .ref ou]) rfl ?_
    refine r_cs (cs2 := [(a, .inr (11, [.ref pa, .ref ta, .ref sa, .ref gs, .ref co, .ref fu, .ref la, .ref gy, .ref du, .ref re, .ref wm, .ref ac])), (pa, .inr (8, [.ref pa1, .ref pa2, .ref pa3, .int (nI p)])), (pa1, .inl (1, 108, .inl f)), (pa2, .inl (2, 108, .inl sn)), (pa3, .inl (0, 108, .inl (fun k => nI (qn k)))), (ou, .inl (3, 1, .inr (.inl of)))]) rfl ?_
    refine r_i2l d_Lw_cell_8 (v := (f c).toInt64) rfl ?_
    refine r_last d_Lw_cell_9 (q0 := 5) rfl (fun q => q.elim (by decide) (by decide)) (f' := vp_updL of 0 ((f c).toInt64)) rfl (cs' := [(a, .inr (11, [.ref pa, .ref ta, .ref sa, .ref gs, .ref co, .ref fu, .ref la, .ref gy, .ref du, .ref re, .ref wm, .ref ac])), (pa, .inr (8, [.ref pa1, .ref pa2, .ref pa3, .int (nI p)])), (pa1, .inl (1, 108, .inl f)), (pa2, .inl (2, 108, .inl sn)), (pa3, .inl (0, 108, .inl (fun k => nI (qn k)))), (ou, .inl (3, 1, .inr (.inl (vp_updL of 0 ((f c).toInt64)))))]) rfl ?_
    refine r_goto (tgt := 17) d_Lw_cell_10 (by decide) ?_
    refine r_iconst d_Lw_cell_17 (v := 0) (by decide) ?_
    refine r_iret d_Lw_cell_18 rfl rfl ?_
    exact ⟨rfl, rfl⟩
abbrev M_Lw_part : zM := (⟨"IronpourLaw", "part", "(LIronpour;I[J)I"⟩, method_5_code, 4, (Option.some FieldType.int), 7, 122, [((0 : Nat), (9 : Nat), (12 : Nat), (13 : Nat))])
theorem d_Lw_part_0 : decode method_5_code 0 = .ok (.aload_n 2, 1) := by decide +kernel
theorem d_Lw_part_1 : decode method_5_code 1 = .ok (.iconst 0, 1) := by decide +kernel
theorem d_Lw_part_2 : decode method_5_code 2 = .ok (.aload_n 0, 1) := by decide +kernel
theorem d_Lw_part_3 : decode method_5_code 3 = .ok (.iload_n 1, 1) := by decide +kernel
theorem d_Lw_part_4 : decode method_5_code 4 = .ok (.invokevirtual 21, 3) := by decide +kernel
theorem ok_Lw_part_Ip_part : z_okH M_Lw_part M_Ip_part 1 := ⟨z_mem (i := 819) (by decide +kernel) (by decide +kernel), rfl, ⟨by decide +kernel, by decide +kernel, by decide +kernel⟩, ⟨by decide, by decide⟩, z_mem (i := 58) (by decide +kernel) (by decide +kernel)⟩
theorem ln_Lw_21 : Cond.methodLink "IronpourLaw" 21 M_Ip_part.1 ∈ z_gw := z_mem (i := 816) (by decide +kernel) (by decide +kernel)
theorem w_im_Ip_part : Cond.instanceMethod M_Ip_part.1 ∈ z_gw := z_mem (i := 817) (by decide +kernel) (by decide +kernel)
theorem w_se_Ip_part : Cond.selects M_Ip_part.1.cls M_Ip_part.1 M_Ip_part.1 ∈ z_gw := z_mem (i := 818) (by decide +kernel) (by decide +kernel)
theorem d_Lw_part_12 : decode method_5_code 12 = .ok (.astore_n 3, 1) := by decide +kernel
theorem d_Lw_part_13 : decode method_5_code 13 = .ok (.iconst 1, 1) := by decide +kernel
theorem d_Lw_part_14 : decode method_5_code 14 = .ok (.ireturn, 1) := by decide +kernel
set_option maxHeartbeats 4000000 in
set_option maxRecDepth 100000 in
theorem C_Lw_partE (g : zG) (a pa ta sa gs co fu la gy du re wm ac : Nat) (pa1 pa2 pa3 : Nat) (f sn : Nat → Int32) (qn : Nat → Nat) (p : Nat) (r : Int32) (hr : r < 1 ∨ 9 ≤ r) (ou : Nat) (of : Nat → Int64) : CT g M_Lw_part [.ref a, .int r, .ref ou] [(a, .inr (11, [.ref pa, .ref ta, .ref sa, .ref gs, .ref co, .ref fu, .ref la, .ref gy, .ref du, .ref re, .ref wm, .ref ac])), (pa, .inr (8, [.ref pa1, .ref pa2, .ref pa3, .int (nI p)])), (pa1, .inl (1, 108, .inl f)), (pa2, .inl (2, 108, .inl sn)), (pa3, .inl (0, 108, .inl (fun k => nI (qn k)))), (ou, .inl (3, 1, .inr (.inl of)))] (fun o cs1 => o = .inl (some (.int 1)) ∧ cs1 = [(a, .inr (11, [.ref pa, .ref ta, .ref sa, .ref gs, .ref co, .ref fu, .ref la, .ref gy, .ref du, .ref re, .ref wm, .ref ac])), (pa, .inr (8, [.ref pa1, .ref pa2, .ref pa3, .int (nI p)])), (pa1, .inl (1, 108, .inl f)), (pa2, .inl (2, 108, .inl sn)), (pa3, .inl (0, 108, .inl (fun k => nI (qn k)))), (ou, .inl (3, 1, .inr (.inl of)))]) 1 6 := by
  refine z_ofH (by decide) (by decide) (Nat.le_of_ble_eq_true rfl) (fun w0 => ?_)
  refine r_lvE (lv2 := [(0, .ref a), (1, .int r), (2, .ref ou)]) rfl ?_
  refine r_aload_n d_Lw_part_0 rfl 2 rfl ?_
  refine r_iconst d_Lw_part_1 (v := 0) (by decide) ?_
  refine r_aload_n d_Lw_part_2 rfl 0 rfl ?_
  refine r_iload_n d_Lw_part_3 rfl 1 rfl ?_
  refine r_callVH (As := [.int r]) (rest := [.int 0, .ref ou]) (csC := [(a, .inr (11, [.ref pa, .ref ta, .ref sa, .ref gs, .ref co, .ref fu, .ref la, .ref gy, .ref du, .ref re, .ref wm, .ref ac])), (pa, .inr (8, [.ref pa1, .ref pa2, .ref pa3, .int (nI p)])), (pa1, .inl (1, 108, .inl f)), (pa2, .inl (2, 108, .inl sn)), (pa3, .inl (0, 108, .inl (fun k => nI (qn k))))]) (is := [0, 1, 2, 3, 4]) (q0 := 0) rfl rfl ln_Lw_21 w_im_Ip_part w_se_Ip_part ok_Lw_part_Ip_part d_Lw_part_4 (C_Ip_partE g a pa ta sa gs co fu la gy du re wm ac pa1 pa2 pa3 f sn qn p r hr) rfl rfl (Nat.le_of_ble_eq_true rfl) rfl (by decide) (by omega) (by omega) (fun E cs1 hx => ?_) (fun v cs1 hx => ?_)
  · obtain ⟨e1, rfl⟩ := hx
    cases e1
    refine ⟨rfl, "java/lang/IllegalArgumentException", [], [], (0, 9, 12, 13), rfl, (fun z hz => nomatch hz), by decide, by decide, lx_Lw_13, ce_13, fun qx => ?_⟩
    refine r_cs (cs2 := [(a, .inr (11, [.ref pa, .ref ta, .ref sa, .ref gs, .ref co, .ref fu, .ref la, .ref gy, .ref du, .ref re, .ref wm, .ref ac])), (pa, .inr (8, [.ref pa1, .ref pa2, .ref pa3, .int (nI p)])), (pa1, .inl (1, 108, .inl f)), (pa2, .inl (2, 108, .inl sn)), (pa3, .inl (0, 108, .inl (fun k => nI (qn k)))), (ou, .inl (3, 1, .inr (.inl of)))]) rfl ?_
    refine r_astore_n (lv' := [(3, .ref qx), (0, .ref a), (1, .int r), (2, .ref ou)]) d_Lw_part_12 rfl (by decide) rfl ?_
    refine r_iconst d_Lw_part_13 (v := 1) (by decide) ?_
    refine r_iret d_Lw_part_14 rfl rfl ?_
    exact ⟨rfl, rfl⟩
  · exact absurd hx.1 (by simp)
theorem d_Lw_part_7 : decode method_5_code 7 = .ok (.i2l, 1) := by decide +kernel
theorem d_Lw_part_8 : decode method_5_code 8 = .ok (.lastore, 1) := by decide +kernel
theorem d_Lw_part_9 : decode method_5_code 9 = .ok (.goto 6, 3) := by decide +kernel
theorem d_Lw_part_15 : decode method_5_code 15 = .ok (.iconst 0, 1) := by decide +kernel
theorem d_Lw_part_16 : decode method_5_code 16 = .ok (.ireturn, 1) := by decide +kernel
set_option maxHeartbeats 4000000 in
set_option maxRecDepth 100000 in
theorem C_Lw_partN (g : zG) (a pa ta sa gs co fu la gy du re wm ac : Nat) (pa1 pa2 pa3 : Nat) (f sn : Nat → Int32) (qn : Nat → Nat) (p : Nat) (r : Int32) (hr : ¬ (r < 1 ∨ 9 ≤ r)) (ou : Nat) (of : Nat → Int64) : CT g M_Lw_part [.ref a, .int r, .ref ou] [(a, .inr (11, [.ref pa, .ref ta, .ref sa, .ref gs, .ref co, .ref fu, .ref la, .ref gy, .ref du, .ref re, .ref wm, .ref ac])), (pa, .inr (8, [.ref pa1, .ref pa2, .ref pa3, .int (nI p)])), (pa1, .inl (1, 108, .inl f)), (pa2, .inl (2, 108, .inl sn)), (pa3, .inl (0, 108, .inl (fun k => nI (qn k)))), (ou, .inl (3, 1, .inr (.inl of)))] (fun o cs1 => o = .inl (some (.int 0)) ∧ cs1 = [(a, .inr (11, [.ref pa, .ref ta, .ref sa, .ref gs, .ref co, .ref fu, .ref la, .ref gy, .ref du, .ref re, .ref wm, .ref ac])), (pa, .inr (8, [.ref pa1, .ref pa2, .ref pa3, .int r])), (pa1, .inl (1, 108, .inl f)), (pa2, .inl (2, 108, .inl sn)), (pa3, .inl (0, 108, .inl (fun k => nI (qn k)))), (ou, .inl (3, 1, .inr (.inl (vp_updL of 0 ((nI p)).toInt64))))]) 1 6 := by
  refine z_ofH (by decide) (by decide) (Nat.le_of_ble_eq_true rfl) (fun w0 => ?_)
  refine r_lvE (lv2 := [(0, .ref a), (1, .int r), (2, .ref ou)]) rfl ?_
  refine r_aload_n d_Lw_part_0 rfl 2 rfl ?_
  refine r_iconst d_Lw_part_1 (v := 0) (by decide) ?_
  refine r_aload_n d_Lw_part_2 rfl 0 rfl ?_
  refine r_iload_n d_Lw_part_3 rfl 1 rfl ?_
  refine r_callVH (As := [.int r]) (rest := [.int 0, .ref ou]) (csC := [(a, .inr (11, [.ref pa, .ref ta, .ref sa, .ref gs, .ref co, .ref fu, .ref la, .ref gy, .ref du, .ref re, .ref wm, .ref ac])), (pa, .inr (8, [.ref pa1, .ref pa2, .ref pa3, .int (nI p)])), (pa1, .inl (1, 108, .inl f)), (pa2, .inl (2, 108, .inl sn)), (pa3, .inl (0, 108, .inl (fun k => nI (qn k))))]) (is := [0, 1, 2, 3, 4]) (q0 := 0) rfl rfl ln_Lw_21 w_im_Ip_part w_se_Ip_part ok_Lw_part_Ip_part d_Lw_part_4 (C_Ip_partN g a pa ta sa gs co fu la gy du re wm ac pa1 pa2 pa3 f sn qn p r hr) rfl rfl (Nat.le_of_ble_eq_true rfl) rfl (by decide) (by omega) (by omega) (fun E cs1 hx => ?_) (fun v cs1 hx => ?_)
  · exact absurd hx.1 (by simp)
  · obtain ⟨e1, rfl⟩ := hx
    cases e1
    refine ⟨rfl, ?_⟩
    refine r_st (st2 := [.int (nI p), .int 0, .ref ou]) rfl ?_
    refine r_cs (cs2 := [(a, .inr (11, [.ref pa, .ref ta, .ref sa, .ref gs, .ref co, .ref fu, .ref la, .ref gy, .ref du, .ref re, .ref wm, .ref ac])), (pa, .inr (8, [.ref pa1, .ref pa2, .ref pa3, .int r])), (pa1, .inl (1, 108, .inl f)), (pa2, .inl (2, 108, .inl sn)), (pa3, .inl (0, 108, .inl (fun k => nI (qn k)))), (ou, .inl (3, 1, .inr (.inl of)))]) rfl ?_
    refine r_i2l d_Lw_part_7 (v := (nI p).toInt64) rfl ?_
    refine r_last d_Lw_part_8 (q0 := 5) rfl (fun q => q.elim (by decide) (by decide)) (f' := vp_updL of 0 ((nI p).toInt64)) rfl (cs' := [(a, .inr (11, [.ref pa, .ref ta, .ref sa, .ref gs, .ref co, .ref fu, .ref la, .ref gy, .ref du, .ref re, .ref wm, .ref ac])), (pa, .inr (8, [.ref pa1, .ref pa2, .ref pa3, .int r])), (pa1, .inl (1, 108, .inl f)), (pa2, .inl (2, 108, .inl sn)), (pa3, .inl (0, 108, .inl (fun k => nI (qn k)))), (ou, .inl (3, 1, .inr (.inl (vp_updL of 0 ((nI p).toInt64)))))]) rfl ?_
    refine r_goto (tgt := 15) d_Lw_part_9 (by decide) ?_
    refine r_iconst d_Lw_part_15 (v := 0) (by decide) ?_
    refine r_iret d_Lw_part_16 rfl rfl ?_
    exact ⟨rfl, rfl⟩
abbrev M_Lw_filledIn : zM := (⟨"IronpourLaw", "filledIn", "(LIronpour;II[J)I"⟩, method_6_code, 5, (Option.some FieldType.int), 8, 144, [((0 : Nat), (10 : Nat), (13 : Nat), (19 : Nat))])
theorem d_Lw_filledIn_0 : decode method_6_code 0 = .ok (.aload_n 3, 1) := by decide +kernel
theorem d_Lw_filledIn_1 : decode method_6_code 1 = .ok (.iconst 0, 1) := by decide +kernel
theorem d_Lw_filledIn_2 : decode method_6_code 2 = .ok (.aload_n 0, 1) := by decide +kernel
theorem d_Lw_filledIn_3 : decode method_6_code 3 = .ok (.iload_n 1, 1) := by decide +kernel
theorem d_Lw_filledIn_4 : decode method_6_code 4 = .ok (.iload_n 2, 1) := by decide +kernel
theorem d_Lw_filledIn_5 : decode method_6_code 5 = .ok (.invokevirtual 25, 3) := by decide +kernel
theorem ok_Lw_filledIn_Ip_filledIn : z_okH M_Lw_filledIn M_Ip_filledIn 2 := ⟨z_mem (i := 827) (by decide +kernel) (by decide +kernel), rfl, ⟨by decide +kernel, by decide +kernel, by decide +kernel⟩, ⟨by decide, by decide⟩, z_mem (i := 58) (by decide +kernel) (by decide +kernel)⟩
theorem ln_Lw_25 : Cond.methodLink "IronpourLaw" 25 M_Ip_filledIn.1 ∈ z_gw := z_mem (i := 824) (by decide +kernel) (by decide +kernel)
theorem w_im_Ip_filledIn : Cond.instanceMethod M_Ip_filledIn.1 ∈ z_gw := z_mem (i := 825) (by decide +kernel) (by decide +kernel)
theorem w_se_Ip_filledIn : Cond.selects M_Ip_filledIn.1.cls M_Ip_filledIn.1 M_Ip_filledIn.1 ∈ z_gw := z_mem (i := 826) (by decide +kernel) (by decide +kernel)
theorem d_Lw_filledIn_13 : decode method_6_code 13 = .ok (.astore 4, 2) := by decide +kernel
theorem d_Lw_filledIn_15 : decode method_6_code 15 = .ok (.iconst 1, 1) := by decide +kernel
theorem d_Lw_filledIn_16 : decode method_6_code 16 = .ok (.ireturn, 1) := by decide +kernel
set_option maxHeartbeats 4000000 in
set_option maxRecDepth 100000 in
theorem C_Lw_filledInE (g : zG) (a pa ta sa gs co fu la gy du re wm ac : Nat) (ta1 ta2 taz taz1 taz2 taz3 taz4 taz5 taz6 ta4 ta5 ta6 : Nat) (X : zTr) (x y : Int32) (hz : z_cl x y = none) (ou : Nat) (of : Nat → Int64) : CT g M_Lw_filledIn [.ref a, .int x, .int y, .ref ou] [(a, .inr (11, [.ref pa, .ref ta, .ref sa, .ref gs, .ref co, .ref fu, .ref la, .ref gy, .ref du, .ref re, .ref wm, .ref ac])), (ta, .inr (10, [.ref ta1, .ref ta2, .ref taz, .ref ta4, .ref ta5, .ref ta6, .int X.1.2.2.1, .int X.1.2.2.2])), (ta1, .inl (1, 108, .inl X.1.1)), (ta2, .inl (0, 108, .inl X.1.2.1)), (taz, .inr (2, [.ref taz1, .ref taz2, .ref taz3, .ref taz4, .ref taz5, .ref taz6, .int X.2.1.1.1.2.2.2])), (taz1, .inl (0, 108, .inl X.2.1.1.1.1)), (taz2, .inl (0, 108, .inl X.2.1.1.2)), (taz3, .inl (0, 108, .inl X.2.1.1.1.2.1)), (taz4, .inl (0, 108, .inl X.2.1.1.1.2.2.1)), (taz5, .inl (0, 108, .inl X.2.1.2.1)), (taz6, .inl (0, 108, .inl X.2.1.2.2)), (ta4, .inl (2, 108, .inl X.2.2.1)), (ta5, .inl (2, 108, .inl X.2.2.2.1)), (ta6, .inl (0, 108, .inl (fun k => nI (X.2.2.2.2 k)))), (ou, .inl (3, 1, .inr (.inl of)))] (fun o cs1 => o = .inl (some (.int 1)) ∧ cs1 = [(a, .inr (11, [.ref pa, .ref ta, .ref sa, .ref gs, .ref co, .ref fu, .ref la, .ref gy, .ref du, .ref re, .ref wm, .ref ac])), (ta, .inr (10, [.ref ta1, .ref ta2, .ref taz, .ref ta4, .ref ta5, .ref ta6, .int X.1.2.2.1, .int X.1.2.2.2])), (ta1, .inl (1, 108, .inl X.1.1)), (ta2, .inl (0, 108, .inl X.1.2.1)), (taz, .inr (2, [.ref taz1, .ref taz2, .ref taz3, .ref taz4, .ref taz5, .ref taz6, .int X.2.1.1.1.2.2.2])), (taz1, .inl (0, 108, .inl X.2.1.1.1.1)), (taz2, .inl (0, 108, .inl X.2.1.1.2)), (taz3, .inl (0, 108, .inl X.2.1.1.1.2.1)), (taz4, .inl (0, 108, .inl X.2.1.1.1.2.2.1)), (taz5, .inl (0, 108, .inl X.2.1.2.1)), (taz6, .inl (0, 108, .inl X.2.1.2.2)), (ta4, .inl (2, 108, .inl X.2.2.1)), (ta5, .inl (2, 108, .inl X.2.2.2.1)), (ta6, .inl (0, 108, .inl (fun k => nI (X.2.2.2.2 k)))), (ou, .inl (3, 1, .inr (.inl of)))]) 1 6 := by
  refine z_ofH (by decide) (by decide) (Nat.le_of_ble_eq_true rfl) (fun w0 => ?_)
  refine r_lvE (lv2 := [(0, .ref a), (1, .int x), (2, .int y), (3, .ref ou)]) rfl ?_
  refine r_aload_n d_Lw_filledIn_0 rfl 3 rfl ?_
  refine r_iconst d_Lw_filledIn_1 (v := 0) (by decide) ?_
  refine r_aload_n d_Lw_filledIn_2 rfl 0 rfl ?_
  refine r_iload_n d_Lw_filledIn_3 rfl 1 rfl ?_
  refine r_iload_n d_Lw_filledIn_4 rfl 2 rfl ?_
  refine r_callVH (As := [.int x, .int y]) (rest := [.int 0, .ref ou]) (csC := [(a, .inr (11, [.ref pa, .ref ta, .ref sa, .ref gs, .ref co, .ref fu, .ref la, .ref gy, .ref du, .ref re, .ref wm, .ref ac])), (ta, .inr (10, [.ref ta1, .ref ta2, .ref taz, .ref ta4, .ref ta5, .ref ta6, .int X.1.2.2.1, .int X.1.2.2.2])), (ta1, .inl (1, 108, .inl X.1.1)), (ta2, .inl (0, 108, .inl X.1.2.1)), (taz, .inr (2, [.ref taz1, .ref taz2, .ref taz3, .ref taz4, .ref taz5, .ref taz6, .int X.2.1.1.1.2.2.2])), (taz1, .inl (0, 108, .inl X.2.1.1.1.1)), (taz2, .inl (0, 108, .inl X.2.1.1.2)), (taz3, .inl (0, 108, .inl X.2.1.1.1.2.1)), (taz4, .inl (0, 108, .inl X.2.1.1.1.2.2.1)), (taz5, .inl (0, 108, .inl X.2.1.2.1)), (taz6, .inl (0, 108, .inl X.2.1.2.2)), (ta4, .inl (2, 108, .inl X.2.2.1)), (ta5, .inl (2, 108, .inl X.2.2.2.1)), (ta6, .inl (0, 108, .inl (fun k => nI (X.2.2.2.2 k))))]) (is := [0, 1, 2, 3, 4, 5, 6, 7, 8, 9, 10, 11, 12, 13]) (q0 := 0) rfl rfl ln_Lw_25 w_im_Ip_filledIn w_se_Ip_filledIn ok_Lw_filledIn_Ip_filledIn d_Lw_filledIn_5 (C_Ip_filledInE g a pa ta sa gs co fu la gy du re wm ac ta1 ta2 taz taz1 taz2 taz3 taz4 taz5 taz6 ta4 ta5 ta6 X x y hz) rfl rfl (Nat.le_of_ble_eq_true rfl) rfl (by decide) (by omega) (by omega) (fun E cs1 hx => ?_) (fun v cs1 hx => ?_)
  · obtain ⟨e1, rfl⟩ := hx
    cases e1
    refine ⟨rfl, "java/lang/IndexOutOfBoundsException", [], [], (0, 10, 13, 19), rfl, (fun z hz => nomatch hz), by decide, by decide, lx_Lw_19, ce_19, fun qx => ?_⟩
    refine r_cs (cs2 := [(a, .inr (11, [.ref pa, .ref ta, .ref sa, .ref gs, .ref co, .ref fu, .ref la, .ref gy, .ref du, .ref re, .ref wm, .ref ac])), (ta, .inr (10, [.ref ta1, .ref ta2, .ref taz, .ref ta4, .ref ta5, .ref ta6, .int X.1.2.2.1, .int X.1.2.2.2])), (ta1, .inl (1, 108, .inl X.1.1)), (ta2, .inl (0, 108, .inl X.1.2.1)), (taz, .inr (2, [.ref taz1, .ref taz2, .ref taz3, .ref taz4, .ref taz5, .ref taz6, .int X.2.1.1.1.2.2.2])), (taz1, .inl (0, 108, .inl X.2.1.1.1.1)), (taz2, .inl (0, 108, .inl X.2.1.1.2)), (taz3, .inl (0, 108, .inl X.2.1.1.1.2.1)), (taz4, .inl (0, 108, .inl X.2.1.1.1.2.2.1)), (taz5, .inl (0, 108, .inl X.2.1.2.1)), (taz6, .inl (0, 108, .inl X.2.1.2.2)), (ta4, .inl (2, 108, .inl X.2.2.1)), (ta5, .inl (2, 108, .inl X.2.2.2.1)), (ta6, .inl (0, 108, .inl (fun k => nI (X.2.2.2.2 k)))), (ou, .inl (3, 1, .inr (.inl of)))]) rfl ?_
    refine r_astore (lv' := [(4, .ref qx), (0, .ref a), (1, .int x), (2, .int y), (3, .ref ou)]) d_Lw_filledIn_13 (by decide) rfl ?_
    refine r_iconst d_Lw_filledIn_15 (v := 1) (by decide) ?_
    refine r_iret d_Lw_filledIn_16 rfl rfl ?_
    exact ⟨rfl, rfl⟩
  · exact absurd hx.1 (by simp)
theorem d_Lw_filledIn_8 : decode method_6_code 8 = .ok (.i2l, 1) := by decide +kernel
theorem d_Lw_filledIn_9 : decode method_6_code 9 = .ok (.lastore, 1) := by decide +kernel
theorem d_Lw_filledIn_10 : decode method_6_code 10 = .ok (.goto 7, 3) := by decide +kernel
theorem d_Lw_filledIn_17 : decode method_6_code 17 = .ok (.iconst 0, 1) := by decide +kernel
theorem d_Lw_filledIn_18 : decode method_6_code 18 = .ok (.ireturn, 1) := by decide +kernel
set_option maxHeartbeats 4000000 in
set_option maxRecDepth 100000 in
theorem C_Lw_filledInN (g : zG) (a pa ta sa gs co fu la gy du re wm ac : Nat) (ta1 ta2 taz taz1 taz2 taz3 taz4 taz5 taz6 ta4 ta5 ta6 : Nat) (X : zTr) (x y : Int32) (c : Nat) (hz : z_cl x y = some c) (ou : Nat) (of : Nat → Int64) : CT g M_Lw_filledIn [.ref a, .int x, .int y, .ref ou] [(a, .inr (11, [.ref pa, .ref ta, .ref sa, .ref gs, .ref co, .ref fu, .ref la, .ref gy, .ref du, .ref re, .ref wm, .ref ac])), (ta, .inr (10, [.ref ta1, .ref ta2, .ref taz, .ref ta4, .ref ta5, .ref ta6, .int X.1.2.2.1, .int X.1.2.2.2])), (ta1, .inl (1, 108, .inl X.1.1)), (ta2, .inl (0, 108, .inl X.1.2.1)), (taz, .inr (2, [.ref taz1, .ref taz2, .ref taz3, .ref taz4, .ref taz5, .ref taz6, .int X.2.1.1.1.2.2.2])), (taz1, .inl (0, 108, .inl X.2.1.1.1.1)), (taz2, .inl (0, 108, .inl X.2.1.1.2)), (taz3, .inl (0, 108, .inl X.2.1.1.1.2.1)), (taz4, .inl (0, 108, .inl X.2.1.1.1.2.2.1)), (taz5, .inl (0, 108, .inl X.2.1.2.1)), (taz6, .inl (0, 108, .inl X.2.1.2.2)), (ta4, .inl (2, 108, .inl X.2.2.1)), (ta5, .inl (2, 108, .inl X.2.2.2.1)), (ta6, .inl (0, 108, .inl (fun k => nI (X.2.2.2.2 k)))), (ou, .inl (3, 1, .inr (.inl of)))] (fun o cs1 => o = .inl (some (.int 0)) ∧ cs1 = [(a, .inr (11, [.ref pa, .ref ta, .ref sa, .ref gs, .ref co, .ref fu, .ref la, .ref gy, .ref du, .ref re, .ref wm, .ref ac])), (ta, .inr (10, [.ref ta1, .ref ta2, .ref taz, .ref ta4, .ref ta5, .ref ta6, .int ((flT X).1.2.2.1), .int ((flT X).1.2.2.2)])), (ta1, .inl (1, 108, .inl ((flT X).1.1))), (ta2, .inl (0, 108, .inl ((flT X).1.2.1))), (taz, .inr (2, [.ref taz1, .ref taz2, .ref taz3, .ref taz4, .ref taz5, .ref taz6, .int ((flT X).2.1.1.1.2.2.2)])), (taz1, .inl (0, 108, .inl ((flT X).2.1.1.1.1))), (taz2, .inl (0, 108, .inl ((flT X).2.1.1.2))), (taz3, .inl (0, 108, .inl ((flT X).2.1.1.1.2.1))), (taz4, .inl (0, 108, .inl ((flT X).2.1.1.1.2.2.1))), (taz5, .inl (0, 108, .inl ((flT X).2.1.2.1))), (taz6, .inl (0, 108, .inl ((flT X).2.1.2.2))), (ta4, .inl (2, 108, .inl ((flT X).2.2.1))), (ta5, .inl (2, 108, .inl ((flT X).2.2.2.1))), (ta6, .inl (0, 108, .inl (fun k => nI ((flT X).2.2.2.2 k)))), (ou, .inl (3, 1, .inr (.inl (vp_updL of 0 (((flT X).1.2.1 c)).toInt64))))]) 1 6 := by
  refine z_ofH (by decide) (by decide) (Nat.le_of_ble_eq_true rfl) (fun w0 => ?_)
  refine r_lvE (lv2 := [(0, .ref a), (1, .int x), (2, .int y), (3, .ref ou)]) rfl ?_
  refine r_aload_n d_Lw_filledIn_0 rfl 3 rfl ?_
  refine r_iconst d_Lw_filledIn_1 (v := 0) (by decide) ?_
  refine r_aload_n d_Lw_filledIn_2 rfl 0 rfl ?_
  refine r_iload_n d_Lw_filledIn_3 rfl 1 rfl ?_
  refine r_iload_n d_Lw_filledIn_4 rfl 2 rfl ?_
  refine r_callVH (As := [.int x, .int y]) (rest := [.int 0, .ref ou]) (csC := [(a, .inr (11, [.ref pa, .ref ta, .ref sa, .ref gs, .ref co, .ref fu, .ref la, .ref gy, .ref du, .ref re, .ref wm, .ref ac])), (ta, .inr (10, [.ref ta1, .ref ta2, .ref taz, .ref ta4, .ref ta5, .ref ta6, .int X.1.2.2.1, .int X.1.2.2.2])), (ta1, .inl (1, 108, .inl X.1.1)), (ta2, .inl (0, 108, .inl X.1.2.1)), (taz, .inr (2, [.ref taz1, .ref taz2, .ref taz3, .ref taz4, .ref taz5, .ref taz6, .int X.2.1.1.1.2.2.2])), (taz1, .inl (0, 108, .inl X.2.1.1.1.1)), (taz2, .inl (0, 108, .inl X.2.1.1.2)), (taz3, .inl (0, 108, .inl X.2.1.1.1.2.1)), (taz4, .inl (0, 108, .inl X.2.1.1.1.2.2.1)), (taz5, .inl (0, 108, .inl X.2.1.2.1)), (taz6, .inl (0, 108, .inl X.2.1.2.2)), (ta4, .inl (2, 108, .inl X.2.2.1)), (ta5, .inl (2, 108, .inl X.2.2.2.1)), (ta6, .inl (0, 108, .inl (fun k => nI (X.2.2.2.2 k))))]) (is := [0, 1, 2, 3, 4, 5, 6, 7, 8, 9, 10, 11, 12, 13]) (q0 := 0) rfl rfl ln_Lw_25 w_im_Ip_filledIn w_se_Ip_filledIn ok_Lw_filledIn_Ip_filledIn d_Lw_filledIn_5 (C_Ip_filledInN g a pa ta sa gs co fu la gy du re wm ac ta1 ta2 taz taz1 taz2 taz3 taz4 taz5 taz6 ta4 ta5 ta6 X x y c hz) rfl rfl (Nat.le_of_ble_eq_true rfl) rfl (by decide) (by omega) (by omega) (fun E cs1 hx => ?_) (fun v cs1 hx => ?_)
  · exact absurd hx.1 (by simp)
  · obtain ⟨e1, rfl⟩ := hx
    cases e1
    refine ⟨rfl, ?_⟩
    refine r_st (st2 := [.int ((flT X).1.2.1 c), .int 0, .ref ou]) rfl ?_
    refine r_cs (cs2 := [(a, .inr (11, [.ref pa, .ref ta, .ref sa, .ref gs, .ref co, .ref fu, .ref la, .ref gy, .ref du, .ref re, .ref wm, .ref ac])), (ta, .inr (10, [.ref ta1, .ref ta2, .ref taz, .ref ta4, .ref ta5, .ref ta6, .int ((flT X).1.2.2.1), .int ((flT X).1.2.2.2)])), (ta1, .inl (1, 108, .inl ((flT X).1.1))), (ta2, .inl (0, 108, .inl ((flT X).1.2.1))), (taz, .inr (2, [.ref taz1, .ref taz2, .ref taz3, .ref taz4, .ref taz5, .ref taz6, .int ((flT X).2.1.1.1.2.2.2)])), (taz1, .inl (0, 108, .inl ((flT X).2.1.1.1.1))), (taz2, .inl (0, 108, .inl ((flT X).2.1.1.2))), (taz3, .inl (0, 108, .inl ((flT X).2.1.1.1.2.1))), (taz4, .inl (0, 108, .inl ((flT X).2.1.1.1.2.2.1))), (taz5, .inl (0, 108, .inl ((flT X).2.1.2.1))), (taz6, .inl (0, 108, .inl ((flT X).2.1.2.2))), (ta4, .inl (2, 108, .inl ((flT X).2.2.1))), (ta5, .inl (2, 108, .inl ((flT X).2.2.2.1))), (ta6, .inl (0, 108, .inl (fun k => nI ((flT X).2.2.2.2 k)))), (ou, .inl (3, 1, .inr (.inl of)))]) rfl ?_
    refine r_i2l d_Lw_filledIn_8 (v := ((flT X).1.2.1 c).toInt64) rfl ?_
    refine r_last d_Lw_filledIn_9 (q0 := 14) rfl (fun q => q.elim (by decide) (by decide)) (f' := vp_updL of 0 (((flT X).1.2.1 c).toInt64)) rfl (cs' := [(a, .inr (11, [.ref pa, .ref ta, .ref sa, .ref gs, .ref co, .ref fu, .ref la, .ref gy, .ref du, .ref re, .ref wm, .ref ac])), (ta, .inr (10, [.ref ta1, .ref ta2, .ref taz, .ref ta4, .ref ta5, .ref ta6, .int ((flT X).1.2.2.1), .int ((flT X).1.2.2.2)])), (ta1, .inl (1, 108, .inl ((flT X).1.1))), (ta2, .inl (0, 108, .inl ((flT X).1.2.1))), (taz, .inr (2, [.ref taz1, .ref taz2, .ref taz3, .ref taz4, .ref taz5, .ref taz6, .int ((flT X).2.1.1.1.2.2.2)])), (taz1, .inl (0, 108, .inl ((flT X).2.1.1.1.1))), (taz2, .inl (0, 108, .inl ((flT X).2.1.1.2))), (taz3, .inl (0, 108, .inl ((flT X).2.1.1.1.2.1))), (taz4, .inl (0, 108, .inl ((flT X).2.1.1.1.2.2.1))), (taz5, .inl (0, 108, .inl ((flT X).2.1.2.1))), (taz6, .inl (0, 108, .inl ((flT X).2.1.2.2))), (ta4, .inl (2, 108, .inl ((flT X).2.2.1))), (ta5, .inl (2, 108, .inl ((flT X).2.2.2.1))), (ta6, .inl (0, 108, .inl (fun k => nI ((flT X).2.2.2.2 k)))), (ou, .inl (3, 1, .inr (.inl (vp_updL of 0 (((flT X).1.2.1 c).toInt64)))))]) rfl ?_
    refine r_goto (tgt := 17) d_Lw_filledIn_10 (by decide) ?_
    refine r_iconst d_Lw_filledIn_17 (v := 0) (by decide) ?_
    refine r_iret d_Lw_filledIn_18 rfl rfl ?_
    exact ⟨rfl, rfl⟩
abbrev M_Lw_speed : zM := (⟨"IronpourLaw", "speed", "(LIronpour;[J)I"⟩, method_7_code, 3, (Option.some FieldType.int), 7, 120, [((0 : Nat), (8 : Nat), (11 : Nat), (33 : Nat))])
theorem d_Lw_speed_0 : decode method_7_code 0 = .ok (.aload_n 1, 1) := by decide +kernel
theorem d_Lw_speed_1 : decode method_7_code 1 = .ok (.iconst 0, 1) := by decide +kernel
theorem d_Lw_speed_2 : decode method_7_code 2 = .ok (.aload_n 0, 1) := by decide +kernel
theorem d_Lw_speed_3 : decode method_7_code 3 = .ok (.invokevirtual 29, 3) := by decide +kernel
theorem ok_Lw_speed_Ip_speed : z_okH M_Lw_speed M_Ip_speed 0 := ⟨z_mem (i := 836) (by decide +kernel) (by decide +kernel), rfl, ⟨by decide +kernel, by decide +kernel, by decide +kernel⟩, ⟨by decide, by decide⟩, z_mem (i := 58) (by decide +kernel) (by decide +kernel)⟩
theorem ln_Lw_29 : Cond.methodLink "IronpourLaw" 29 M_Ip_speed.1 ∈ z_gw := z_mem (i := 833) (by decide +kernel) (by decide +kernel)
theorem w_im_Ip_speed : Cond.instanceMethod M_Ip_speed.1 ∈ z_gw := z_mem (i := 834) (by decide +kernel) (by decide +kernel)
theorem w_se_Ip_speed : Cond.selects M_Ip_speed.1.cls M_Ip_speed.1 M_Ip_speed.1 ∈ z_gw := z_mem (i := 835) (by decide +kernel) (by decide +kernel)
theorem ce_33 : Cond.castable "java/util/NoSuchElementException" "java/util/NoSuchElementException" ∈ z_nw := z_memN (i := 843) (by decide +kernel) (by decide +kernel)
theorem lx_Lw_33 : Cond.classLink "IronpourLaw" 33 "java/util/NoSuchElementException" ∈ z_gw := z_mem (i := 832) (by decide +kernel) (by decide +kernel)
theorem d_Lw_speed_11 : decode method_7_code 11 = .ok (.astore_n 2, 1) := by decide +kernel
theorem d_Lw_speed_12 : decode method_7_code 12 = .ok (.iconst 1, 1) := by decide +kernel
theorem d_Lw_speed_13 : decode method_7_code 13 = .ok (.ireturn, 1) := by decide +kernel
set_option maxHeartbeats 4000000 in
set_option maxRecDepth 100000 in
theorem C_Lw_speedE (g : zG) (a pa ta sa gs co fu la gy du re wm ac : Nat) (pa1 pa2 pa3 : Nat) (f sn : Nat → Int32) (qn : Nat → Nat) (p : Nat) (hg : fa_cnt (fun k => decide (f k = 103)) 12 = 0) (ou : Nat) (of : Nat → Int64) : CT g M_Lw_speed [.ref a, .ref ou] [(a, .inr (11, [.ref pa, .ref ta, .ref sa, .ref gs, .ref co, .ref fu, .ref la, .ref gy, .ref du, .ref re, .ref wm, .ref ac])), (pa, .inr (8, [.ref pa1, .ref pa2, .ref pa3, .int (nI p)])), (pa1, .inl (1, 108, .inl f)), (pa2, .inl (2, 108, .inl sn)), (pa3, .inl (0, 108, .inl (fun k => nI (qn k)))), (ou, .inl (3, 1, .inr (.inl of)))] (fun o cs1 => o = .inl (some (.int 1)) ∧ cs1 = [(a, .inr (11, [.ref pa, .ref ta, .ref sa, .ref gs, .ref co, .ref fu, .ref la, .ref gy, .ref du, .ref re, .ref wm, .ref ac])), (pa, .inr (8, [.ref pa1, .ref pa2, .ref pa3, .int (nI p)])), (pa1, .inl (1, 108, .inl f)), (pa2, .inl (2, 108, .inl sn)), (pa3, .inl (0, 108, .inl (fun k => nI (qn k)))), (ou, .inl (3, 1, .inr (.inl of)))]) 1 6 := by
  refine z_ofH (by decide) (by decide) (Nat.le_of_ble_eq_true rfl) (fun w0 => ?_)
  refine r_lvE (lv2 := [(0, .ref a), (1, .ref ou)]) rfl ?_
  refine r_aload_n d_Lw_speed_0 rfl 1 rfl ?_
  refine r_iconst d_Lw_speed_1 (v := 0) (by decide) ?_
  refine r_aload_n d_Lw_speed_2 rfl 0 rfl ?_
  refine r_callVH (As := []) (rest := [.int 0, .ref ou]) (csC := [(a, .inr (11, [.ref pa, .ref ta, .ref sa, .ref gs, .ref co, .ref fu, .ref la, .ref gy, .ref du, .ref re, .ref wm, .ref ac])), (pa, .inr (8, [.ref pa1, .ref pa2, .ref pa3, .int (nI p)])), (pa1, .inl (1, 108, .inl f)), (pa2, .inl (2, 108, .inl sn)), (pa3, .inl (0, 108, .inl (fun k => nI (qn k))))]) (is := [0, 1, 2, 3, 4]) (q0 := 0) rfl rfl ln_Lw_29 w_im_Ip_speed w_se_Ip_speed ok_Lw_speed_Ip_speed d_Lw_speed_3 (C_Ip_speedE g a pa ta sa gs co fu la gy du re wm ac pa1 pa2 pa3 f sn qn p hg) rfl rfl (Nat.le_of_ble_eq_true rfl) rfl (by decide) (by omega) (by omega) (fun E cs1 hx => ?_) (fun v cs1 hx => ?_)
  · obtain ⟨e1, rfl⟩ := hx
    cases e1
    refine ⟨rfl, "java/util/NoSuchElementException", [], [], (0, 8, 11, 33), rfl, (fun z hz => nomatch hz), by decide, by decide, lx_Lw_33, ce_33, fun qx => ?_⟩
    refine r_cs (cs2 := [(a, .inr (11, [.ref pa, .ref ta, .ref sa, .ref gs, .ref co, .ref fu, .ref la, .ref gy, .ref du, .ref re, .ref wm, .ref ac])), (pa, .inr (8, [.ref pa1, .ref pa2, .ref pa3, .int (nI p)])), (pa1, .inl (1, 108, .inl f)), (pa2, .inl (2, 108, .inl sn)), (pa3, .inl (0, 108, .inl (fun k => nI (qn k)))), (ou, .inl (3, 1, .inr (.inl of)))]) rfl ?_
    refine r_astore_n (lv' := [(2, .ref qx), (0, .ref a), (1, .ref ou)]) d_Lw_speed_11 rfl (by decide) rfl ?_
    refine r_iconst d_Lw_speed_12 (v := 1) (by decide) ?_
    refine r_iret d_Lw_speed_13 rfl rfl ?_
    exact ⟨rfl, rfl⟩
  · exact absurd hx.1 (by simp)
abbrev M_Lw_frozenIn : zM := (⟨"IronpourLaw", "frozenIn", "(LIronpour;III[J)I"⟩, method_8_code, 6, (Option.some FieldType.int), 8, 160, [((0 : Nat), (12 : Nat), (15 : Nat), (19 : Nat)), ((0 : Nat), (12 : Nat), (19 : Nat), (13 : Nat))])
theorem d_Lw_frozenIn_0 : decode method_8_code 0 = .ok (.aload 4, 2) := by decide +kernel
theorem d_Lw_frozenIn_2 : decode method_8_code 2 = .ok (.iconst 0, 1) := by decide +kernel
theorem d_Lw_frozenIn_3 : decode method_8_code 3 = .ok (.aload_n 0, 1) := by decide +kernel
theorem d_Lw_frozenIn_4 : decode method_8_code 4 = .ok (.iload_n 1, 1) := by decide +kernel
theorem d_Lw_frozenIn_5 : decode method_8_code 5 = .ok (.iload_n 2, 1) := by decide +kernel
theorem d_Lw_frozenIn_6 : decode method_8_code 6 = .ok (.iload_n 3, 1) := by decide +kernel
theorem d_Lw_frozenIn_7 : decode method_8_code 7 = .ok (.invokevirtual 35, 3) := by decide +kernel
theorem ok_Lw_frozenIn_Ip_frozenIn : z_okH M_Lw_frozenIn M_Ip_frozenIn 3 := ⟨z_mem (i := 868) (by decide +kernel) (by decide +kernel), rfl, ⟨by decide +kernel, by decide +kernel, by decide +kernel⟩, ⟨by decide, by decide⟩, z_mem (i := 58) (by decide +kernel) (by decide +kernel)⟩
theorem ln_Lw_35 : Cond.methodLink "IronpourLaw" 35 M_Ip_frozenIn.1 ∈ z_gw := z_mem (i := 865) (by decide +kernel) (by decide +kernel)
theorem w_im_Ip_frozenIn : Cond.instanceMethod M_Ip_frozenIn.1 ∈ z_gw := z_mem (i := 866) (by decide +kernel) (by decide +kernel)
theorem w_se_Ip_frozenIn : Cond.selects M_Ip_frozenIn.1.cls M_Ip_frozenIn.1 M_Ip_frozenIn.1 ∈ z_gw := z_mem (i := 867) (by decide +kernel) (by decide +kernel)
theorem d_Lw_frozenIn_15 : decode method_8_code 15 = .ok (.astore 5, 2) := by decide +kernel
theorem d_Lw_frozenIn_17 : decode method_8_code 17 = .ok (.iconst 1, 1) := by decide +kernel
theorem d_Lw_frozenIn_18 : decode method_8_code 18 = .ok (.ireturn, 1) := by decide +kernel
set_option maxHeartbeats 4000000 in
set_option maxRecDepth 100000 in
theorem C_Lw_frozenInE (g : zG) (a pa ta sa gs co fu la gy du re wm ac : Nat) (ta1 ta2 taz taz1 taz2 taz3 taz4 taz5 taz6 ta4 ta5 ta6 : Nat) (X : zTr) (x y : Int32) (h : Int32) (hz : z_cl x y = none) (ou : Nat) (of : Nat → Int64) : CT g M_Lw_frozenIn [.ref a, .int x, .int y, .int h, .ref ou] [(a, .inr (11, [.ref pa, .ref ta, .ref sa, .ref gs, .ref co, .ref fu, .ref la, .ref gy, .ref du, .ref re, .ref wm, .ref ac])), (ta, .inr (10, [.ref ta1, .ref ta2, .ref taz, .ref ta4, .ref ta5, .ref ta6, .int X.1.2.2.1, .int X.1.2.2.2])), (ta1, .inl (1, 108, .inl X.1.1)), (ta2, .inl (0, 108, .inl X.1.2.1)), (taz, .inr (2, [.ref taz1, .ref taz2, .ref taz3, .ref taz4, .ref taz5, .ref taz6, .int X.2.1.1.1.2.2.2])), (taz1, .inl (0, 108, .inl X.2.1.1.1.1)), (taz2, .inl (0, 108, .inl X.2.1.1.2)), (taz3, .inl (0, 108, .inl X.2.1.1.1.2.1)), (taz4, .inl (0, 108, .inl X.2.1.1.1.2.2.1)), (taz5, .inl (0, 108, .inl X.2.1.2.1)), (taz6, .inl (0, 108, .inl X.2.1.2.2)), (ta4, .inl (2, 108, .inl X.2.2.1)), (ta5, .inl (2, 108, .inl X.2.2.2.1)), (ta6, .inl (0, 108, .inl (fun k => nI (X.2.2.2.2 k)))), (ou, .inl (3, 1, .inr (.inl of)))] (fun o cs1 => o = .inl (some (.int 1)) ∧ cs1 = [(a, .inr (11, [.ref pa, .ref ta, .ref sa, .ref gs, .ref co, .ref fu, .ref la, .ref gy, .ref du, .ref re, .ref wm, .ref ac])), (ta, .inr (10, [.ref ta1, .ref ta2, .ref taz, .ref ta4, .ref ta5, .ref ta6, .int X.1.2.2.1, .int X.1.2.2.2])), (ta1, .inl (1, 108, .inl X.1.1)), (ta2, .inl (0, 108, .inl X.1.2.1)), (taz, .inr (2, [.ref taz1, .ref taz2, .ref taz3, .ref taz4, .ref taz5, .ref taz6, .int X.2.1.1.1.2.2.2])), (taz1, .inl (0, 108, .inl X.2.1.1.1.1)), (taz2, .inl (0, 108, .inl X.2.1.1.2)), (taz3, .inl (0, 108, .inl X.2.1.1.1.2.1)), (taz4, .inl (0, 108, .inl X.2.1.1.1.2.2.1)), (taz5, .inl (0, 108, .inl X.2.1.2.1)), (taz6, .inl (0, 108, .inl X.2.1.2.2)), (ta4, .inl (2, 108, .inl X.2.2.1)), (ta5, .inl (2, 108, .inl X.2.2.2.1)), (ta6, .inl (0, 108, .inl (fun k => nI (X.2.2.2.2 k)))), (ou, .inl (3, 1, .inr (.inl of)))]) 2 12 := by
  refine z_ofH (by decide) (by decide) (Nat.le_of_ble_eq_true rfl) (fun w0 => ?_)
  refine r_lvE (lv2 := [(0, .ref a), (1, .int x), (2, .int y), (3, .int h), (4, .ref ou)]) rfl ?_
  refine r_aload d_Lw_frozenIn_0 4 rfl ?_
  refine r_iconst d_Lw_frozenIn_2 (v := 0) (by decide) ?_
  refine r_aload_n d_Lw_frozenIn_3 rfl 0 rfl ?_
  refine r_iload_n d_Lw_frozenIn_4 rfl 1 rfl ?_
  refine r_iload_n d_Lw_frozenIn_5 rfl 2 rfl ?_
  refine r_iload_n d_Lw_frozenIn_6 rfl 3 rfl ?_
  refine r_callVH (As := [.int x, .int y, .int h]) (rest := [.int 0, .ref ou]) (csC := [(a, .inr (11, [.ref pa, .ref ta, .ref sa, .ref gs, .ref co, .ref fu, .ref la, .ref gy, .ref du, .ref re, .ref wm, .ref ac])), (ta, .inr (10, [.ref ta1, .ref ta2, .ref taz, .ref ta4, .ref ta5, .ref ta6, .int X.1.2.2.1, .int X.1.2.2.2])), (ta1, .inl (1, 108, .inl X.1.1)), (ta2, .inl (0, 108, .inl X.1.2.1)), (taz, .inr (2, [.ref taz1, .ref taz2, .ref taz3, .ref taz4, .ref taz5, .ref taz6, .int X.2.1.1.1.2.2.2])), (taz1, .inl (0, 108, .inl X.2.1.1.1.1)), (taz2, .inl (0, 108, .inl X.2.1.1.2)), (taz3, .inl (0, 108, .inl X.2.1.1.1.2.1)), (taz4, .inl (0, 108, .inl X.2.1.1.1.2.2.1)), (taz5, .inl (0, 108, .inl X.2.1.2.1)), (taz6, .inl (0, 108, .inl X.2.1.2.2)), (ta4, .inl (2, 108, .inl X.2.2.1)), (ta5, .inl (2, 108, .inl X.2.2.2.1)), (ta6, .inl (0, 108, .inl (fun k => nI (X.2.2.2.2 k))))]) (is := [0, 1, 2, 3, 4, 5, 6, 7, 8, 9, 10, 11, 12, 13]) (q0 := 0) rfl rfl ln_Lw_35 w_im_Ip_frozenIn w_se_Ip_frozenIn ok_Lw_frozenIn_Ip_frozenIn d_Lw_frozenIn_7 (C_Ip_frozenInE g a pa ta sa gs co fu la gy du re wm ac ta1 ta2 taz taz1 taz2 taz3 taz4 taz5 taz6 ta4 ta5 ta6 X x y h hz) rfl rfl (Nat.le_of_ble_eq_true rfl) rfl (by decide) (by omega) (by omega) (fun E cs1 hx => ?_) (fun v cs1 hx => ?_)
  · obtain ⟨e1, rfl⟩ := hx
    cases e1
    refine ⟨rfl, "java/lang/IndexOutOfBoundsException", [], [(0, 12, 19, 13)], (0, 12, 15, 19), rfl, (fun z hz => nomatch hz), by decide, by decide, lx_Lw_19, ce_19, fun qx => ?_⟩
    refine r_cs (cs2 := [(a, .inr (11, [.ref pa, .ref ta, .ref sa, .ref gs, .ref co, .ref fu, .ref la, .ref gy, .ref du, .ref re, .ref wm, .ref ac])), (ta, .inr (10, [.ref ta1, .ref ta2, .ref taz, .ref ta4, .ref ta5, .ref ta6, .int X.1.2.2.1, .int X.1.2.2.2])), (ta1, .inl (1, 108, .inl X.1.1)), (ta2, .inl (0, 108, .inl X.1.2.1)), (taz, .inr (2, [.ref taz1, .ref taz2, .ref taz3, .ref taz4, .ref taz5, .ref taz6, .int X.2.1.1.1.2.2.2])), (taz1, .inl (0, 108, .inl X.2.1.1.1.1)), (taz2, .inl (0, 108, .inl X.2.1.1.2)), (taz3, .inl (0, 108, .inl X.2.1.1.1.2.1)), (taz4, .inl (0, 108, .inl X.2.1.1.1.2.2.1)), (taz5, .inl (0, 108, .inl X.2.1.2.1)), (taz6, .inl (0, 108, .inl X.2.1.2.2)), (ta4, .inl (2, 108, .inl X.2.2.1)), (ta5, .inl (2, 108, .inl X.2.2.2.1)), (ta6, .inl (0, 108, .inl (fun k => nI (X.2.2.2.2 k)))), (ou, .inl (3, 1, .inr (.inl of)))]) rfl ?_
    refine r_astore (lv' := [(5, .ref qx), (0, .ref a), (1, .int x), (2, .int y), (3, .int h), (4, .ref ou)]) d_Lw_frozenIn_15 (by decide) rfl ?_
    refine r_iconst d_Lw_frozenIn_17 (v := 1) (by decide) ?_
    refine r_iret d_Lw_frozenIn_18 rfl rfl ?_
    exact ⟨rfl, rfl⟩
  · exact absurd hx.1 (by simp)
theorem d_Lw_frozenIn_19 : decode method_8_code 19 = .ok (.astore 5, 2) := by decide +kernel
theorem d_Lw_frozenIn_21 : decode method_8_code 21 = .ok (.iconst 2, 1) := by decide +kernel
theorem d_Lw_frozenIn_22 : decode method_8_code 22 = .ok (.ireturn, 1) := by decide +kernel
set_option maxHeartbeats 4000000 in
set_option maxRecDepth 100000 in
theorem C_Lw_frozenInF (g : zG) (a pa ta sa gs co fu la gy du re wm ac : Nat) (ta1 ta2 taz taz1 taz2 taz3 taz4 taz5 taz6 ta4 ta5 ta6 : Nat) (X : zTr) (x y : Int32) (h : Int32) (c : Nat) (hz : z_cl x y = some c) (hh : ¬ (1200 ≤ h ∧ h ≤ 1500)) (ou : Nat) (of : Nat → Int64) : CT g M_Lw_frozenIn [.ref a, .int x, .int y, .int h, .ref ou] [(a, .inr (11, [.ref pa, .ref ta, .ref sa, .ref gs, .ref co, .ref fu, .ref la, .ref gy, .ref du, .ref re, .ref wm, .ref ac])), (ta, .inr (10, [.ref ta1, .ref ta2, .ref taz, .ref ta4, .ref ta5, .ref ta6, .int X.1.2.2.1, .int X.1.2.2.2])), (ta1, .inl (1, 108, .inl X.1.1)), (ta2, .inl (0, 108, .inl X.1.2.1)), (taz, .inr (2, [.ref taz1, .ref taz2, .ref taz3, .ref taz4, .ref taz5, .ref taz6, .int X.2.1.1.1.2.2.2])), (taz1, .inl (0, 108, .inl X.2.1.1.1.1)), (taz2, .inl (0, 108, .inl X.2.1.1.2)), (taz3, .inl (0, 108, .inl X.2.1.1.1.2.1)), (taz4, .inl (0, 108, .inl X.2.1.1.1.2.2.1)), (taz5, .inl (0, 108, .inl X.2.1.2.1)), (taz6, .inl (0, 108, .inl X.2.1.2.2)), (ta4, .inl (2, 108, .inl X.2.2.1)), (ta5, .inl (2, 108, .inl X.2.2.2.1)), (ta6, .inl (0, 108, .inl (fun k => nI (X.2.2.2.2 k)))), (ou, .inl (3, 1, .inr (.inl of)))] (fun o cs1 => o = .inl (some (.int 2)) ∧ cs1 = [(a, .inr (11, [.ref pa, .ref ta, .ref sa, .ref gs, .ref co, .ref fu, .ref la, .ref gy, .ref du, .ref re, .ref wm, .ref ac])), (ta, .inr (10, [.ref ta1, .ref ta2, .ref taz, .ref ta4, .ref ta5, .ref ta6, .int X.1.2.2.1, .int X.1.2.2.2])), (ta1, .inl (1, 108, .inl X.1.1)), (ta2, .inl (0, 108, .inl X.1.2.1)), (taz, .inr (2, [.ref taz1, .ref taz2, .ref taz3, .ref taz4, .ref taz5, .ref taz6, .int X.2.1.1.1.2.2.2])), (taz1, .inl (0, 108, .inl X.2.1.1.1.1)), (taz2, .inl (0, 108, .inl X.2.1.1.2)), (taz3, .inl (0, 108, .inl X.2.1.1.1.2.1)), (taz4, .inl (0, 108, .inl X.2.1.1.1.2.2.1)), (taz5, .inl (0, 108, .inl X.2.1.2.1)), (taz6, .inl (0, 108, .inl X.2.1.2.2)), (ta4, .inl (2, 108, .inl X.2.2.1)), (ta5, .inl (2, 108, .inl X.2.2.2.1)), (ta6, .inl (0, 108, .inl (fun k => nI (X.2.2.2.2 k)))), (ou, .inl (3, 1, .inr (.inl of)))]) 2 12 := by
  refine z_ofH (by decide) (by decide) (Nat.le_of_ble_eq_true rfl) (fun w0 => ?_)
  refine r_lvE (lv2 := [(0, .ref a), (1, .int x), (2, .int y), (3, .int h), (4, .ref ou)]) rfl ?_
  refine r_aload d_Lw_frozenIn_0 4 rfl ?_
  refine r_iconst d_Lw_frozenIn_2 (v := 0) (by decide) ?_
  refine r_aload_n d_Lw_frozenIn_3 rfl 0 rfl ?_
  refine r_iload_n d_Lw_frozenIn_4 rfl 1 rfl ?_
  refine r_iload_n d_Lw_frozenIn_5 rfl 2 rfl ?_
  refine r_iload_n d_Lw_frozenIn_6 rfl 3 rfl ?_
  refine r_callVH (As := [.int x, .int y, .int h]) (rest := [.int 0, .ref ou]) (csC := [(a, .inr (11, [.ref pa, .ref ta, .ref sa, .ref gs, .ref co, .ref fu, .ref la, .ref gy, .ref du, .ref re, .ref wm, .ref ac])), (ta, .inr (10, [.ref ta1, .ref ta2, .ref taz, .ref ta4, .ref ta5, .ref ta6, .int X.1.2.2.1, .int X.1.2.2.2])), (ta1, .inl (1, 108, .inl X.1.1)), (ta2, .inl (0, 108, .inl X.1.2.1)), (taz, .inr (2, [.ref taz1, .ref taz2, .ref taz3, .ref taz4, .ref taz5, .ref taz6, .int X.2.1.1.1.2.2.2])), (taz1, .inl (0, 108, .inl X.2.1.1.1.1)), (taz2, .inl (0, 108, .inl X.2.1.1.2)), (taz3, .inl (0, 108, .inl X.2.1.1.1.2.1)), (taz4, .inl (0, 108, .inl X.2.1.1.1.2.2.1)), (taz5, .inl (0, 108, .inl X.2.1.2.1)), (taz6, .inl (0, 108, .inl X.2.1.2.2)), (ta4, .inl (2, 108, .inl X.2.2.1)), (ta5, .inl (2, 108, .inl X.2.2.2.1)), (ta6, .inl (0, 108, .inl (fun k => nI (X.2.2.2.2 k))))]) (is := [0, 1, 2, 3, 4, 5, 6, 7, 8, 9, 10, 11, 12, 13]) (q0 := 0) rfl rfl ln_Lw_35 w_im_Ip_frozenIn w_se_Ip_frozenIn ok_Lw_frozenIn_Ip_frozenIn d_Lw_frozenIn_7 (C_Ip_frozenInF g a pa ta sa gs co fu la gy du re wm ac ta1 ta2 taz taz1 taz2 taz3 taz4 taz5 taz6 ta4 ta5 ta6 X x y h c hz hh) rfl rfl (Nat.le_of_ble_eq_true rfl) rfl (by decide) (by omega) (by omega) (fun E cs1 hx => ?_) (fun v cs1 hx => ?_)
  · obtain ⟨e1, rfl⟩ := hx
    cases e1
    refine ⟨rfl, "java/lang/IllegalArgumentException", [(0, 12, 15, 19)], [], (0, 12, 19, 13), rfl, (fun z hz => by simp only [List.mem_cons, List.not_mem_nil, or_false] at hz; rcases hz with rfl; exact Or.inr ⟨by decide, _, lx_Lw_19, by decide⟩), by decide, by decide, lx_Lw_13, ce_13, fun qx => ?_⟩
    refine r_cs (cs2 := [(a, .inr (11, [.ref pa, .ref ta, .ref sa, .ref gs, .ref co, .ref fu, .ref la, .ref gy, .ref du, .ref re, .ref wm, .ref ac])), (ta, .inr (10, [.ref ta1, .ref ta2, .ref taz, .ref ta4, .ref ta5, .ref ta6, .int X.1.2.2.1, .int X.1.2.2.2])), (ta1, .inl (1, 108, .inl X.1.1)), (ta2, .inl (0, 108, .inl X.1.2.1)), (taz, .inr (2, [.ref taz1, .ref taz2, .ref taz3, .ref taz4, .ref taz5, .ref taz6, .int X.2.1.1.1.2.2.2])), (taz1, .inl (0, 108, .inl X.2.1.1.1.1)), (taz2, .inl (0, 108, .inl X.2.1.1.2)), (taz3, .inl (0, 108, .inl X.2.1.1.1.2.1)), (taz4, .inl (0, 108, .inl X.2.1.1.1.2.2.1)), (taz5, .inl (0, 108, .inl X.2.1.2.1)), (taz6, .inl (0, 108, .inl X.2.1.2.2)), (ta4, .inl (2, 108, .inl X.2.2.1)), (ta5, .inl (2, 108, .inl X.2.2.2.1)), (ta6, .inl (0, 108, .inl (fun k => nI (X.2.2.2.2 k)))), (ou, .inl (3, 1, .inr (.inl of)))]) rfl ?_
    refine r_astore (lv' := [(5, .ref qx), (0, .ref a), (1, .int x), (2, .int y), (3, .int h), (4, .ref ou)]) d_Lw_frozenIn_19 (by decide) rfl ?_
    refine r_iconst d_Lw_frozenIn_21 (v := 2) (by decide) ?_
    refine r_iret d_Lw_frozenIn_22 rfl rfl ?_
    exact ⟨rfl, rfl⟩
  · exact absurd hx.1 (by simp)
theorem d_Lw_frozenIn_10 : decode method_8_code 10 = .ok (.i2l, 1) := by decide +kernel
theorem d_Lw_frozenIn_11 : decode method_8_code 11 = .ok (.lastore, 1) := by decide +kernel
theorem d_Lw_frozenIn_12 : decode method_8_code 12 = .ok (.goto 11, 3) := by decide +kernel
theorem d_Lw_frozenIn_23 : decode method_8_code 23 = .ok (.iconst 0, 1) := by decide +kernel
theorem d_Lw_frozenIn_24 : decode method_8_code 24 = .ok (.ireturn, 1) := by decide +kernel
set_option maxHeartbeats 4000000 in
set_option maxRecDepth 100000 in
theorem C_Lw_frozenInN (g : zG) (a pa ta sa gs co fu la gy du re wm ac : Nat) (ta1 ta2 taz taz1 taz2 taz3 taz4 taz5 taz6 ta4 ta5 ta6 : Nat) (X : zTr) (x y : Int32) (h : Int32) (c : Nat) (hz : z_cl x y = some c) (hh : 1200 ≤ h ∧ h ≤ 1500) (ou : Nat) (of : Nat → Int64) : CT g M_Lw_frozenIn [.ref a, .int x, .int y, .int h, .ref ou] [(a, .inr (11, [.ref pa, .ref ta, .ref sa, .ref gs, .ref co, .ref fu, .ref la, .ref gy, .ref du, .ref re, .ref wm, .ref ac])), (ta, .inr (10, [.ref ta1, .ref ta2, .ref taz, .ref ta4, .ref ta5, .ref ta6, .int X.1.2.2.1, .int X.1.2.2.2])), (ta1, .inl (1, 108, .inl X.1.1)), (ta2, .inl (0, 108, .inl X.1.2.1)), (taz, .inr (2, [.ref taz1, .ref taz2, .ref taz3, .ref taz4, .ref taz5, .ref taz6, .int X.2.1.1.1.2.2.2])), (taz1, .inl (0, 108, .inl X.2.1.1.1.1)), (taz2, .inl (0, 108, .inl X.2.1.1.2)), (taz3, .inl (0, 108, .inl X.2.1.1.1.2.1)), (taz4, .inl (0, 108, .inl X.2.1.1.1.2.2.1)), (taz5, .inl (0, 108, .inl X.2.1.2.1)), (taz6, .inl (0, 108, .inl X.2.1.2.2)), (ta4, .inl (2, 108, .inl X.2.2.1)), (ta5, .inl (2, 108, .inl X.2.2.2.1)), (ta6, .inl (0, 108, .inl (fun k => nI (X.2.2.2.2 k)))), (ou, .inl (3, 1, .inr (.inl of)))] (fun o cs1 => o = .inl (some (.int 0)) ∧ cs1 = [(a, .inr (11, [.ref pa, .ref ta, .ref sa, .ref gs, .ref co, .ref fu, .ref la, .ref gy, .ref du, .ref re, .ref wm, .ref ac])), (ta, .inr (10, [.ref ta1, .ref ta2, .ref taz, .ref ta4, .ref ta5, .ref ta6, .int ((frT h X).1.2.2.1), .int ((frT h X).1.2.2.2)])), (ta1, .inl (1, 108, .inl ((frT h X).1.1))), (ta2, .inl (0, 108, .inl ((frT h X).1.2.1))), (taz, .inr (2, [.ref taz1, .ref taz2, .ref taz3, .ref taz4, .ref taz5, .ref taz6, .int ((frT h X).2.1.1.1.2.2.2)])), (taz1, .inl (0, 108, .inl ((frT h X).2.1.1.1.1))), (taz2, .inl (0, 108, .inl ((frT h X).2.1.1.2))), (taz3, .inl (0, 108, .inl ((frT h X).2.1.1.1.2.1))), (taz4, .inl (0, 108, .inl ((frT h X).2.1.1.1.2.2.1))), (taz5, .inl (0, 108, .inl ((frT h X).2.1.2.1))), (taz6, .inl (0, 108, .inl ((frT h X).2.1.2.2))), (ta4, .inl (2, 108, .inl ((frT h X).2.2.1))), (ta5, .inl (2, 108, .inl ((frT h X).2.2.2.1))), (ta6, .inl (0, 108, .inl (fun k => nI ((frT h X).2.2.2.2 k)))), (ou, .inl (3, 1, .inr (.inl (vp_updL of 0 (((frT h X).2.1.1.1.2.2.1 c)).toInt64))))]) 2 12 := by
  refine z_ofH (by decide) (by decide) (Nat.le_of_ble_eq_true rfl) (fun w0 => ?_)
  refine r_lvE (lv2 := [(0, .ref a), (1, .int x), (2, .int y), (3, .int h), (4, .ref ou)]) rfl ?_
  refine r_aload d_Lw_frozenIn_0 4 rfl ?_
  refine r_iconst d_Lw_frozenIn_2 (v := 0) (by decide) ?_
  refine r_aload_n d_Lw_frozenIn_3 rfl 0 rfl ?_
  refine r_iload_n d_Lw_frozenIn_4 rfl 1 rfl ?_
  refine r_iload_n d_Lw_frozenIn_5 rfl 2 rfl ?_
  refine r_iload_n d_Lw_frozenIn_6 rfl 3 rfl ?_
  refine r_callVH (As := [.int x, .int y, .int h]) (rest := [.int 0, .ref ou]) (csC := [(a, .inr (11, [.ref pa, .ref ta, .ref sa, .ref gs, .ref co, .ref fu, .ref la, .ref gy, .ref du, .ref re, .ref wm, .ref ac])), (ta, .inr (10, [.ref ta1, .ref ta2, .ref taz, .ref ta4, .ref ta5, .ref ta6, .int X.1.2.2.1, .int X.1.2.2.2])), (ta1, .inl (1, 108, .inl X.1.1)), (ta2, .inl (0, 108, .inl X.1.2.1)), (taz, .inr (2, [.ref taz1, .ref taz2, .ref taz3, .ref taz4, .ref taz5, .ref taz6, .int X.2.1.1.1.2.2.2])), (taz1, .inl (0, 108, .inl X.2.1.1.1.1)), (taz2, .inl (0, 108, .inl X.2.1.1.2)), (taz3, .inl (0, 108, .inl X.2.1.1.1.2.1)), (taz4, .inl (0, 108, .inl X.2.1.1.1.2.2.1)), (taz5, .inl (0, 108, .inl X.2.1.2.1)), (taz6, .inl (0, 108, .inl X.2.1.2.2)), (ta4, .inl (2, 108, .inl X.2.2.1)), (ta5, .inl (2, 108, .inl X.2.2.2.1)), (ta6, .inl (0, 108, .inl (fun k => nI (X.2.2.2.2 k))))]) (is := [0, 1, 2, 3, 4, 5, 6, 7, 8, 9, 10, 11, 12, 13]) (q0 := 0) rfl rfl ln_Lw_35 w_im_Ip_frozenIn w_se_Ip_frozenIn ok_Lw_frozenIn_Ip_frozenIn d_Lw_frozenIn_7 (C_Ip_frozenInN g a pa ta sa gs co fu la gy du re wm ac ta1 ta2 taz taz1 taz2 taz3 taz4 taz5 taz6 ta4 ta5 ta6 X x y h c hz hh) rfl rfl (Nat.le_of_ble_eq_true rfl) rfl (by decide) (by omega) (by omega) (fun E cs1 hx => ?_) (fun v cs1 hx => ?_)
  · exact absurd hx.1 (by simp)
  · obtain ⟨e1, rfl⟩ := hx
    cases e1
    refine ⟨rfl, ?_⟩
    refine r_st (st2 := [.int ((frT h X).2.1.1.1.2.2.1 c), .int 0, .ref ou]) rfl ?_
    refine r_cs (cs2 := [(a, .inr (11, [.ref pa, .ref ta, .ref sa, .ref gs, .ref co, .ref fu, .ref la, .ref gy, .ref du, .ref re, .ref wm, .ref ac])), (ta, .inr (10, [.ref ta1, .ref ta2, .ref taz, .ref ta4, .ref ta5, .ref ta6, .int ((frT h X).1.2.2.1), .int ((frT h X).1.2.2.2)])), (ta1, .inl (1, 108, .inl ((frT h X).1.1))), (ta2, .inl (0, 108, .inl ((frT h X).1.2.1))), (taz, .inr (2, [.ref taz1, .ref taz2, .ref taz3, .ref taz4, .ref taz5, .ref taz6, .int ((frT h X).2.1.1.1.2.2.2)])), (taz1, .inl (0, 108, .inl ((frT h X).2.1.1.1.1))), (taz2, .inl (0, 108, .inl ((frT h X).2.1.1.2))), (taz3, .inl (0, 108, .inl ((frT h X).2.1.1.1.2.1))), (taz4, .inl (0, 108, .inl ((frT h X).2.1.1.1.2.2.1))), (taz5, .inl (0, 108, .inl ((frT h X).2.1.2.1))), (taz6, .inl (0, 108, .inl ((frT h X).2.1.2.2))), (ta4, .inl (2, 108, .inl ((frT h X).2.2.1))), (ta5, .inl (2, 108, .inl ((frT h X).2.2.2.1))), (ta6, .inl (0, 108, .inl (fun k => nI ((frT h X).2.2.2.2 k)))), (ou, .inl (3, 1, .inr (.inl of)))]) rfl ?_
    refine r_i2l d_Lw_frozenIn_10 (v := ((frT h X).2.1.1.1.2.2.1 c).toInt64) rfl ?_
    refine r_last d_Lw_frozenIn_11 (q0 := 14) rfl (fun q => q.elim (by decide) (by decide)) (f' := vp_updL of 0 (((frT h X).2.1.1.1.2.2.1 c).toInt64)) rfl (cs' := [(a, .inr (11, [.ref pa, .ref ta, .ref sa, .ref gs, .ref co, .ref fu, .ref la, .ref gy, .ref du, .ref re, .ref wm, .ref ac])), (ta, .inr (10, [.ref ta1, .ref ta2, .ref taz, .ref ta4, .ref ta5, .ref ta6, .int ((frT h X).1.2.2.1), .int ((frT h X).1.2.2.2)])), (ta1, .inl (1, 108, .inl ((frT h X).1.1))), (ta2, .inl (0, 108, .inl ((frT h X).1.2.1))), (taz, .inr (2, [.ref taz1, .ref taz2, .ref taz3, .ref taz4, .ref taz5, .ref taz6, .int ((frT h X).2.1.1.1.2.2.2)])), (taz1, .inl (0, 108, .inl ((frT h X).2.1.1.1.1))), (taz2, .inl (0, 108, .inl ((frT h X).2.1.1.2))), (taz3, .inl (0, 108, .inl ((frT h X).2.1.1.1.2.1))), (taz4, .inl (0, 108, .inl ((frT h X).2.1.1.1.2.2.1))), (taz5, .inl (0, 108, .inl ((frT h X).2.1.2.1))), (taz6, .inl (0, 108, .inl ((frT h X).2.1.2.2))), (ta4, .inl (2, 108, .inl ((frT h X).2.2.1))), (ta5, .inl (2, 108, .inl ((frT h X).2.2.2.1))), (ta6, .inl (0, 108, .inl (fun k => nI ((frT h X).2.2.2.2 k)))), (ou, .inl (3, 1, .inr (.inl (vp_updL of 0 (((frT h X).2.1.1.1.2.2.1 c).toInt64)))))]) rfl ?_
    refine r_goto (tgt := 23) d_Lw_frozenIn_12 (by decide) ?_
    refine r_iconst d_Lw_frozenIn_23 (v := 0) (by decide) ?_
    refine r_iret d_Lw_frozenIn_24 rfl rfl ?_
    exact ⟨rfl, rfl⟩
abbrev M_Lw_heatAt : zM := (⟨"IronpourLaw", "heatAt", "(LIronpour;IIII[J)I"⟩, method_9_code, 7, (Option.some FieldType.int), 8, 162, [((0 : Nat), (14 : Nat), (17 : Nat), (19 : Nat)), ((0 : Nat), (14 : Nat), (21 : Nat), (13 : Nat))])
theorem d_Lw_heatAt_0 : decode method_9_code 0 = .ok (.aload 5, 2) := by decide +kernel
theorem d_Lw_heatAt_2 : decode method_9_code 2 = .ok (.iconst 0, 1) := by decide +kernel
theorem d_Lw_heatAt_3 : decode method_9_code 3 = .ok (.aload_n 0, 1) := by decide +kernel
theorem d_Lw_heatAt_4 : decode method_9_code 4 = .ok (.iload_n 1, 1) := by decide +kernel
theorem d_Lw_heatAt_5 : decode method_9_code 5 = .ok (.iload_n 2, 1) := by decide +kernel
theorem d_Lw_heatAt_6 : decode method_9_code 6 = .ok (.iload_n 3, 1) := by decide +kernel
theorem d_Lw_heatAt_7 : decode method_9_code 7 = .ok (.iload 4, 2) := by decide +kernel
theorem d_Lw_heatAt_9 : decode method_9_code 9 = .ok (.invokevirtual 39, 3) := by decide +kernel
theorem ok_Lw_heatAt_Ip_heatAt : z_okH M_Lw_heatAt M_Ip_heatAt 4 := ⟨z_mem (i := 882) (by decide +kernel) (by decide +kernel), rfl, ⟨by decide +kernel, by decide +kernel, by decide +kernel⟩, ⟨by decide, by decide⟩, z_mem (i := 58) (by decide +kernel) (by decide +kernel)⟩
theorem ln_Lw_39 : Cond.methodLink "IronpourLaw" 39 M_Ip_heatAt.1 ∈ z_gw := z_mem (i := 879) (by decide +kernel) (by decide +kernel)
theorem w_im_Ip_heatAt : Cond.instanceMethod M_Ip_heatAt.1 ∈ z_gw := z_mem (i := 880) (by decide +kernel) (by decide +kernel)
theorem w_se_Ip_heatAt : Cond.selects M_Ip_heatAt.1.cls M_Ip_heatAt.1 M_Ip_heatAt.1 ∈ z_gw := z_mem (i := 881) (by decide +kernel) (by decide +kernel)
theorem d_Lw_heatAt_17 : decode method_9_code 17 = .ok (.astore 6, 2) := by decide +kernel
theorem d_Lw_heatAt_19 : decode method_9_code 19 = .ok (.iconst 1, 1) := by decide +kernel
theorem d_Lw_heatAt_20 : decode method_9_code 20 = .ok (.ireturn, 1) := by decide +kernel
set_option maxHeartbeats 4000000 in
set_option maxRecDepth 100000 in
theorem C_Lw_heatAtE (g : zG) (a pa ta sa gs co fu la gy du re wm ac : Nat) (pa1 pa2 pa3 : Nat) (f sn : Nat → Int32) (qn : Nat → Nat) (p : Nat) (sa1 sa2 saz saz1 saz2 saz3 saz4 saz5 saz6 sa4 sa5 sa6 : Nat) (X : zTr) (x y h st : Int32) (hz : z_cl x y = none) (ou : Nat) (of : Nat → Int64) : CT g M_Lw_heatAt [.ref a, .int x, .int y, .int h, .int st, .ref ou] [(a, .inr (11, [.ref pa, .ref ta, .ref sa, .ref gs, .ref co, .ref fu, .ref la, .ref gy, .ref du, .ref re, .ref wm, .ref ac])), (pa, .inr (8, [.ref pa1, .ref pa2, .ref pa3, .int (nI p)])), (pa1, .inl (1, 108, .inl f)), (pa2, .inl (2, 108, .inl sn)), (pa3, .inl (0, 108, .inl (fun k => nI (qn k)))), (sa, .inr (10, [.ref sa1, .ref sa2, .ref saz, .ref sa4, .ref sa5, .ref sa6, .int X.1.2.2.1, .int X.1.2.2.2])), (sa1, .inl (1, 108, .inl X.1.1)), (sa2, .inl (0, 108, .inl X.1.2.1)), (saz, .inr (2, [.ref saz1, .ref saz2, .ref saz3, .ref saz4, .ref saz5, .ref saz6, .int X.2.1.1.1.2.2.2])), (saz1, .inl (0, 108, .inl X.2.1.1.1.1)), (saz2, .inl (0, 108, .inl X.2.1.1.2)), (saz3, .inl (0, 108, .inl X.2.1.1.1.2.1)), (saz4, .inl (0, 108, .inl X.2.1.1.1.2.2.1)), (saz5, .inl (0, 108, .inl X.2.1.2.1)), (saz6, .inl (0, 108, .inl X.2.1.2.2)), (sa4, .inl (2, 108, .inl X.2.2.1)), (sa5, .inl (2, 108, .inl X.2.2.2.1)), (sa6, .inl (0, 108, .inl (fun k => nI (X.2.2.2.2 k)))), (ou, .inl (3, 1, .inr (.inl of)))] (fun o cs1 => o = .inl (some (.int 1)) ∧ cs1 = [(a, .inr (11, [.ref pa, .ref ta, .ref sa, .ref gs, .ref co, .ref fu, .ref la, .ref gy, .ref du, .ref re, .ref wm, .ref ac])), (pa, .inr (8, [.ref pa1, .ref pa2, .ref pa3, .int (nI p)])), (pa1, .inl (1, 108, .inl f)), (pa2, .inl (2, 108, .inl sn)), (pa3, .inl (0, 108, .inl (fun k => nI (qn k)))), (sa, .inr (10, [.ref sa1, .ref sa2, .ref saz, .ref sa4, .ref sa5, .ref sa6, .int X.1.2.2.1, .int X.1.2.2.2])), (sa1, .inl (1, 108, .inl X.1.1)), (sa2, .inl (0, 108, .inl X.1.2.1)), (saz, .inr (2, [.ref saz1, .ref saz2, .ref saz3, .ref saz4, .ref saz5, .ref saz6, .int X.2.1.1.1.2.2.2])), (saz1, .inl (0, 108, .inl X.2.1.1.1.1)), (saz2, .inl (0, 108, .inl X.2.1.1.2)), (saz3, .inl (0, 108, .inl X.2.1.1.1.2.1)), (saz4, .inl (0, 108, .inl X.2.1.1.1.2.2.1)), (saz5, .inl (0, 108, .inl X.2.1.2.1)), (saz6, .inl (0, 108, .inl X.2.1.2.2)), (sa4, .inl (2, 108, .inl X.2.2.1)), (sa5, .inl (2, 108, .inl X.2.2.2.1)), (sa6, .inl (0, 108, .inl (fun k => nI (X.2.2.2.2 k)))), (ou, .inl (3, 1, .inr (.inl of)))]) 1 6 := by
  refine z_ofH (by decide) (by decide) (Nat.le_of_ble_eq_true rfl) (fun w0 => ?_)
  refine r_lvE (lv2 := [(0, .ref a), (1, .int x), (2, .int y), (3, .int h), (4, .int st), (5, .ref ou)]) rfl ?_
  refine r_aload d_Lw_heatAt_0 5 rfl ?_
  refine r_iconst d_Lw_heatAt_2 (v := 0) (by decide) ?_
  refine r_aload_n d_Lw_heatAt_3 rfl 0 rfl ?_
  refine r_iload_n d_Lw_heatAt_4 rfl 1 rfl ?_
  refine r_iload_n d_Lw_heatAt_5 rfl 2 rfl ?_
  refine r_iload_n d_Lw_heatAt_6 rfl 3 rfl ?_
  refine r_iload d_Lw_heatAt_7 4 rfl ?_
  refine r_callVH (As := [.int x, .int y, .int h, .int st]) (rest := [.int 0, .ref ou]) (csC := [(a, .inr (11, [.ref pa, .ref ta, .ref sa, .ref gs, .ref co, .ref fu, .ref la, .ref gy, .ref du, .ref re, .ref wm, .ref ac])), (pa, .inr (8, [.ref pa1, .ref pa2, .ref pa3, .int (nI p)])), (pa1, .inl (1, 108, .inl f)), (pa2, .inl (2, 108, .inl sn)), (pa3, .inl (0, 108, .inl (fun k => nI (qn k)))), (sa, .inr (10, [.ref sa1, .ref sa2, .ref saz, .ref sa4, .ref sa5, .ref sa6, .int X.1.2.2.1, .int X.1.2.2.2])), (sa1, .inl (1, 108, .inl X.1.1)), (sa2, .inl (0, 108, .inl X.1.2.1)), (saz, .inr (2, [.ref saz1, .ref saz2, .ref saz3, .ref saz4, .ref saz5, .ref saz6, .int X.2.1.1.1.2.2.2])), (saz1, .inl (0, 108, .inl X.2.1.1.1.1)), (saz2, .inl (0, 108, .inl X.2.1.1.2)), (saz3, .inl (0, 108, .inl X.2.1.1.1.2.1)), (saz4, .inl (0, 108, .inl X.2.1.1.1.2.2.1)), (saz5, .inl (0, 108, .inl X.2.1.2.1)), (saz6, .inl (0, 108, .inl X.2.1.2.2)), (sa4, .inl (2, 108, .inl X.2.2.1)), (sa5, .inl (2, 108, .inl X.2.2.2.1)), (sa6, .inl (0, 108, .inl (fun k => nI (X.2.2.2.2 k))))]) (is := [0, 1, 2, 3, 4, 5, 6, 7, 8, 9, 10, 11, 12, 13, 14, 15, 16, 17]) (q0 := 0) rfl rfl ln_Lw_39 w_im_Ip_heatAt w_se_Ip_heatAt ok_Lw_heatAt_Ip_heatAt d_Lw_heatAt_9 (C_Ip_heatAtE g a pa ta sa gs co fu la gy du re wm ac pa1 pa2 pa3 f sn qn p sa1 sa2 saz saz1 saz2 saz3 saz4 saz5 saz6 sa4 sa5 sa6 X x y h st hz) rfl rfl (Nat.le_of_ble_eq_true rfl) rfl (by decide) (by omega) (by omega) (fun E cs1 hx => ?_) (fun v cs1 hx => ?_)
  · obtain ⟨e1, rfl⟩ := hx
    cases e1
    refine ⟨rfl, "java/lang/IndexOutOfBoundsException", [], [(0, 14, 21, 13)], (0, 14, 17, 19), rfl, (fun z hz => nomatch hz), by decide, by decide, lx_Lw_19, ce_19, fun qx => ?_⟩
    refine r_cs (cs2 := [(a, .inr (11, [.ref pa, .ref ta, .ref sa, .ref gs, .ref co, .ref fu, .ref la, .ref gy, .ref du, .ref re, .ref wm, .ref ac])), (pa, .inr (8, [.ref pa1, .ref pa2, .ref pa3, .int (nI p)])), (pa1, .inl (1, 108, .inl f)), (pa2, .inl (2, 108, .inl sn)), (pa3, .inl (0, 108, .inl (fun k => nI (qn k)))), (sa, .inr (10, [.ref sa1, .ref sa2, .ref saz, .ref sa4, .ref sa5, .ref sa6, .int X.1.2.2.1, .int X.1.2.2.2])), (sa1, .inl (1, 108, .inl X.1.1)), (sa2, .inl (0, 108, .inl X.1.2.1)), (saz, .inr (2, [.ref saz1, .ref saz2, .ref saz3, .ref saz4, .ref saz5, .ref saz6, .int X.2.1.1.1.2.2.2])), (saz1, .inl (0, 108, .inl X.2.1.1.1.1)), (saz2, .inl (0, 108, .inl X.2.1.1.2)), (saz3, .inl (0, 108, .inl X.2.1.1.1.2.1)), (saz4, .inl (0, 108, .inl X.2.1.1.1.2.2.1)), (saz5, .inl (0, 108, .inl X.2.1.2.1)), (saz6, .inl (0, 108, .inl X.2.1.2.2)), (sa4, .inl (2, 108, .inl X.2.2.1)), (sa5, .inl (2, 108, .inl X.2.2.2.1)), (sa6, .inl (0, 108, .inl (fun k => nI (X.2.2.2.2 k)))), (ou, .inl (3, 1, .inr (.inl of)))]) rfl ?_
    refine r_astore (lv' := [(6, .ref qx), (0, .ref a), (1, .int x), (2, .int y), (3, .int h), (4, .int st), (5, .ref ou)]) d_Lw_heatAt_17 (by decide) rfl ?_
    refine r_iconst d_Lw_heatAt_19 (v := 1) (by decide) ?_
    refine r_iret d_Lw_heatAt_20 rfl rfl ?_
    exact ⟨rfl, rfl⟩
  · exact absurd hx.1 (by simp)
theorem d_Lw_heatAt_21 : decode method_9_code 21 = .ok (.astore 6, 2) := by decide +kernel
theorem d_Lw_heatAt_23 : decode method_9_code 23 = .ok (.iconst 2, 1) := by decide +kernel
theorem d_Lw_heatAt_24 : decode method_9_code 24 = .ok (.ireturn, 1) := by decide +kernel
set_option maxHeartbeats 4000000 in
set_option maxRecDepth 100000 in
theorem C_Lw_heatAtF (g : zG) (a pa ta sa gs co fu la gy du re wm ac : Nat) (pa1 pa2 pa3 : Nat) (f sn : Nat → Int32) (qn : Nat → Nat) (p : Nat) (sa1 sa2 saz saz1 saz2 saz3 saz4 saz5 saz6 sa4 sa5 sa6 : Nat) (X : zTr) (x y h st : Int32) (c : Nat) (hz : z_cl x y = some c) (hh : ¬ (1200 ≤ h ∧ h ≤ 1500)) (ou : Nat) (of : Nat → Int64) : CT g M_Lw_heatAt [.ref a, .int x, .int y, .int h, .int st, .ref ou] [(a, .inr (11, [.ref pa, .ref ta, .ref sa, .ref gs, .ref co, .ref fu, .ref la, .ref gy, .ref du, .ref re, .ref wm, .ref ac])), (pa, .inr (8, [.ref pa1, .ref pa2, .ref pa3, .int (nI p)])), (pa1, .inl (1, 108, .inl f)), (pa2, .inl (2, 108, .inl sn)), (pa3, .inl (0, 108, .inl (fun k => nI (qn k)))), (sa, .inr (10, [.ref sa1, .ref sa2, .ref saz, .ref sa4, .ref sa5, .ref sa6, .int X.1.2.2.1, .int X.1.2.2.2])), (sa1, .inl (1, 108, .inl X.1.1)), (sa2, .inl (0, 108, .inl X.1.2.1)), (saz, .inr (2, [.ref saz1, .ref saz2, .ref saz3, .ref saz4, .ref saz5, .ref saz6, .int X.2.1.1.1.2.2.2])), (saz1, .inl (0, 108, .inl X.2.1.1.1.1)), (saz2, .inl (0, 108, .inl X.2.1.1.2)), (saz3, .inl (0, 108, .inl X.2.1.1.1.2.1)), (saz4, .inl (0, 108, .inl X.2.1.1.1.2.2.1)), (saz5, .inl (0, 108, .inl X.2.1.2.1)), (saz6, .inl (0, 108, .inl X.2.1.2.2)), (sa4, .inl (2, 108, .inl X.2.2.1)), (sa5, .inl (2, 108, .inl X.2.2.2.1)), (sa6, .inl (0, 108, .inl (fun k => nI (X.2.2.2.2 k)))), (ou, .inl (3, 1, .inr (.inl of)))] (fun o cs1 => o = .inl (some (.int 2)) ∧ cs1 = [(a, .inr (11, [.ref pa, .ref ta, .ref sa, .ref gs, .ref co, .ref fu, .ref la, .ref gy, .ref du, .ref re, .ref wm, .ref ac])), (pa, .inr (8, [.ref pa1, .ref pa2, .ref pa3, .int (nI p)])), (pa1, .inl (1, 108, .inl f)), (pa2, .inl (2, 108, .inl sn)), (pa3, .inl (0, 108, .inl (fun k => nI (qn k)))), (sa, .inr (10, [.ref sa1, .ref sa2, .ref saz, .ref sa4, .ref sa5, .ref sa6, .int X.1.2.2.1, .int X.1.2.2.2])), (sa1, .inl (1, 108, .inl X.1.1)), (sa2, .inl (0, 108, .inl X.1.2.1)), (saz, .inr (2, [.ref saz1, .ref saz2, .ref saz3, .ref saz4, .ref saz5, .ref saz6, .int X.2.1.1.1.2.2.2])), (saz1, .inl (0, 108, .inl X.2.1.1.1.1)), (saz2, .inl (0, 108, .inl X.2.1.1.2)), (saz3, .inl (0, 108, .inl X.2.1.1.1.2.1)), (saz4, .inl (0, 108, .inl X.2.1.1.1.2.2.1)), (saz5, .inl (0, 108, .inl X.2.1.2.1)), (saz6, .inl (0, 108, .inl X.2.1.2.2)), (sa4, .inl (2, 108, .inl X.2.2.1)), (sa5, .inl (2, 108, .inl X.2.2.2.1)), (sa6, .inl (0, 108, .inl (fun k => nI (X.2.2.2.2 k)))), (ou, .inl (3, 1, .inr (.inl of)))]) 2 12 := by
  refine z_ofH (by decide) (by decide) (Nat.le_of_ble_eq_true rfl) (fun w0 => ?_)
  refine r_lvE (lv2 := [(0, .ref a), (1, .int x), (2, .int y), (3, .int h), (4, .int st), (5, .ref ou)]) rfl ?_
  refine r_aload d_Lw_heatAt_0 5 rfl ?_
  refine r_iconst d_Lw_heatAt_2 (v := 0) (by decide) ?_
  refine r_aload_n d_Lw_heatAt_3 rfl 0 rfl ?_
  refine r_iload_n d_Lw_heatAt_4 rfl 1 rfl ?_
  refine r_iload_n d_Lw_heatAt_5 rfl 2 rfl ?_
  refine r_iload_n d_Lw_heatAt_6 rfl 3 rfl ?_
  refine r_iload d_Lw_heatAt_7 4 rfl ?_
  refine r_callVH (As := [.int x, .int y, .int h, .int st]) (rest := [.int 0, .ref ou]) (csC := [(a, .inr (11, [.ref pa, .ref ta, .ref sa, .ref gs, .ref co, .ref fu, .ref la, .ref gy, .ref du, .ref re, .ref wm, .ref ac])), (pa, .inr (8, [.ref pa1, .ref pa2, .ref pa3, .int (nI p)])), (pa1, .inl (1, 108, .inl f)), (pa2, .inl (2, 108, .inl sn)), (pa3, .inl (0, 108, .inl (fun k => nI (qn k)))), (sa, .inr (10, [.ref sa1, .ref sa2, .ref saz, .ref sa4, .ref sa5, .ref sa6, .int X.1.2.2.1, .int X.1.2.2.2])), (sa1, .inl (1, 108, .inl X.1.1)), (sa2, .inl (0, 108, .inl X.1.2.1)), (saz, .inr (2, [.ref saz1, .ref saz2, .ref saz3, .ref saz4, .ref saz5, .ref saz6, .int X.2.1.1.1.2.2.2])), (saz1, .inl (0, 108, .inl X.2.1.1.1.1)), (saz2, .inl (0, 108, .inl X.2.1.1.2)), (saz3, .inl (0, 108, .inl X.2.1.1.1.2.1)), (saz4, .inl (0, 108, .inl X.2.1.1.1.2.2.1)), (saz5, .inl (0, 108, .inl X.2.1.2.1)), (saz6, .inl (0, 108, .inl X.2.1.2.2)), (sa4, .inl (2, 108, .inl X.2.2.1)), (sa5, .inl (2, 108, .inl X.2.2.2.1)), (sa6, .inl (0, 108, .inl (fun k => nI (X.2.2.2.2 k))))]) (is := [0, 1, 2, 3, 4, 5, 6, 7, 8, 9, 10, 11, 12, 13, 14, 15, 16, 17]) (q0 := 0) rfl rfl ln_Lw_39 w_im_Ip_heatAt w_se_Ip_heatAt ok_Lw_heatAt_Ip_heatAt d_Lw_heatAt_9 (C_Ip_heatAtF g a pa ta sa gs co fu la gy du re wm ac pa1 pa2 pa3 f sn qn p sa1 sa2 saz saz1 saz2 saz3 saz4 saz5 saz6 sa4 sa5 sa6 X x y h st c hz hh) rfl rfl (Nat.le_of_ble_eq_true rfl) rfl (by decide) (by omega) (by omega) (fun E cs1 hx => ?_) (fun v cs1 hx => ?_)
  · obtain ⟨e1, rfl⟩ := hx
    cases e1
    refine ⟨rfl, "java/lang/IllegalArgumentException", [(0, 14, 17, 19)], [], (0, 14, 21, 13), rfl, (fun z hz => by simp only [List.mem_cons, List.not_mem_nil, or_false] at hz; rcases hz with rfl; exact Or.inr ⟨by decide, _, lx_Lw_19, by decide⟩), by decide, by decide, lx_Lw_13, ce_13, fun qx => ?_⟩
    refine r_cs (cs2 := [(a, .inr (11, [.ref pa, .ref ta, .ref sa, .ref gs, .ref co, .ref fu, .ref la, .ref gy, .ref du, .ref re, .ref wm, .ref ac])), (pa, .inr (8, [.ref pa1, .ref pa2, .ref pa3, .int (nI p)])), (pa1, .inl (1, 108, .inl f)), (pa2, .inl (2, 108, .inl sn)), (pa3, .inl (0, 108, .inl (fun k => nI (qn k)))), (sa, .inr (10, [.ref sa1, .ref sa2, .ref saz, .ref sa4, .ref sa5, .ref sa6, .int X.1.2.2.1, .int X.1.2.2.2])), (sa1, .inl (1, 108, .inl X.1.1)), (sa2, .inl (0, 108, .inl X.1.2.1)), (saz, .inr (2, [.ref saz1, .ref saz2, .ref saz3, .ref saz4, .ref saz5, .ref saz6, .int X.2.1.1.1.2.2.2])), (saz1, .inl (0, 108, .inl X.2.1.1.1.1)), (saz2, .inl (0, 108, .inl X.2.1.1.2)), (saz3, .inl (0, 108, .inl X.2.1.1.1.2.1)), (saz4, .inl (0, 108, .inl X.2.1.1.1.2.2.1)), (saz5, .inl (0, 108, .inl X.2.1.2.1)), (saz6, .inl (0, 108, .inl X.2.1.2.2)), (sa4, .inl (2, 108, .inl X.2.2.1)), (sa5, .inl (2, 108, .inl X.2.2.2.1)), (sa6, .inl (0, 108, .inl (fun k => nI (X.2.2.2.2 k)))), (ou, .inl (3, 1, .inr (.inl of)))]) rfl ?_
    refine r_astore (lv' := [(6, .ref qx), (0, .ref a), (1, .int x), (2, .int y), (3, .int h), (4, .int st), (5, .ref ou)]) d_Lw_heatAt_21 (by decide) rfl ?_
    refine r_iconst d_Lw_heatAt_23 (v := 2) (by decide) ?_
    refine r_iret d_Lw_heatAt_24 rfl rfl ?_
    exact ⟨rfl, rfl⟩
  · exact absurd hx.1 (by simp)
set_option maxHeartbeats 4000000 in
set_option maxRecDepth 100000 in
theorem C_Lw_heatAtG (g : zG) (a pa ta sa gs co fu la gy du re wm ac : Nat) (pa1 pa2 pa3 : Nat) (f sn : Nat → Int32) (qn : Nat → Nat) (p : Nat) (sa1 sa2 saz saz1 saz2 saz3 saz4 saz5 saz6 sa4 sa5 sa6 : Nat) (X : zTr) (x y h st : Int32) (c : Nat) (hz : z_cl x y = some c) (hh : 1200 ≤ h ∧ h ≤ 1500) (hs : st < 0 ∨ 400 < st) (ou : Nat) (of : Nat → Int64) : CT g M_Lw_heatAt [.ref a, .int x, .int y, .int h, .int st, .ref ou] [(a, .inr (11, [.ref pa, .ref ta, .ref sa, .ref gs, .ref co, .ref fu, .ref la, .ref gy, .ref du, .ref re, .ref wm, .ref ac])), (pa, .inr (8, [.ref pa1, .ref pa2, .ref pa3, .int (nI p)])), (pa1, .inl (1, 108, .inl f)), (pa2, .inl (2, 108, .inl sn)), (pa3, .inl (0, 108, .inl (fun k => nI (qn k)))), (sa, .inr (10, [.ref sa1, .ref sa2, .ref saz, .ref sa4, .ref sa5, .ref sa6, .int X.1.2.2.1, .int X.1.2.2.2])), (sa1, .inl (1, 108, .inl X.1.1)), (sa2, .inl (0, 108, .inl X.1.2.1)), (saz, .inr (2, [.ref saz1, .ref saz2, .ref saz3, .ref saz4, .ref saz5, .ref saz6, .int X.2.1.1.1.2.2.2])), (saz1, .inl (0, 108, .inl X.2.1.1.1.1)), (saz2, .inl (0, 108, .inl X.2.1.1.2)), (saz3, .inl (0, 108, .inl X.2.1.1.1.2.1)), (saz4, .inl (0, 108, .inl X.2.1.1.1.2.2.1)), (saz5, .inl (0, 108, .inl X.2.1.2.1)), (saz6, .inl (0, 108, .inl X.2.1.2.2)), (sa4, .inl (2, 108, .inl X.2.2.1)), (sa5, .inl (2, 108, .inl X.2.2.2.1)), (sa6, .inl (0, 108, .inl (fun k => nI (X.2.2.2.2 k)))), (ou, .inl (3, 1, .inr (.inl of)))] (fun o cs1 => o = .inl (some (.int 2)) ∧ cs1 = [(a, .inr (11, [.ref pa, .ref ta, .ref sa, .ref gs, .ref co, .ref fu, .ref la, .ref gy, .ref du, .ref re, .ref wm, .ref ac])), (pa, .inr (8, [.ref pa1, .ref pa2, .ref pa3, .int (nI p)])), (pa1, .inl (1, 108, .inl f)), (pa2, .inl (2, 108, .inl sn)), (pa3, .inl (0, 108, .inl (fun k => nI (qn k)))), (sa, .inr (10, [.ref sa1, .ref sa2, .ref saz, .ref sa4, .ref sa5, .ref sa6, .int X.1.2.2.1, .int X.1.2.2.2])), (sa1, .inl (1, 108, .inl X.1.1)), (sa2, .inl (0, 108, .inl X.1.2.1)), (saz, .inr (2, [.ref saz1, .ref saz2, .ref saz3, .ref saz4, .ref saz5, .ref saz6, .int X.2.1.1.1.2.2.2])), (saz1, .inl (0, 108, .inl X.2.1.1.1.1)), (saz2, .inl (0, 108, .inl X.2.1.1.2)), (saz3, .inl (0, 108, .inl X.2.1.1.1.2.1)), (saz4, .inl (0, 108, .inl X.2.1.1.1.2.2.1)), (saz5, .inl (0, 108, .inl X.2.1.2.1)), (saz6, .inl (0, 108, .inl X.2.1.2.2)), (sa4, .inl (2, 108, .inl X.2.2.1)), (sa5, .inl (2, 108, .inl X.2.2.2.1)), (sa6, .inl (0, 108, .inl (fun k => nI (X.2.2.2.2 k)))), (ou, .inl (3, 1, .inr (.inl of)))]) 3 18 := by
  refine z_ofH (by decide) (by decide) (Nat.le_of_ble_eq_true rfl) (fun w0 => ?_)
  refine r_lvE (lv2 := [(0, .ref a), (1, .int x), (2, .int y), (3, .int h), (4, .int st), (5, .ref ou)]) rfl ?_
  refine r_aload d_Lw_heatAt_0 5 rfl ?_
  refine r_iconst d_Lw_heatAt_2 (v := 0) (by decide) ?_
  refine r_aload_n d_Lw_heatAt_3 rfl 0 rfl ?_
  refine r_iload_n d_Lw_heatAt_4 rfl 1 rfl ?_
  refine r_iload_n d_Lw_heatAt_5 rfl 2 rfl ?_
  refine r_iload_n d_Lw_heatAt_6 rfl 3 rfl ?_
  refine r_iload d_Lw_heatAt_7 4 rfl ?_
  refine r_callVH (As := [.int x, .int y, .int h, .int st]) (rest := [.int 0, .ref ou]) (csC := [(a, .inr (11, [.ref pa, .ref ta, .ref sa, .ref gs, .ref co, .ref fu, .ref la, .ref gy, .ref du, .ref re, .ref wm, .ref ac])), (pa, .inr (8, [.ref pa1, .ref pa2, .ref pa3, .int (nI p)])), (pa1, .inl (1, 108, .inl f)), (pa2, .inl (2, 108, .inl sn)), (pa3, .inl (0, 108, .inl (fun k => nI (qn k)))), (sa, .inr (10, [.ref sa1, .ref sa2, .ref saz, .ref sa4, .ref sa5, .ref sa6, .int X.1.2.2.1, .int X.1.2.2.2])), (sa1, .inl (1, 108, .inl X.1.1)), (sa2, .inl (0, 108, .inl X.1.2.1)), (saz, .inr (2, [.ref saz1, .ref saz2, .ref saz3, .ref saz4, .ref saz5, .ref saz6, .int X.2.1.1.1.2.2.2])), (saz1, .inl (0, 108, .inl X.2.1.1.1.1)), (saz2, .inl (0, 108, .inl X.2.1.1.2)), (saz3, .inl (0, 108, .inl X.2.1.1.1.2.1)), (saz4, .inl (0, 108, .inl X.2.1.1.1.2.2.1)), (saz5, .inl (0, 108, .inl X.2.1.2.1)), (saz6, .inl (0, 108, .inl X.2.1.2.2)), (sa4, .inl (2, 108, .inl X.2.2.1)), (sa5, .inl (2, 108, .inl X.2.2.2.1)), (sa6, .inl (0, 108, .inl (fun k => nI (X.2.2.2.2 k))))]) (is := [0, 1, 2, 3, 4, 5, 6, 7, 8, 9, 10, 11, 12, 13, 14, 15, 16, 17]) (q0 := 0) rfl rfl ln_Lw_39 w_im_Ip_heatAt w_se_Ip_heatAt ok_Lw_heatAt_Ip_heatAt d_Lw_heatAt_9 (C_Ip_heatAtG g a pa ta sa gs co fu la gy du re wm ac pa1 pa2 pa3 f sn qn p sa1 sa2 saz saz1 saz2 saz3 saz4 saz5 saz6 sa4 sa5 sa6 X x y h st c hz hh hs) rfl rfl (Nat.le_of_ble_eq_true rfl) rfl (by decide) (by omega) (by omega) (fun E cs1 hx => ?_) (fun v cs1 hx => ?_)
  · obtain ⟨e1, rfl⟩ := hx
    cases e1
    refine ⟨rfl, "java/lang/IllegalArgumentException", [(0, 14, 17, 19)], [], (0, 14, 21, 13), rfl, (fun z hz => by simp only [List.mem_cons, List.not_mem_nil, or_false] at hz; rcases hz with rfl; exact Or.inr ⟨by decide, _, lx_Lw_19, by decide⟩), by decide, by decide, lx_Lw_13, ce_13, fun qx => ?_⟩
    refine r_cs (cs2 := [(a, .inr (11, [.ref pa, .ref ta, .ref sa, .ref gs, .ref co, .ref fu, .ref la, .ref gy, .ref du, .ref re, .ref wm, .ref ac])), (pa, .inr (8, [.ref pa1, .ref pa2, .ref pa3, .int (nI p)])), (pa1, .inl (1, 108, .inl f)), (pa2, .inl (2, 108, .inl sn)), (pa3, .inl (0, 108, .inl (fun k => nI (qn k)))), (sa, .inr (10, [.ref sa1, .ref sa2, .ref saz, .ref sa4, .ref sa5, .ref sa6, .int X.1.2.2.1, .int X.1.2.2.2])), (sa1, .inl (1, 108, .inl X.1.1)), (sa2, .inl (0, 108, .inl X.1.2.1)), (saz, .inr (2, [.ref saz1, .ref saz2, .ref saz3, .ref saz4, .ref saz5, .ref saz6, .int X.2.1.1.1.2.2.2])), (saz1, .inl (0, 108, .inl X.2.1.1.1.1)), (saz2, .inl (0, 108, .inl X.2.1.1.2)), (saz3, .inl (0, 108, .inl X.2.1.1.1.2.1)), (saz4, .inl (0, 108, .inl X.2.1.1.1.2.2.1)), (saz5, .inl (0, 108, .inl X.2.1.2.1)), (saz6, .inl (0, 108, .inl X.2.1.2.2)), (sa4, .inl (2, 108, .inl X.2.2.1)), (sa5, .inl (2, 108, .inl X.2.2.2.1)), (sa6, .inl (0, 108, .inl (fun k => nI (X.2.2.2.2 k)))), (ou, .inl (3, 1, .inr (.inl of)))]) rfl ?_
    refine r_astore (lv' := [(6, .ref qx), (0, .ref a), (1, .int x), (2, .int y), (3, .int h), (4, .int st), (5, .ref ou)]) d_Lw_heatAt_21 (by decide) rfl ?_
    refine r_iconst d_Lw_heatAt_23 (v := 2) (by decide) ?_
    refine r_iret d_Lw_heatAt_24 rfl rfl ?_
    exact ⟨rfl, rfl⟩
  · exact absurd hx.1 (by simp)
theorem d_Lw_heatAt_12 : decode method_9_code 12 = .ok (.i2l, 1) := by decide +kernel
theorem d_Lw_heatAt_13 : decode method_9_code 13 = .ok (.lastore, 1) := by decide +kernel
theorem d_Lw_heatAt_14 : decode method_9_code 14 = .ok (.goto 11, 3) := by decide +kernel
theorem d_Lw_heatAt_25 : decode method_9_code 25 = .ok (.iconst 0, 1) := by decide +kernel
theorem d_Lw_heatAt_26 : decode method_9_code 26 = .ok (.ireturn, 1) := by decide +kernel
set_option maxHeartbeats 4000000 in
set_option maxRecDepth 100000 in
theorem C_Lw_heatAtN (g : zG) (a pa ta sa gs co fu la gy du re wm ac : Nat) (pa1 pa2 pa3 : Nat) (f sn : Nat → Int32) (qn : Nat → Nat) (p : Nat) (sa1 sa2 saz saz1 saz2 saz3 saz4 saz5 saz6 sa4 sa5 sa6 : Nat) (X : zTr) (x y h : Int32) (ks : Nat) (hks : ks ≤ 400) (hf : z_ch f) (c : Nat) (hz : z_cl x y = some c) (hh : 1200 ≤ h ∧ h ≤ 1500) (ou : Nat) (of : Nat → Int64) : CT g M_Lw_heatAt [.ref a, .int x, .int y, .int h, .int (nI ks), .ref ou] [(a, .inr (11, [.ref pa, .ref ta, .ref sa, .ref gs, .ref co, .ref fu, .ref la, .ref gy, .ref du, .ref re, .ref wm, .ref ac])), (pa, .inr (8, [.ref pa1, .ref pa2, .ref pa3, .int (nI p)])), (pa1, .inl (1, 108, .inl f)), (pa2, .inl (2, 108, .inl sn)), (pa3, .inl (0, 108, .inl (fun k => nI (qn k)))), (sa, .inr (10, [.ref sa1, .ref sa2, .ref saz, .ref sa4, .ref sa5, .ref sa6, .int X.1.2.2.1, .int X.1.2.2.2])), (sa1, .inl (1, 108, .inl X.1.1)), (sa2, .inl (0, 108, .inl X.1.2.1)), (saz, .inr (2, [.ref saz1, .ref saz2, .ref saz3, .ref saz4, .ref saz5, .ref saz6, .int X.2.1.1.1.2.2.2])), (saz1, .inl (0, 108, .inl X.2.1.1.1.1)), (saz2, .inl (0, 108, .inl X.2.1.1.2)), (saz3, .inl (0, 108, .inl X.2.1.1.1.2.1)), (saz4, .inl (0, 108, .inl X.2.1.1.1.2.2.1)), (saz5, .inl (0, 108, .inl X.2.1.2.1)), (saz6, .inl (0, 108, .inl X.2.1.2.2)), (sa4, .inl (2, 108, .inl X.2.2.1)), (sa5, .inl (2, 108, .inl X.2.2.2.1)), (sa6, .inl (0, 108, .inl (fun k => nI (X.2.2.2.2 k)))), (ou, .inl (3, 1, .inr (.inl of)))] (fun o cs1 => o = .inl (some (.int 0)) ∧ cs1 = [(a, .inr (11, [.ref pa, .ref ta, .ref sa, .ref gs, .ref co, .ref fu, .ref la, .ref gy, .ref du, .ref re, .ref wm, .ref ac])), (pa, .inr (8, [.ref pa1, .ref pa2, .ref pa3, .int (nI p)])), (pa1, .inl (1, 108, .inl f)), (pa2, .inl (2, 108, .inl sn)), (pa3, .inl (0, 108, .inl (fun k => nI (qn k)))), (sa, .inr (10, [.ref sa1, .ref sa2, .ref saz, .ref sa4, .ref sa5, .ref sa6, .int ((clT h ks (tkT f X)).1.2.2.1), .int ((clT h ks (tkT f X)).1.2.2.2)])), (sa1, .inl (1, 108, .inl ((clT h ks (tkT f X)).1.1))), (sa2, .inl (0, 108, .inl ((clT h ks (tkT f X)).1.2.1))), (saz, .inr (2, [.ref saz1, .ref saz2, .ref saz3, .ref saz4, .ref saz5, .ref saz6, .int ((clT h ks (tkT f X)).2.1.1.1.2.2.2)])), (saz1, .inl (0, 108, .inl ((clT h ks (tkT f X)).2.1.1.1.1))), (saz2, .inl (0, 108, .inl ((clT h ks (tkT f X)).2.1.1.2))), (saz3, .inl (0, 108, .inl ((clT h ks (tkT f X)).2.1.1.1.2.1))), (saz4, .inl (0, 108, .inl ((clT h ks (tkT f X)).2.1.1.1.2.2.1))), (saz5, .inl (0, 108, .inl ((clT h ks (tkT f X)).2.1.2.1))), (saz6, .inl (0, 108, .inl ((clT h ks (tkT f X)).2.1.2.2))), (sa4, .inl (2, 108, .inl ((clT h ks (tkT f X)).2.2.1))), (sa5, .inl (2, 108, .inl ((clT h ks (tkT f X)).2.2.2.1))), (sa6, .inl (0, 108, .inl (fun k => nI ((clT h ks (tkT f X)).2.2.2.2 k)))), (ou, .inl (3, 1, .inr (.inl (vp_updL of 0 (((clT h ks (tkT f X)).2.1.1.1.1 c)).toInt64))))]) 2 12 := by
  refine z_ofH (by decide) (by decide) (Nat.le_of_ble_eq_true rfl) (fun w0 => ?_)
  refine r_lvE (lv2 := [(0, .ref a), (1, .int x), (2, .int y), (3, .int h), (4, .int (nI ks)), (5, .ref ou)]) rfl ?_
  refine r_aload d_Lw_heatAt_0 5 rfl ?_
  refine r_iconst d_Lw_heatAt_2 (v := 0) (by decide) ?_
  refine r_aload_n d_Lw_heatAt_3 rfl 0 rfl ?_
  refine r_iload_n d_Lw_heatAt_4 rfl 1 rfl ?_
  refine r_iload_n d_Lw_heatAt_5 rfl 2 rfl ?_
  refine r_iload_n d_Lw_heatAt_6 rfl 3 rfl ?_
  refine r_iload d_Lw_heatAt_7 4 rfl ?_
  refine r_callVH (As := [.int x, .int y, .int h, .int (nI ks)]) (rest := [.int 0, .ref ou]) (csC := [(a, .inr (11, [.ref pa, .ref ta, .ref sa, .ref gs, .ref co, .ref fu, .ref la, .ref gy, .ref du, .ref re, .ref wm, .ref ac])), (pa, .inr (8, [.ref pa1, .ref pa2, .ref pa3, .int (nI p)])), (pa1, .inl (1, 108, .inl f)), (pa2, .inl (2, 108, .inl sn)), (pa3, .inl (0, 108, .inl (fun k => nI (qn k)))), (sa, .inr (10, [.ref sa1, .ref sa2, .ref saz, .ref sa4, .ref sa5, .ref sa6, .int X.1.2.2.1, .int X.1.2.2.2])), (sa1, .inl (1, 108, .inl X.1.1)), (sa2, .inl (0, 108, .inl X.1.2.1)), (saz, .inr (2, [.ref saz1, .ref saz2, .ref saz3, .ref saz4, .ref saz5, .ref saz6, .int X.2.1.1.1.2.2.2])), (saz1, .inl (0, 108, .inl X.2.1.1.1.1)), (saz2, .inl (0, 108, .inl X.2.1.1.2)), (saz3, .inl (0, 108, .inl X.2.1.1.1.2.1)), (saz4, .inl (0, 108, .inl X.2.1.1.1.2.2.1)), (saz5, .inl (0, 108, .inl X.2.1.2.1)), (saz6, .inl (0, 108, .inl X.2.1.2.2)), (sa4, .inl (2, 108, .inl X.2.2.1)), (sa5, .inl (2, 108, .inl X.2.2.2.1)), (sa6, .inl (0, 108, .inl (fun k => nI (X.2.2.2.2 k))))]) (is := [0, 1, 2, 3, 4, 5, 6, 7, 8, 9, 10, 11, 12, 13, 14, 15, 16, 17]) (q0 := 0) rfl rfl ln_Lw_39 w_im_Ip_heatAt w_se_Ip_heatAt ok_Lw_heatAt_Ip_heatAt d_Lw_heatAt_9 (C_Ip_heatAtN g a pa ta sa gs co fu la gy du re wm ac pa1 pa2 pa3 f sn qn p sa1 sa2 saz saz1 saz2 saz3 saz4 saz5 saz6 sa4 sa5 sa6 X x y h ks hks hf c hz hh) rfl rfl (Nat.le_of_ble_eq_true rfl) rfl (by decide) (by omega) (by omega) (fun E cs1 hx => ?_) (fun v cs1 hx => ?_)
  · exact absurd hx.1 (by simp)
  · obtain ⟨e1, rfl⟩ := hx
    cases e1
    refine ⟨rfl, ?_⟩
    refine r_st (st2 := [.int ((clT h ks (tkT f X)).2.1.1.1.1 c), .int 0, .ref ou]) rfl ?_
    refine r_cs (cs2 := [(a, .inr (11, [.ref pa, .ref ta, .ref sa, .ref gs, .ref co, .ref fu, .ref la, .ref gy, .ref du, .ref re, .ref wm, .ref ac])), (pa, .inr (8, [.ref pa1, .ref pa2, .ref pa3, .int (nI p)])), (pa1, .inl (1, 108, .inl f)), (pa2, .inl (2, 108, .inl sn)), (pa3, .inl (0, 108, .inl (fun k => nI (qn k)))), (sa, .inr (10, [.ref sa1, .ref sa2, .ref saz, .ref sa4, .ref sa5, .ref sa6, .int ((clT h ks (tkT f X)).1.2.2.1), .int ((clT h ks (tkT f X)).1.2.2.2)])), (sa1, .inl (1, 108, .inl ((clT h ks (tkT f X)).1.1))), (sa2, .inl (0, 108, .inl ((clT h ks (tkT f X)).1.2.1))), (saz, .inr (2, [.ref saz1, .ref saz2, .ref saz3, .ref saz4, .ref saz5, .ref saz6, .int ((clT h ks (tkT f X)).2.1.1.1.2.2.2)])), (saz1, .inl (0, 108, .inl ((clT h ks (tkT f X)).2.1.1.1.1))), (saz2, .inl (0, 108, .inl ((clT h ks (tkT f X)).2.1.1.2))), (saz3, .inl (0, 108, .inl ((clT h ks (tkT f X)).2.1.1.1.2.1))), (saz4, .inl (0, 108, .inl ((clT h ks (tkT f X)).2.1.1.1.2.2.1))), (saz5, .inl (0, 108, .inl ((clT h ks (tkT f X)).2.1.2.1))), (saz6, .inl (0, 108, .inl ((clT h ks (tkT f X)).2.1.2.2))), (sa4, .inl (2, 108, .inl ((clT h ks (tkT f X)).2.2.1))), (sa5, .inl (2, 108, .inl ((clT h ks (tkT f X)).2.2.2.1))), (sa6, .inl (0, 108, .inl (fun k => nI ((clT h ks (tkT f X)).2.2.2.2 k)))), (ou, .inl (3, 1, .inr (.inl of)))]) rfl ?_
    refine r_i2l d_Lw_heatAt_12 (v := ((clT h ks (tkT f X)).2.1.1.1.1 c).toInt64) rfl ?_
    refine r_last d_Lw_heatAt_13 (q0 := 18) rfl (fun q => q.elim (by decide) (by decide)) (f' := vp_updL of 0 (((clT h ks (tkT f X)).2.1.1.1.1 c).toInt64)) rfl (cs' := [(a, .inr (11, [.ref pa, .ref ta, .ref sa, .ref gs, .ref co, .ref fu, .ref la, .ref gy, .ref du, .ref re, .ref wm, .ref ac])), (pa, .inr (8, [.ref pa1, .ref pa2, .ref pa3, .int (nI p)])), (pa1, .inl (1, 108, .inl f)), (pa2, .inl (2, 108, .inl sn)), (pa3, .inl (0, 108, .inl (fun k => nI (qn k)))), (sa, .inr (10, [.ref sa1, .ref sa2, .ref saz, .ref sa4, .ref sa5, .ref sa6, .int ((clT h ks (tkT f X)).1.2.2.1), .int ((clT h ks (tkT f X)).1.2.2.2)])), (sa1, .inl (1, 108, .inl ((clT h ks (tkT f X)).1.1))), (sa2, .inl (0, 108, .inl ((clT h ks (tkT f X)).1.2.1))), (saz, .inr (2, [.ref saz1, .ref saz2, .ref saz3, .ref saz4, .ref saz5, .ref saz6, .int ((clT h ks (tkT f X)).2.1.1.1.2.2.2)])), (saz1, .inl (0, 108, .inl ((clT h ks (tkT f X)).2.1.1.1.1))), (saz2, .inl (0, 108, .inl ((clT h ks (tkT f X)).2.1.1.2))), (saz3, .inl (0, 108, .inl ((clT h ks (tkT f X)).2.1.1.1.2.1))), (saz4, .inl (0, 108, .inl ((clT h ks (tkT f X)).2.1.1.1.2.2.1))), (saz5, .inl (0, 108, .inl ((clT h ks (tkT f X)).2.1.2.1))), (saz6, .inl (0, 108, .inl ((clT h ks (tkT f X)).2.1.2.2))), (sa4, .inl (2, 108, .inl ((clT h ks (tkT f X)).2.2.1))), (sa5, .inl (2, 108, .inl ((clT h ks (tkT f X)).2.2.2.1))), (sa6, .inl (0, 108, .inl (fun k => nI ((clT h ks (tkT f X)).2.2.2.2 k)))), (ou, .inl (3, 1, .inr (.inl (vp_updL of 0 (((clT h ks (tkT f X)).2.1.1.1.1 c).toInt64)))))]) rfl ?_
    refine r_goto (tgt := 25) d_Lw_heatAt_14 (by decide) ?_
    refine r_iconst d_Lw_heatAt_25 (v := 0) (by decide) ?_
    refine r_iret d_Lw_heatAt_26 rfl rfl ?_
    exact ⟨rfl, rfl⟩
abbrev M_Lw_isFed : zM := (⟨"IronpourLaw", "isFed", "(LIronpour;III[J)I"⟩, method_10_code, 6, (Option.some FieldType.int), 8, 160, [((0 : Nat), (19 : Nat), (22 : Nat), (19 : Nat)), ((0 : Nat), (19 : Nat), (26 : Nat), (13 : Nat))])
theorem d_Lw_isFed_0 : decode method_10_code 0 = .ok (.aload 4, 2) := by decide +kernel
theorem d_Lw_isFed_2 : decode method_10_code 2 = .ok (.iconst 0, 1) := by decide +kernel
theorem d_Lw_isFed_3 : decode method_10_code 3 = .ok (.aload_n 0, 1) := by decide +kernel
theorem d_Lw_isFed_4 : decode method_10_code 4 = .ok (.iload_n 1, 1) := by decide +kernel
theorem d_Lw_isFed_5 : decode method_10_code 5 = .ok (.iload_n 2, 1) := by decide +kernel
theorem d_Lw_isFed_6 : decode method_10_code 6 = .ok (.iload_n 3, 1) := by decide +kernel
theorem d_Lw_isFed_7 : decode method_10_code 7 = .ok (.invokevirtual 43, 3) := by decide +kernel
theorem ok_Lw_isFed_Ip_isFed : z_okH M_Lw_isFed M_Ip_isFed 3 := ⟨z_mem (i := 894) (by decide +kernel) (by decide +kernel), rfl, ⟨by decide +kernel, by decide +kernel, by decide +kernel⟩, ⟨by decide, by decide⟩, z_mem (i := 58) (by decide +kernel) (by decide +kernel)⟩
theorem ln_Lw_43 : Cond.methodLink "IronpourLaw" 43 M_Ip_isFed.1 ∈ z_gw := z_mem (i := 891) (by decide +kernel) (by decide +kernel)
theorem w_im_Ip_isFed : Cond.instanceMethod M_Ip_isFed.1 ∈ z_gw := z_mem (i := 892) (by decide +kernel) (by decide +kernel)
theorem w_se_Ip_isFed : Cond.selects M_Ip_isFed.1.cls M_Ip_isFed.1 M_Ip_isFed.1 ∈ z_gw := z_mem (i := 893) (by decide +kernel) (by decide +kernel)
theorem d_Lw_isFed_22 : decode method_10_code 22 = .ok (.astore 5, 2) := by decide +kernel
theorem d_Lw_isFed_24 : decode method_10_code 24 = .ok (.iconst 1, 1) := by decide +kernel
theorem d_Lw_isFed_25 : decode method_10_code 25 = .ok (.ireturn, 1) := by decide +kernel
set_option maxHeartbeats 4000000 in
set_option maxRecDepth 100000 in
theorem C_Lw_isFedE (g : zG) (a pa ta sa gs co fu la gy du re wm ac : Nat) (ta1 ta2 taz taz1 taz2 taz3 taz4 taz5 taz6 ta4 ta5 ta6 : Nat) (X : zTr) (x y : Int32) (h : Int32) (hz : z_cl x y = none) (ou : Nat) (of : Nat → Int64) : CT g M_Lw_isFed [.ref a, .int x, .int y, .int h, .ref ou] [(a, .inr (11, [.ref pa, .ref ta, .ref sa, .ref gs, .ref co, .ref fu, .ref la, .ref gy, .ref du, .ref re, .ref wm, .ref ac])), (ta, .inr (10, [.ref ta1, .ref ta2, .ref taz, .ref ta4, .ref ta5, .ref ta6, .int X.1.2.2.1, .int X.1.2.2.2])), (ta1, .inl (1, 108, .inl X.1.1)), (ta2, .inl (0, 108, .inl X.1.2.1)), (taz, .inr (2, [.ref taz1, .ref taz2, .ref taz3, .ref taz4, .ref taz5, .ref taz6, .int X.2.1.1.1.2.2.2])), (taz1, .inl (0, 108, .inl X.2.1.1.1.1)), (taz2, .inl (0, 108, .inl X.2.1.1.2)), (taz3, .inl (0, 108, .inl X.2.1.1.1.2.1)), (taz4, .inl (0, 108, .inl X.2.1.1.1.2.2.1)), (taz5, .inl (0, 108, .inl X.2.1.2.1)), (taz6, .inl (0, 108, .inl X.2.1.2.2)), (ta4, .inl (2, 108, .inl X.2.2.1)), (ta5, .inl (2, 108, .inl X.2.2.2.1)), (ta6, .inl (0, 108, .inl (fun k => nI (X.2.2.2.2 k)))), (ou, .inl (3, 1, .inr (.inl of)))] (fun o cs1 => o = .inl (some (.int 1)) ∧ cs1 = [(a, .inr (11, [.ref pa, .ref ta, .ref sa, .ref gs, .ref co, .ref fu, .ref la, .ref gy, .ref du, .ref re, .ref wm, .ref ac])), (ta, .inr (10, [.ref ta1, .ref ta2, .ref taz, .ref ta4, .ref ta5, .ref ta6, .int X.1.2.2.1, .int X.1.2.2.2])), (ta1, .inl (1, 108, .inl X.1.1)), (ta2, .inl (0, 108, .inl X.1.2.1)), (taz, .inr (2, [.ref taz1, .ref taz2, .ref taz3, .ref taz4, .ref taz5, .ref taz6, .int X.2.1.1.1.2.2.2])), (taz1, .inl (0, 108, .inl X.2.1.1.1.1)), (taz2, .inl (0, 108, .inl X.2.1.1.2)), (taz3, .inl (0, 108, .inl X.2.1.1.1.2.1)), (taz4, .inl (0, 108, .inl X.2.1.1.1.2.2.1)), (taz5, .inl (0, 108, .inl X.2.1.2.1)), (taz6, .inl (0, 108, .inl X.2.1.2.2)), (ta4, .inl (2, 108, .inl X.2.2.1)), (ta5, .inl (2, 108, .inl X.2.2.2.1)), (ta6, .inl (0, 108, .inl (fun k => nI (X.2.2.2.2 k)))), (ou, .inl (3, 1, .inr (.inl of)))]) 2 12 := by
  refine z_ofH (by decide) (by decide) (Nat.le_of_ble_eq_true rfl) (fun w0 => ?_)
  refine r_lvE (lv2 := [(0, .ref a), (1, .int x), (2, .int y), (3, .int h), (4, .ref ou)]) rfl ?_
  refine r_aload d_Lw_isFed_0 4 rfl ?_
  refine r_iconst d_Lw_isFed_2 (v := 0) (by decide) ?_
  refine r_aload_n d_Lw_isFed_3 rfl 0 rfl ?_
  refine r_iload_n d_Lw_isFed_4 rfl 1 rfl ?_
  refine r_iload_n d_Lw_isFed_5 rfl 2 rfl ?_
  refine r_iload_n d_Lw_isFed_6 rfl 3 rfl ?_
  refine r_callVH (As := [.int x, .int y, .int h]) (rest := [.int 0, .ref ou]) (csC := [(a, .inr (11, [.ref pa, .ref ta, .ref sa, .ref gs, .ref co, .ref fu, .ref la, .ref gy, .ref du, .ref re, .ref wm, .ref ac])), (ta, .inr (10, [.ref ta1, .ref ta2, .ref taz, .ref ta4, .ref ta5, .ref ta6, .int X.1.2.2.1, .int X.1.2.2.2])), (ta1, .inl (1, 108, .inl X.1.1)), (ta2, .inl (0, 108, .inl X.1.2.1)), (taz, .inr (2, [.ref taz1, .ref taz2, .ref taz3, .ref taz4, .ref taz5, .ref taz6, .int X.2.1.1.1.2.2.2])), (taz1, .inl (0, 108, .inl X.2.1.1.1.1)), (taz2, .inl (0, 108, .inl X.2.1.1.2)), (taz3, .inl (0, 108, .inl X.2.1.1.1.2.1)), (taz4, .inl (0, 108, .inl X.2.1.1.1.2.2.1)), (taz5, .inl (0, 108, .inl X.2.1.2.1)), (taz6, .inl (0, 108, .inl X.2.1.2.2)), (ta4, .inl (2, 108, .inl X.2.2.1)), (ta5, .inl (2, 108, .inl X.2.2.2.1)), (ta6, .inl (0, 108, .inl (fun k => nI (X.2.2.2.2 k))))]) (is := [0, 1, 2, 3, 4, 5, 6, 7, 8, 9, 10, 11, 12, 13]) (q0 := 0) rfl rfl ln_Lw_43 w_im_Ip_isFed w_se_Ip_isFed ok_Lw_isFed_Ip_isFed d_Lw_isFed_7 (C_Ip_isFedE g a pa ta sa gs co fu la gy du re wm ac ta1 ta2 taz taz1 taz2 taz3 taz4 taz5 taz6 ta4 ta5 ta6 X x y h hz) rfl rfl (Nat.le_of_ble_eq_true rfl) rfl (by decide) (by omega) (by omega) (fun E cs1 hx => ?_) (fun v cs1 hx => ?_)
  · obtain ⟨e1, rfl⟩ := hx
    cases e1
    refine ⟨rfl, "java/lang/IndexOutOfBoundsException", [], [(0, 19, 26, 13)], (0, 19, 22, 19), rfl, (fun z hz => nomatch hz), by decide, by decide, lx_Lw_19, ce_19, fun qx => ?_⟩
    refine r_cs (cs2 := [(a, .inr (11, [.ref pa, .ref ta, .ref sa, .ref gs, .ref co, .ref fu, .ref la, .ref gy, .ref du, .ref re, .ref wm, .ref ac])), (ta, .inr (10, [.ref ta1, .ref ta2, .ref taz, .ref ta4, .ref ta5, .ref ta6, .int X.1.2.2.1, .int X.1.2.2.2])), (ta1, .inl (1, 108, .inl X.1.1)), (ta2, .inl (0, 108, .inl X.1.2.1)), (taz, .inr (2, [.ref taz1, .ref taz2, .ref taz3, .ref taz4, .ref taz5, .ref taz6, .int X.2.1.1.1.2.2.2])), (taz1, .inl (0, 108, .inl X.2.1.1.1.1)), (taz2, .inl (0, 108, .inl X.2.1.1.2)), (taz3, .inl (0, 108, .inl X.2.1.1.1.2.1)), (taz4, .inl (0, 108, .inl X.2.1.1.1.2.2.1)), (taz5, .inl (0, 108, .inl X.2.1.2.1)), (taz6, .inl (0, 108, .inl X.2.1.2.2)), (ta4, .inl (2, 108, .inl X.2.2.1)), (ta5, .inl (2, 108, .inl X.2.2.2.1)), (ta6, .inl (0, 108, .inl (fun k => nI (X.2.2.2.2 k)))), (ou, .inl (3, 1, .inr (.inl of)))]) rfl ?_
    refine r_astore (lv' := [(5, .ref qx), (0, .ref a), (1, .int x), (2, .int y), (3, .int h), (4, .ref ou)]) d_Lw_isFed_22 (by decide) rfl ?_
    refine r_iconst d_Lw_isFed_24 (v := 1) (by decide) ?_
    refine r_iret d_Lw_isFed_25 rfl rfl ?_
    exact ⟨rfl, rfl⟩
  · exact absurd hx.1 (by simp)
theorem d_Lw_isFed_26 : decode method_10_code 26 = .ok (.astore 5, 2) := by decide +kernel
theorem d_Lw_isFed_28 : decode method_10_code 28 = .ok (.iconst 2, 1) := by decide +kernel
theorem d_Lw_isFed_29 : decode method_10_code 29 = .ok (.ireturn, 1) := by decide +kernel
set_option maxHeartbeats 4000000 in
set_option maxRecDepth 100000 in
theorem C_Lw_isFedF (g : zG) (a pa ta sa gs co fu la gy du re wm ac : Nat) (ta1 ta2 taz taz1 taz2 taz3 taz4 taz5 taz6 ta4 ta5 ta6 : Nat) (X : zTr) (x y : Int32) (h : Int32) (c : Nat) (hz : z_cl x y = some c) (hh : ¬ (1200 ≤ h ∧ h ≤ 1500)) (ou : Nat) (of : Nat → Int64) : CT g M_Lw_isFed [.ref a, .int x, .int y, .int h, .ref ou] [(a, .inr (11, [.ref pa, .ref ta, .ref sa, .ref gs, .ref co, .ref fu, .ref la, .ref gy, .ref du, .ref re, .ref wm, .ref ac])), (ta, .inr (10, [.ref ta1, .ref ta2, .ref taz, .ref ta4, .ref ta5, .ref ta6, .int X.1.2.2.1, .int X.1.2.2.2])), (ta1, .inl (1, 108, .inl X.1.1)), (ta2, .inl (0, 108, .inl X.1.2.1)), (taz, .inr (2, [.ref taz1, .ref taz2, .ref taz3, .ref taz4, .ref taz5, .ref taz6, .int X.2.1.1.1.2.2.2])), (taz1, .inl (0, 108, .inl X.2.1.1.1.1)), (taz2, .inl (0, 108, .inl X.2.1.1.2)), (taz3, .inl (0, 108, .inl X.2.1.1.1.2.1)), (taz4, .inl (0, 108, .inl X.2.1.1.1.2.2.1)), (taz5, .inl (0, 108, .inl X.2.1.2.1)), (taz6, .inl (0, 108, .inl X.2.1.2.2)), (ta4, .inl (2, 108, .inl X.2.2.1)), (ta5, .inl (2, 108, .inl X.2.2.2.1)), (ta6, .inl (0, 108, .inl (fun k => nI (X.2.2.2.2 k)))), (ou, .inl (3, 1, .inr (.inl of)))] (fun o cs1 => o = .inl (some (.int 2)) ∧ cs1 = [(a, .inr (11, [.ref pa, .ref ta, .ref sa, .ref gs, .ref co, .ref fu, .ref la, .ref gy, .ref du, .ref re, .ref wm, .ref ac])), (ta, .inr (10, [.ref ta1, .ref ta2, .ref taz, .ref ta4, .ref ta5, .ref ta6, .int X.1.2.2.1, .int X.1.2.2.2])), (ta1, .inl (1, 108, .inl X.1.1)), (ta2, .inl (0, 108, .inl X.1.2.1)), (taz, .inr (2, [.ref taz1, .ref taz2, .ref taz3, .ref taz4, .ref taz5, .ref taz6, .int X.2.1.1.1.2.2.2])), (taz1, .inl (0, 108, .inl X.2.1.1.1.1)), (taz2, .inl (0, 108, .inl X.2.1.1.2)), (taz3, .inl (0, 108, .inl X.2.1.1.1.2.1)), (taz4, .inl (0, 108, .inl X.2.1.1.1.2.2.1)), (taz5, .inl (0, 108, .inl X.2.1.2.1)), (taz6, .inl (0, 108, .inl X.2.1.2.2)), (ta4, .inl (2, 108, .inl X.2.2.1)), (ta5, .inl (2, 108, .inl X.2.2.2.1)), (ta6, .inl (0, 108, .inl (fun k => nI (X.2.2.2.2 k)))), (ou, .inl (3, 1, .inr (.inl of)))]) 2 12 := by
  refine z_ofH (by decide) (by decide) (Nat.le_of_ble_eq_true rfl) (fun w0 => ?_)
  refine r_lvE (lv2 := [(0, .ref a), (1, .int x), (2, .int y), (3, .int h), (4, .ref ou)]) rfl ?_
  refine r_aload d_Lw_isFed_0 4 rfl ?_
  refine r_iconst d_Lw_isFed_2 (v := 0) (by decide) ?_
  refine r_aload_n d_Lw_isFed_3 rfl 0 rfl ?_
  refine r_iload_n d_Lw_isFed_4 rfl 1 rfl ?_
  refine r_iload_n d_Lw_isFed_5 rfl 2 rfl ?_
  refine r_iload_n d_Lw_isFed_6 rfl 3 rfl ?_
  refine r_callVH (As := [.int x, .int y, .int h]) (rest := [.int 0, .ref ou]) (csC := [(a, .inr (11, [.ref pa, .ref ta, .ref sa, .ref gs, .ref co, .ref fu, .ref la, .ref gy, .ref du, .ref re, .ref wm, .ref ac])), (ta, .inr (10, [.ref ta1, .ref ta2, .ref taz, .ref ta4, .ref ta5, .ref ta6, .int X.1.2.2.1, .int X.1.2.2.2])), (ta1, .inl (1, 108, .inl X.1.1)), (ta2, .inl (0, 108, .inl X.1.2.1)), (taz, .inr (2, [.ref taz1, .ref taz2, .ref taz3, .ref taz4, .ref taz5, .ref taz6, .int X.2.1.1.1.2.2.2])), (taz1, .inl (0, 108, .inl X.2.1.1.1.1)), (taz2, .inl (0, 108, .inl X.2.1.1.2)), (taz3, .inl (0, 108, .inl X.2.1.1.1.2.1)), (taz4, .inl (0, 108, .inl X.2.1.1.1.2.2.1)), (taz5, .inl (0, 108, .inl X.2.1.2.1)), (taz6, .inl (0, 108, .inl X.2.1.2.2)), (ta4, .inl (2, 108, .inl X.2.2.1)), (ta5, .inl (2, 108, .inl X.2.2.2.1)), (ta6, .inl (0, 108, .inl (fun k => nI (X.2.2.2.2 k))))]) (is := [0, 1, 2, 3, 4, 5, 6, 7, 8, 9, 10, 11, 12, 13]) (q0 := 0) rfl rfl ln_Lw_43 w_im_Ip_isFed w_se_Ip_isFed ok_Lw_isFed_Ip_isFed d_Lw_isFed_7 (C_Ip_isFedF g a pa ta sa gs co fu la gy du re wm ac ta1 ta2 taz taz1 taz2 taz3 taz4 taz5 taz6 ta4 ta5 ta6 X x y h c hz hh) rfl rfl (Nat.le_of_ble_eq_true rfl) rfl (by decide) (by omega) (by omega) (fun E cs1 hx => ?_) (fun v cs1 hx => ?_)
  · obtain ⟨e1, rfl⟩ := hx
    cases e1
    refine ⟨rfl, "java/lang/IllegalArgumentException", [(0, 19, 22, 19)], [], (0, 19, 26, 13), rfl, (fun z hz => by simp only [List.mem_cons, List.not_mem_nil, or_false] at hz; rcases hz with rfl; exact Or.inr ⟨by decide, _, lx_Lw_19, by decide⟩), by decide, by decide, lx_Lw_13, ce_13, fun qx => ?_⟩
    refine r_cs (cs2 := [(a, .inr (11, [.ref pa, .ref ta, .ref sa, .ref gs, .ref co, .ref fu, .ref la, .ref gy, .ref du, .ref re, .ref wm, .ref ac])), (ta, .inr (10, [.ref ta1, .ref ta2, .ref taz, .ref ta4, .ref ta5, .ref ta6, .int X.1.2.2.1, .int X.1.2.2.2])), (ta1, .inl (1, 108, .inl X.1.1)), (ta2, .inl (0, 108, .inl X.1.2.1)), (taz, .inr (2, [.ref taz1, .ref taz2, .ref taz3, .ref taz4, .ref taz5, .ref taz6, .int X.2.1.1.1.2.2.2])), (taz1, .inl (0, 108, .inl X.2.1.1.1.1)), (taz2, .inl (0, 108, .inl X.2.1.1.2)), (taz3, .inl (0, 108, .inl X.2.1.1.1.2.1)), (taz4, .inl (0, 108, .inl X.2.1.1.1.2.2.1)), (taz5, .inl (0, 108, .inl X.2.1.2.1)), (taz6, .inl (0, 108, .inl X.2.1.2.2)), (ta4, .inl (2, 108, .inl X.2.2.1)), (ta5, .inl (2, 108, .inl X.2.2.2.1)), (ta6, .inl (0, 108, .inl (fun k => nI (X.2.2.2.2 k)))), (ou, .inl (3, 1, .inr (.inl of)))]) rfl ?_
    refine r_astore (lv' := [(5, .ref qx), (0, .ref a), (1, .int x), (2, .int y), (3, .int h), (4, .ref ou)]) d_Lw_isFed_26 (by decide) rfl ?_
    refine r_iconst d_Lw_isFed_28 (v := 2) (by decide) ?_
    refine r_iret d_Lw_isFed_29 rfl rfl ?_
    exact ⟨rfl, rfl⟩
  · exact absurd hx.1 (by simp)
abbrev M_Lw_shrunk : zM := (⟨"IronpourLaw", "shrunk", "(LIronpour;I[J)I"⟩, method_11_code, 4, (Option.some FieldType.int), 8, 157, [((0 : Nat), (9 : Nat), (12 : Nat), (13 : Nat))])
theorem d_Lw_shrunk_0 : decode method_11_code 0 = .ok (.aload_n 2, 1) := by decide +kernel
theorem d_Lw_shrunk_1 : decode method_11_code 1 = .ok (.iconst 0, 1) := by decide +kernel
theorem d_Lw_shrunk_2 : decode method_11_code 2 = .ok (.aload_n 0, 1) := by decide +kernel
theorem d_Lw_shrunk_3 : decode method_11_code 3 = .ok (.iload_n 1, 1) := by decide +kernel
theorem d_Lw_shrunk_4 : decode method_11_code 4 = .ok (.invokevirtual 47, 3) := by decide +kernel
theorem ok_Lw_shrunk_Ip_shrunk : z_okH M_Lw_shrunk M_Ip_shrunk 1 := ⟨z_mem (i := 901) (by decide +kernel) (by decide +kernel), rfl, ⟨by decide +kernel, by decide +kernel, by decide +kernel⟩, ⟨by decide, by decide⟩, z_mem (i := 58) (by decide +kernel) (by decide +kernel)⟩
theorem ln_Lw_47 : Cond.methodLink "IronpourLaw" 47 M_Ip_shrunk.1 ∈ z_gw := z_mem (i := 898) (by decide +kernel) (by decide +kernel)
theorem w_im_Ip_shrunk : Cond.instanceMethod M_Ip_shrunk.1 ∈ z_gw := z_mem (i := 899) (by decide +kernel) (by decide +kernel)
theorem w_se_Ip_shrunk : Cond.selects M_Ip_shrunk.1.cls M_Ip_shrunk.1 M_Ip_shrunk.1 ∈ z_gw := z_mem (i := 900) (by decide +kernel) (by decide +kernel)
theorem d_Lw_shrunk_12 : decode method_11_code 12 = .ok (.astore_n 3, 1) := by decide +kernel
theorem d_Lw_shrunk_13 : decode method_11_code 13 = .ok (.iconst 1, 1) := by decide +kernel
theorem d_Lw_shrunk_14 : decode method_11_code 14 = .ok (.ireturn, 1) := by decide +kernel
set_option maxHeartbeats 4000000 in
set_option maxRecDepth 100000 in
theorem C_Lw_shrunkE (g : zG) (a pa ta sa gs co fu la gy du re wm ac : Nat) (ta1 ta2 taz taz1 taz2 taz3 taz4 taz5 taz6 ta4 ta5 ta6 : Nat) (X : zTr) (h : Int32) (hh : ¬ (1200 ≤ h ∧ h ≤ 1500)) (ou : Nat) (of : Nat → Int64) : CT g M_Lw_shrunk [.ref a, .int h, .ref ou] [(a, .inr (11, [.ref pa, .ref ta, .ref sa, .ref gs, .ref co, .ref fu, .ref la, .ref gy, .ref du, .ref re, .ref wm, .ref ac])), (ta, .inr (10, [.ref ta1, .ref ta2, .ref taz, .ref ta4, .ref ta5, .ref ta6, .int X.1.2.2.1, .int X.1.2.2.2])), (ta1, .inl (1, 108, .inl X.1.1)), (ta2, .inl (0, 108, .inl X.1.2.1)), (taz, .inr (2, [.ref taz1, .ref taz2, .ref taz3, .ref taz4, .ref taz5, .ref taz6, .int X.2.1.1.1.2.2.2])), (taz1, .inl (0, 108, .inl X.2.1.1.1.1)), (taz2, .inl (0, 108, .inl X.2.1.1.2)), (taz3, .inl (0, 108, .inl X.2.1.1.1.2.1)), (taz4, .inl (0, 108, .inl X.2.1.1.1.2.2.1)), (taz5, .inl (0, 108, .inl X.2.1.2.1)), (taz6, .inl (0, 108, .inl X.2.1.2.2)), (ta4, .inl (2, 108, .inl X.2.2.1)), (ta5, .inl (2, 108, .inl X.2.2.2.1)), (ta6, .inl (0, 108, .inl (fun k => nI (X.2.2.2.2 k)))), (ou, .inl (3, 1, .inr (.inl of)))] (fun o cs1 => o = .inl (some (.int 1)) ∧ cs1 = [(a, .inr (11, [.ref pa, .ref ta, .ref sa, .ref gs, .ref co, .ref fu, .ref la, .ref gy, .ref du, .ref re, .ref wm, .ref ac])), (ta, .inr (10, [.ref ta1, .ref ta2, .ref taz, .ref ta4, .ref ta5, .ref ta6, .int X.1.2.2.1, .int X.1.2.2.2])), (ta1, .inl (1, 108, .inl X.1.1)), (ta2, .inl (0, 108, .inl X.1.2.1)), (taz, .inr (2, [.ref taz1, .ref taz2, .ref taz3, .ref taz4, .ref taz5, .ref taz6, .int X.2.1.1.1.2.2.2])), (taz1, .inl (0, 108, .inl X.2.1.1.1.1)), (taz2, .inl (0, 108, .inl X.2.1.1.2)), (taz3, .inl (0, 108, .inl X.2.1.1.1.2.1)), (taz4, .inl (0, 108, .inl X.2.1.1.1.2.2.1)), (taz5, .inl (0, 108, .inl X.2.1.2.1)), (taz6, .inl (0, 108, .inl X.2.1.2.2)), (ta4, .inl (2, 108, .inl X.2.2.1)), (ta5, .inl (2, 108, .inl X.2.2.2.1)), (ta6, .inl (0, 108, .inl (fun k => nI (X.2.2.2.2 k)))), (ou, .inl (3, 1, .inr (.inl of)))]) 1 6 := by
  refine z_ofH (by decide) (by decide) (Nat.le_of_ble_eq_true rfl) (fun w0 => ?_)
  refine r_lvE (lv2 := [(0, .ref a), (1, .int h), (2, .ref ou)]) rfl ?_
  refine r_aload_n d_Lw_shrunk_0 rfl 2 rfl ?_
  refine r_iconst d_Lw_shrunk_1 (v := 0) (by decide) ?_
  refine r_aload_n d_Lw_shrunk_2 rfl 0 rfl ?_
  refine r_iload_n d_Lw_shrunk_3 rfl 1 rfl ?_
  refine r_callVH (As := [.int h]) (rest := [.int 0, .ref ou]) (csC := [(a, .inr (11, [.ref pa, .ref ta, .ref sa, .ref gs, .ref co, .ref fu, .ref la, .ref gy, .ref du, .ref re, .ref wm, .ref ac])), (ta, .inr (10, [.ref ta1, .ref ta2, .ref taz, .ref ta4, .ref ta5, .ref ta6, .int X.1.2.2.1, .int X.1.2.2.2])), (ta1, .inl (1, 108, .inl X.1.1)), (ta2, .inl (0, 108, .inl X.1.2.1)), (taz, .inr (2, [.ref taz1, .ref taz2, .ref taz3, .ref taz4, .ref taz5, .ref taz6, .int X.2.1.1.1.2.2.2])), (taz1, .inl (0, 108, .inl X.2.1.1.1.1)), (taz2, .inl (0, 108, .inl X.2.1.1.2)), (taz3, .inl (0, 108, .inl X.2.1.1.1.2.1)), (taz4, .inl (0, 108, .inl X.2.1.1.1.2.2.1)), (taz5, .inl (0, 108, .inl X.2.1.2.1)), (taz6, .inl (0, 108, .inl X.2.1.2.2)), (ta4, .inl (2, 108, .inl X.2.2.1)), (ta5, .inl (2, 108, .inl X.2.2.2.1)), (ta6, .inl (0, 108, .inl (fun k => nI (X.2.2.2.2 k))))]) (is := [0, 1, 2, 3, 4, 5, 6, 7, 8, 9, 10, 11, 12, 13]) (q0 := 0) rfl rfl ln_Lw_47 w_im_Ip_shrunk w_se_Ip_shrunk ok_Lw_shrunk_Ip_shrunk d_Lw_shrunk_4 (C_Ip_shrunkE g a pa ta sa gs co fu la gy du re wm ac ta1 ta2 taz taz1 taz2 taz3 taz4 taz5 taz6 ta4 ta5 ta6 X h hh) rfl rfl (Nat.le_of_ble_eq_true rfl) rfl (by decide) (by omega) (by omega) (fun E cs1 hx => ?_) (fun v cs1 hx => ?_)
  · obtain ⟨e1, rfl⟩ := hx
    cases e1
    refine ⟨rfl, "java/lang/IllegalArgumentException", [], [], (0, 9, 12, 13), rfl, (fun z hz => nomatch hz), by decide, by decide, lx_Lw_13, ce_13, fun qx => ?_⟩
    refine r_cs (cs2 := [(a, .inr (11, [.ref pa, .ref ta, .ref sa, .ref gs, .ref co, .ref fu, .ref la, .ref gy, .ref du, .ref re, .ref wm, .ref ac])), (ta, .inr (10, [.ref ta1, .ref ta2, .ref taz, .ref ta4, .ref ta5, .ref ta6, .int X.1.2.2.1, .int X.1.2.2.2])), (ta1, .inl (1, 108, .inl X.1.1)), (ta2, .inl (0, 108, .inl X.1.2.1)), (taz, .inr (2, [.ref taz1, .ref taz2, .ref taz3, .ref taz4, .ref taz5, .ref taz6, .int X.2.1.1.1.2.2.2])), (taz1, .inl (0, 108, .inl X.2.1.1.1.1)), (taz2, .inl (0, 108, .inl X.2.1.1.2)), (taz3, .inl (0, 108, .inl X.2.1.1.1.2.1)), (taz4, .inl (0, 108, .inl X.2.1.1.1.2.2.1)), (taz5, .inl (0, 108, .inl X.2.1.2.1)), (taz6, .inl (0, 108, .inl X.2.1.2.2)), (ta4, .inl (2, 108, .inl X.2.2.1)), (ta5, .inl (2, 108, .inl X.2.2.2.1)), (ta6, .inl (0, 108, .inl (fun k => nI (X.2.2.2.2 k)))), (ou, .inl (3, 1, .inr (.inl of)))]) rfl ?_
    refine r_astore_n (lv' := [(3, .ref qx), (0, .ref a), (1, .int h), (2, .ref ou)]) d_Lw_shrunk_12 rfl (by decide) rfl ?_
    refine r_iconst d_Lw_shrunk_13 (v := 1) (by decide) ?_
    refine r_iret d_Lw_shrunk_14 rfl rfl ?_
    exact ⟨rfl, rfl⟩
  · exact absurd hx.1 (by simp)
theorem d_Lw_shrunk_7 : decode method_11_code 7 = .ok (.i2l, 1) := by decide +kernel
theorem d_Lw_shrunk_8 : decode method_11_code 8 = .ok (.lastore, 1) := by decide +kernel
theorem d_Lw_shrunk_9 : decode method_11_code 9 = .ok (.goto 6, 3) := by decide +kernel
theorem d_Lw_shrunk_15 : decode method_11_code 15 = .ok (.iconst 0, 1) := by decide +kernel
theorem d_Lw_shrunk_16 : decode method_11_code 16 = .ok (.ireturn, 1) := by decide +kernel
set_option maxHeartbeats 4000000 in
set_option maxRecDepth 100000 in
theorem C_Lw_shrunkN (g : zG) (a pa ta sa gs co fu la gy du re wm ac : Nat) (ta1 ta2 taz taz1 taz2 taz3 taz4 taz5 taz6 ta4 ta5 ta6 : Nat) (X : zTr) (h : Int32) (hh : 1200 ≤ h ∧ h ≤ 1500) (ou : Nat) (of : Nat → Int64) : CT g M_Lw_shrunk [.ref a, .int h, .ref ou] [(a, .inr (11, [.ref pa, .ref ta, .ref sa, .ref gs, .ref co, .ref fu, .ref la, .ref gy, .ref du, .ref re, .ref wm, .ref ac])), (ta, .inr (10, [.ref ta1, .ref ta2, .ref taz, .ref ta4, .ref ta5, .ref ta6, .int X.1.2.2.1, .int X.1.2.2.2])), (ta1, .inl (1, 108, .inl X.1.1)), (ta2, .inl (0, 108, .inl X.1.2.1)), (taz, .inr (2, [.ref taz1, .ref taz2, .ref taz3, .ref taz4, .ref taz5, .ref taz6, .int X.2.1.1.1.2.2.2])), (taz1, .inl (0, 108, .inl X.2.1.1.1.1)), (taz2, .inl (0, 108, .inl X.2.1.1.2)), (taz3, .inl (0, 108, .inl X.2.1.1.1.2.1)), (taz4, .inl (0, 108, .inl X.2.1.1.1.2.2.1)), (taz5, .inl (0, 108, .inl X.2.1.2.1)), (taz6, .inl (0, 108, .inl X.2.1.2.2)), (ta4, .inl (2, 108, .inl X.2.2.1)), (ta5, .inl (2, 108, .inl X.2.2.2.1)), (ta6, .inl (0, 108, .inl (fun k => nI (X.2.2.2.2 k)))), (ou, .inl (3, 1, .inr (.inl of)))] (fun o cs1 => o = .inl (some (.int 0)) ∧ cs1 = [(a, .inr (11, [.ref pa, .ref ta, .ref sa, .ref gs, .ref co, .ref fu, .ref la, .ref gy, .ref du, .ref re, .ref wm, .ref ac])), (ta, .inr (10, [.ref ta1, .ref ta2, .ref taz, .ref ta4, .ref ta5, .ref ta6, .int ((frT h X).1.2.2.1), .int ((frT h X).1.2.2.2)])), (ta1, .inl (1, 108, .inl ((frT h X).1.1))), (ta2, .inl (0, 108, .inl ((frT h X).1.2.1))), (taz, .inr (2, [.ref taz1, .ref taz2, .ref taz3, .ref taz4, .ref taz5, .ref taz6, .int ((frT h X).2.1.1.1.2.2.2)])), (taz1, .inl (0, 108, .inl ((frT h X).2.1.1.1.1))), (taz2, .inl (0, 108, .inl ((frT h X).2.1.1.2))), (taz3, .inl (0, 108, .inl ((frT h X).2.1.1.1.2.1))), (taz4, .inl (0, 108, .inl ((frT h X).2.1.1.1.2.2.1))), (taz5, .inl (0, 108, .inl ((frT h X).2.1.2.1))), (taz6, .inl (0, 108, .inl ((frT h X).2.1.2.2))), (ta4, .inl (2, 108, .inl ((frT h X).2.2.1))), (ta5, .inl (2, 108, .inl ((frT h X).2.2.2.1))), (ta6, .inl (0, 108, .inl (fun k => nI ((frT h X).2.2.2.2 k)))), (ou, .inl (3, 1, .inr (.inl (vp_updL of 0 ((nI (shN (frT h X)))).toInt64))))]) 1 6 := by
  refine z_ofH (by decide) (by decide) (Nat.le_of_ble_eq_true rfl) (fun w0 => ?_)
  refine r_lvE (lv2 := [(0, .ref a), (1, .int h), (2, .ref ou)]) rfl ?_
  refine r_aload_n d_Lw_shrunk_0 rfl 2 rfl ?_
  refine r_iconst d_Lw_shrunk_1 (v := 0) (by decide) ?_
  refine r_aload_n d_Lw_shrunk_2 rfl 0 rfl ?_
  refine r_iload_n d_Lw_shrunk_3 rfl 1 rfl ?_
  refine r_callVH (As := [.int h]) (rest := [.int 0, .ref ou]) (csC := [(a, .inr (11, [.ref pa, .ref ta, .ref sa, .ref gs, .ref co, .ref fu, .ref la, .ref gy, .ref du, .ref re, .ref wm, .ref ac])), (ta, .inr (10, [.ref ta1, .ref ta2, .ref taz, .ref ta4, .ref ta5, .ref ta6, .int X.1.2.2.1, .int X.1.2.2.2])), (ta1, .inl (1, 108, .inl X.1.1)), (ta2, .inl (0, 108, .inl X.1.2.1)), (taz, .inr (2, [.ref taz1, .ref taz2, .ref taz3, .ref taz4, .ref taz5, .ref taz6, .int X.2.1.1.1.2.2.2])), (taz1, .inl (0, 108, .inl X.2.1.1.1.1)), (taz2, .inl (0, 108, .inl X.2.1.1.2)), (taz3, .inl (0, 108, .inl X.2.1.1.1.2.1)), (taz4, .inl (0, 108, .inl X.2.1.1.1.2.2.1)), (taz5, .inl (0, 108, .inl X.2.1.2.1)), (taz6, .inl (0, 108, .inl X.2.1.2.2)), (ta4, .inl (2, 108, .inl X.2.2.1)), (ta5, .inl (2, 108, .inl X.2.2.2.1)), (ta6, .inl (0, 108, .inl (fun k => nI (X.2.2.2.2 k))))]) (is := [0, 1, 2, 3, 4, 5, 6, 7, 8, 9, 10, 11, 12, 13]) (q0 := 0) rfl rfl ln_Lw_47 w_im_Ip_shrunk w_se_Ip_shrunk ok_Lw_shrunk_Ip_shrunk d_Lw_shrunk_4 (C_Ip_shrunkN g a pa ta sa gs co fu la gy du re wm ac ta1 ta2 taz taz1 taz2 taz3 taz4 taz5 taz6 ta4 ta5 ta6 X h hh) rfl rfl (Nat.le_of_ble_eq_true rfl) rfl (by decide) (by omega) (by omega) (fun E cs1 hx => ?_) (fun v cs1 hx => ?_)
  · exact absurd hx.1 (by simp)
  · obtain ⟨e1, rfl⟩ := hx
    cases e1
    refine ⟨rfl, ?_⟩
    refine r_st (st2 := [.int (nI (shN (frT h X))), .int 0, .ref ou]) rfl ?_
    refine r_cs (cs2 := [(a, .inr (11, [.ref pa, .ref ta, .ref sa, .ref gs, .ref co, .ref fu, .ref la, .ref gy, .ref du, .ref re, .ref wm, .ref ac])), (ta, .inr (10, [.ref ta1, .ref ta2, .ref taz, .ref ta4, .ref ta5, .ref ta6, .int ((frT h X).1.2.2.1), .int ((frT h X).1.2.2.2)])), (ta1, .inl (1, 108, .inl ((frT h X).1.1))), (ta2, .inl (0, 108, .inl ((frT h X).1.2.1))), (taz, .inr (2, [.ref taz1, .ref taz2, .ref taz3, .ref taz4, .ref taz5, .ref taz6, .int ((frT h X).2.1.1.1.2.2.2)])), (taz1, .inl (0, 108, .inl ((frT h X).2.1.1.1.1))), (taz2, .inl (0, 108, .inl ((frT h X).2.1.1.2))), (taz3, .inl (0, 108, .inl ((frT h X).2.1.1.1.2.1))), (taz4, .inl (0, 108, .inl ((frT h X).2.1.1.1.2.2.1))), (taz5, .inl (0, 108, .inl ((frT h X).2.1.2.1))), (taz6, .inl (0, 108, .inl ((frT h X).2.1.2.2))), (ta4, .inl (2, 108, .inl ((frT h X).2.2.1))), (ta5, .inl (2, 108, .inl ((frT h X).2.2.2.1))), (ta6, .inl (0, 108, .inl (fun k => nI ((frT h X).2.2.2.2 k)))), (ou, .inl (3, 1, .inr (.inl of)))]) rfl ?_
    refine r_i2l d_Lw_shrunk_7 (v := (nI (shN (frT h X))).toInt64) rfl ?_
    refine r_last d_Lw_shrunk_8 (q0 := 14) rfl (fun q => q.elim (by decide) (by decide)) (f' := vp_updL of 0 ((nI (shN (frT h X))).toInt64)) rfl (cs' := [(a, .inr (11, [.ref pa, .ref ta, .ref sa, .ref gs, .ref co, .ref fu, .ref la, .ref gy, .ref du, .ref re, .ref wm, .ref ac])), (ta, .inr (10, [.ref ta1, .ref ta2, .ref taz, .ref ta4, .ref ta5, .ref ta6, .int ((frT h X).1.2.2.1), .int ((frT h X).1.2.2.2)])), (ta1, .inl (1, 108, .inl ((frT h X).1.1))), (ta2, .inl (0, 108, .inl ((frT h X).1.2.1))), (taz, .inr (2, [.ref taz1, .ref taz2, .ref taz3, .ref taz4, .ref taz5, .ref taz6, .int ((frT h X).2.1.1.1.2.2.2)])), (taz1, .inl (0, 108, .inl ((frT h X).2.1.1.1.1))), (taz2, .inl (0, 108, .inl ((frT h X).2.1.1.2))), (taz3, .inl (0, 108, .inl ((frT h X).2.1.1.1.2.1))), (taz4, .inl (0, 108, .inl ((frT h X).2.1.1.1.2.2.1))), (taz5, .inl (0, 108, .inl ((frT h X).2.1.2.1))), (taz6, .inl (0, 108, .inl ((frT h X).2.1.2.2))), (ta4, .inl (2, 108, .inl ((frT h X).2.2.1))), (ta5, .inl (2, 108, .inl ((frT h X).2.2.2.1))), (ta6, .inl (0, 108, .inl (fun k => nI ((frT h X).2.2.2.2 k)))), (ou, .inl (3, 1, .inr (.inl (vp_updL of 0 ((nI (shN (frT h X))).toInt64)))))]) rfl ?_
    refine r_goto (tgt := 15) d_Lw_shrunk_9 (by decide) ?_
    refine r_iconst d_Lw_shrunk_15 (v := 0) (by decide) ?_
    refine r_iret d_Lw_shrunk_16 rfl rfl ?_
    exact ⟨rfl, rfl⟩
abbrev M_Lw_shrunkAnew : zM := (⟨"IronpourLaw", "shrunkAnew", "(LIronpour;I[J)I"⟩, method_12_code, 4, (Option.some FieldType.int), 8, 157, [((0 : Nat), (9 : Nat), (12 : Nat), (13 : Nat))])
theorem d_Lw_shrunkAnew_0 : decode method_12_code 0 = .ok (.aload_n 2, 1) := by decide +kernel
theorem d_Lw_shrunkAnew_1 : decode method_12_code 1 = .ok (.iconst 0, 1) := by decide +kernel
theorem d_Lw_shrunkAnew_2 : decode method_12_code 2 = .ok (.aload_n 0, 1) := by decide +kernel
theorem d_Lw_shrunkAnew_3 : decode method_12_code 3 = .ok (.iload_n 1, 1) := by decide +kernel
theorem d_Lw_shrunkAnew_4 : decode method_12_code 4 = .ok (.invokevirtual 50, 3) := by decide +kernel
theorem ok_Lw_shrunkAnew_Ip_shrunkAnew : z_okH M_Lw_shrunkAnew M_Ip_shrunkAnew 1 := ⟨z_mem (i := 912) (by decide +kernel) (by decide +kernel), rfl, ⟨by decide +kernel, by decide +kernel, by decide +kernel⟩, ⟨by decide, by decide⟩, z_mem (i := 58) (by decide +kernel) (by decide +kernel)⟩
theorem ln_Lw_50 : Cond.methodLink "IronpourLaw" 50 M_Ip_shrunkAnew.1 ∈ z_gw := z_mem (i := 909) (by decide +kernel) (by decide +kernel)
theorem w_im_Ip_shrunkAnew : Cond.instanceMethod M_Ip_shrunkAnew.1 ∈ z_gw := z_mem (i := 910) (by decide +kernel) (by decide +kernel)
theorem w_se_Ip_shrunkAnew : Cond.selects M_Ip_shrunkAnew.1.cls M_Ip_shrunkAnew.1 M_Ip_shrunkAnew.1 ∈ z_gw := z_mem (i := 911) (by decide +kernel) (by decide +kernel)
theorem d_Lw_shrunkAnew_12 : decode method_12_code 12 = .ok (.astore_n 3, 1) := by decide +kernel
theorem d_Lw_shrunkAnew_13 : decode method_12_code 13 = .ok (.iconst 1, 1) := by decide +kernel
theorem d_Lw_shrunkAnew_14 : decode method_12_code 14 = .ok (.ireturn, 1) := by decide +kernel
set_option maxHeartbeats 4000000 in
set_option maxRecDepth 100000 in
theorem C_Lw_shrunkAnewE (g : zG) (a pa ta sa gs co fu la gy du re wm ac : Nat) (ta1 ta2 taz taz1 taz2 taz3 taz4 taz5 taz6 ta4 ta5 ta6 : Nat) (X : zTr) (h : Int32) (hh : ¬ (1200 ≤ h ∧ h ≤ 1500)) (ou : Nat) (of : Nat → Int64) : CT g M_Lw_shrunkAnew [.ref a, .int h, .ref ou] [(a, .inr (11, [.ref pa, .ref ta, .ref sa, .ref gs, .ref co, .ref fu, .ref la, .ref gy, .ref du, .ref re, .ref wm, .ref ac])), (ta, .inr (10, [.ref ta1, .ref ta2, .ref taz, .ref ta4, .ref ta5, .ref ta6, .int X.1.2.2.1, .int X.1.2.2.2])), (ta1, .inl (1, 108, .inl X.1.1)), (ta2, .inl (0, 108, .inl X.1.2.1)), (taz, .inr (2, [.ref taz1, .ref taz2, .ref taz3, .ref taz4, .ref taz5, .ref taz6, .int X.2.1.1.1.2.2.2])), (taz1, .inl (0, 108, .inl X.2.1.1.1.1)), (taz2, .inl (0, 108, .inl X.2.1.1.2)), (taz3, .inl (0, 108, .inl X.2.1.1.1.2.1)), (taz4, .inl (0, 108, .inl X.2.1.1.1.2.2.1)), (taz5, .inl (0, 108, .inl X.2.1.2.1)), (taz6, .inl (0, 108, .inl X.2.1.2.2)), (ta4, .inl (2, 108, .inl X.2.2.1)), (ta5, .inl (2, 108, .inl X.2.2.2.1)), (ta6, .inl (0, 108, .inl (fun k => nI (X.2.2.2.2 k)))), (ou, .inl (3, 1, .inr (.inl of)))] (fun o cs1 => o = .inl (some (.int 1)) ∧ cs1 = [(a, .inr (11, [.ref pa, .ref ta, .ref sa, .ref gs, .ref co, .ref fu, .ref la, .ref gy, .ref du, .ref re, .ref wm, .ref ac])), (ta, .inr (10, [.ref ta1, .ref ta2, .ref taz, .ref ta4, .ref ta5, .ref ta6, .int X.1.2.2.1, .int X.1.2.2.2])), (ta1, .inl (1, 108, .inl X.1.1)), (ta2, .inl (0, 108, .inl X.1.2.1)), (taz, .inr (2, [.ref taz1, .ref taz2, .ref taz3, .ref taz4, .ref taz5, .ref taz6, .int X.2.1.1.1.2.2.2])), (taz1, .inl (0, 108, .inl X.2.1.1.1.1)), (taz2, .inl (0, 108, .inl X.2.1.1.2)), (taz3, .inl (0, 108, .inl X.2.1.1.1.2.1)), (taz4, .inl (0, 108, .inl X.2.1.1.1.2.2.1)), (taz5, .inl (0, 108, .inl X.2.1.2.1)), (taz6, .inl (0, 108, .inl X.2.1.2.2)), (ta4, .inl (2, 108, .inl X.2.2.1)), (ta5, .inl (2, 108, .inl X.2.2.2.1)), (ta6, .inl (0, 108, .inl (fun k => nI (X.2.2.2.2 k)))), (ou, .inl (3, 1, .inr (.inl of)))]) 1 6 := by
  refine z_ofH (by decide) (by decide) (Nat.le_of_ble_eq_true rfl) (fun w0 => ?_)
  refine r_lvE (lv2 := [(0, .ref a), (1, .int h), (2, .ref ou)]) rfl ?_
  refine r_aload_n d_Lw_shrunkAnew_0 rfl 2 rfl ?_
  refine r_iconst d_Lw_shrunkAnew_1 (v := 0) (by decide) ?_
  refine r_aload_n d_Lw_shrunkAnew_2 rfl 0 rfl ?_
  refine r_iload_n d_Lw_shrunkAnew_3 rfl 1 rfl ?_
  refine r_callVH (As := [.int h]) (rest := [.int 0, .ref ou]) (csC := [(a, .inr (11, [.ref pa, .ref ta, .ref sa, .ref gs, .ref co, .ref fu, .ref la, .ref gy, .ref du, .ref re, .ref wm, .ref ac])), (ta, .inr (10, [.ref ta1, .ref ta2, .ref taz, .ref ta4, .ref ta5, .ref ta6, .int X.1.2.2.1, .int X.1.2.2.2])), (ta1, .inl (1, 108, .inl X.1.1)), (ta2, .inl (0, 108, .inl X.1.2.1)), (taz, .inr (2, [.ref taz1, .ref taz2, .ref taz3, .ref taz4, .ref taz5, .ref taz6, .int X.2.1.1.1.2.2.2])), (taz1, .inl (0, 108, .inl X.2.1.1.1.1)), (taz2, .inl (0, 108, .inl X.2.1.1.2)), (taz3, .inl (0, 108, .inl X.2.1.1.1.2.1)), (taz4, .inl (0, 108, .inl X.2.1.1.1.2.2.1)), (taz5, .inl (0, 108, .inl X.2.1.2.1)), (taz6, .inl (0, 108, .inl X.2.1.2.2)), (ta4, .inl (2, 108, .inl X.2.2.1)), (ta5, .inl (2, 108, .inl X.2.2.2.1)), (ta6, .inl (0, 108, .inl (fun k => nI (X.2.2.2.2 k))))]) (is := [0, 1, 2, 3, 4, 5, 6, 7, 8, 9, 10, 11, 12, 13]) (q0 := 0) rfl rfl ln_Lw_50 w_im_Ip_shrunkAnew w_se_Ip_shrunkAnew ok_Lw_shrunkAnew_Ip_shrunkAnew d_Lw_shrunkAnew_4 (C_Ip_shrunkAnewE g a pa ta sa gs co fu la gy du re wm ac ta1 ta2 taz taz1 taz2 taz3 taz4 taz5 taz6 ta4 ta5 ta6 X h hh) rfl rfl (Nat.le_of_ble_eq_true rfl) rfl (by decide) (by omega) (by omega) (fun E cs1 hx => ?_) (fun v cs1 hx => ?_)
  · obtain ⟨e1, rfl⟩ := hx
    cases e1
    refine ⟨rfl, "java/lang/IllegalArgumentException", [], [], (0, 9, 12, 13), rfl, (fun z hz => nomatch hz), by decide, by decide, lx_Lw_13, ce_13, fun qx => ?_⟩
    refine r_cs (cs2 := [(a, .inr (11, [.ref pa, .ref ta, .ref sa, .ref gs, .ref co, .ref fu, .ref la, .ref gy, .ref du, .ref re, .ref wm, .ref ac])), (ta, .inr (10, [.ref ta1, .ref ta2, .ref taz, .ref ta4, .ref ta5, .ref ta6, .int X.1.2.2.1, .int X.1.2.2.2])), (ta1, .inl (1, 108, .inl X.1.1)), (ta2, .inl (0, 108, .inl X.1.2.1)), (taz, .inr (2, [.ref taz1, .ref taz2, .ref taz3, .ref taz4, .ref taz5, .ref taz6, .int X.2.1.1.1.2.2.2])), (taz1, .inl (0, 108, .inl X.2.1.1.1.1)), (taz2, .inl (0, 108, .inl X.2.1.1.2)), (taz3, .inl (0, 108, .inl X.2.1.1.1.2.1)), (taz4, .inl (0, 108, .inl X.2.1.1.1.2.2.1)), (taz5, .inl (0, 108, .inl X.2.1.2.1)), (taz6, .inl (0, 108, .inl X.2.1.2.2)), (ta4, .inl (2, 108, .inl X.2.2.1)), (ta5, .inl (2, 108, .inl X.2.2.2.1)), (ta6, .inl (0, 108, .inl (fun k => nI (X.2.2.2.2 k)))), (ou, .inl (3, 1, .inr (.inl of)))]) rfl ?_
    refine r_astore_n (lv' := [(3, .ref qx), (0, .ref a), (1, .int h), (2, .ref ou)]) d_Lw_shrunkAnew_12 rfl (by decide) rfl ?_
    refine r_iconst d_Lw_shrunkAnew_13 (v := 1) (by decide) ?_
    refine r_iret d_Lw_shrunkAnew_14 rfl rfl ?_
    exact ⟨rfl, rfl⟩
  · exact absurd hx.1 (by simp)
theorem d_Lw_shrunkAnew_7 : decode method_12_code 7 = .ok (.i2l, 1) := by decide +kernel
theorem d_Lw_shrunkAnew_8 : decode method_12_code 8 = .ok (.lastore, 1) := by decide +kernel
theorem d_Lw_shrunkAnew_9 : decode method_12_code 9 = .ok (.goto 6, 3) := by decide +kernel
theorem d_Lw_shrunkAnew_15 : decode method_12_code 15 = .ok (.iconst 0, 1) := by decide +kernel
theorem d_Lw_shrunkAnew_16 : decode method_12_code 16 = .ok (.ireturn, 1) := by decide +kernel
set_option maxHeartbeats 4000000 in
set_option maxRecDepth 100000 in
theorem C_Lw_shrunkAnewN (g : zG) (a pa ta sa gs co fu la gy du re wm ac : Nat) (ta1 ta2 taz taz1 taz2 taz3 taz4 taz5 taz6 ta4 ta5 ta6 : Nat) (X : zTr) (h : Int32) (hh : 1200 ≤ h ∧ h ≤ 1500) (ou : Nat) (of : Nat → Int64) : CT g M_Lw_shrunkAnew [.ref a, .int h, .ref ou] [(a, .inr (11, [.ref pa, .ref ta, .ref sa, .ref gs, .ref co, .ref fu, .ref la, .ref gy, .ref du, .ref re, .ref wm, .ref ac])), (ta, .inr (10, [.ref ta1, .ref ta2, .ref taz, .ref ta4, .ref ta5, .ref ta6, .int X.1.2.2.1, .int X.1.2.2.2])), (ta1, .inl (1, 108, .inl X.1.1)), (ta2, .inl (0, 108, .inl X.1.2.1)), (taz, .inr (2, [.ref taz1, .ref taz2, .ref taz3, .ref taz4, .ref taz5, .ref taz6, .int X.2.1.1.1.2.2.2])), (taz1, .inl (0, 108, .inl X.2.1.1.1.1)), (taz2, .inl (0, 108, .inl X.2.1.1.2)), (taz3, .inl (0, 108, .inl X.2.1.1.1.2.1)), (taz4, .inl (0, 108, .inl X.2.1.1.1.2.2.1)), (taz5, .inl (0, 108, .inl X.2.1.2.1)), (taz6, .inl (0, 108, .inl X.2.1.2.2)), (ta4, .inl (2, 108, .inl X.2.2.1)), (ta5, .inl (2, 108, .inl X.2.2.2.1)), (ta6, .inl (0, 108, .inl (fun k => nI (X.2.2.2.2 k)))), (ou, .inl (3, 1, .inr (.inl of)))] (fun o cs1 => o = .inl (some (.int 0)) ∧ cs1 = [(a, .inr (11, [.ref pa, .ref ta, .ref sa, .ref gs, .ref co, .ref fu, .ref la, .ref gy, .ref du, .ref re, .ref wm, .ref ac])), (ta, .inr (10, [.ref ta1, .ref ta2, .ref taz, .ref ta4, .ref ta5, .ref ta6, .int ((swT (frT h X) (cwX (frT h X)).1 (cwX (frT h X)).2.1).1.2.2.1), .int ((swT (frT h X) (cwX (frT h X)).1 (cwX (frT h X)).2.1).1.2.2.2)])), (ta1, .inl (1, 108, .inl ((swT (frT h X) (cwX (frT h X)).1 (cwX (frT h X)).2.1).1.1))), (ta2, .inl (0, 108, .inl ((swT (frT h X) (cwX (frT h X)).1 (cwX (frT h X)).2.1).1.2.1))), (taz, .inr (2, [.ref taz1, .ref taz2, .ref taz3, .ref taz4, .ref taz5, .ref taz6, .int ((swT (frT h X) (cwX (frT h X)).1 (cwX (frT h X)).2.1).2.1.1.1.2.2.2)])), (taz1, .inl (0, 108, .inl ((swT (frT h X) (cwX (frT h X)).1 (cwX (frT h X)).2.1).2.1.1.1.1))), (taz2, .inl (0, 108, .inl ((swT (frT h X) (cwX (frT h X)).1 (cwX (frT h X)).2.1).2.1.1.2))), (taz3, .inl (0, 108, .inl ((swT (frT h X) (cwX (frT h X)).1 (cwX (frT h X)).2.1).2.1.1.1.2.1))), (taz4, .inl (0, 108, .inl ((swT (frT h X) (cwX (frT h X)).1 (cwX (frT h X)).2.1).2.1.1.1.2.2.1))), (taz5, .inl (0, 108, .inl ((swT (frT h X) (cwX (frT h X)).1 (cwX (frT h X)).2.1).2.1.2.1))), (taz6, .inl (0, 108, .inl ((swT (frT h X) (cwX (frT h X)).1 (cwX (frT h X)).2.1).2.1.2.2))), (ta4, .inl (2, 108, .inl ((swT (frT h X) (cwX (frT h X)).1 (cwX (frT h X)).2.1).2.2.1))), (ta5, .inl (2, 108, .inl ((swT (frT h X) (cwX (frT h X)).1 (cwX (frT h X)).2.1).2.2.2.1))), (ta6, .inl (0, 108, .inl (fun k => nI ((swT (frT h X) (cwX (frT h X)).1 (cwX (frT h X)).2.1).2.2.2.2 k)))), (ou, .inl (3, 1, .inr (.inl (vp_updL of 0 ((nI (cwX (frT h X)).2.2)).toInt64))))]) 1 6 := by
  refine z_ofH (by decide) (by decide) (Nat.le_of_ble_eq_true rfl) (fun w0 => ?_)
  refine r_lvE (lv2 := [(0, .ref a), (1, .int h), (2, .ref ou)]) rfl ?_
  refine r_aload_n d_Lw_shrunkAnew_0 rfl 2 rfl ?_
  refine r_iconst d_Lw_shrunkAnew_1 (v := 0) (by decide) ?_
  refine r_aload_n d_Lw_shrunkAnew_2 rfl 0 rfl ?_
  refine r_iload_n d_Lw_shrunkAnew_3 rfl 1 rfl ?_
  refine r_callVH (As := [.int h]) (rest := [.int 0, .ref ou]) (csC := [(a, .inr (11, [.ref pa, .ref ta, .ref sa, .ref gs, .ref co, .ref fu, .ref la, .ref gy, .ref du, .ref re, .ref wm, .ref ac])), (ta, .inr (10, [.ref ta1, .ref ta2, .ref taz, .ref ta4, .ref ta5, .ref ta6, .int X.1.2.2.1, .int X.1.2.2.2])), (ta1, .inl (1, 108, .inl X.1.1)), (ta2, .inl (0, 108, .inl X.1.2.1)), (taz, .inr (2, [.ref taz1, .ref taz2, .ref taz3, .ref taz4, .ref taz5, .ref taz6, .int X.2.1.1.1.2.2.2])), (taz1, .inl (0, 108, .inl X.2.1.1.1.1)), (taz2, .inl (0, 108, .inl X.2.1.1.2)), (taz3, .inl (0, 108, .inl X.2.1.1.1.2.1)), (taz4, .inl (0, 108, .inl X.2.1.1.1.2.2.1)), (taz5, .inl (0, 108, .inl X.2.1.2.1)), (taz6, .inl (0, 108, .inl X.2.1.2.2)), (ta4, .inl (2, 108, .inl X.2.2.1)), (ta5, .inl (2, 108, .inl X.2.2.2.1)), (ta6, .inl (0, 108, .inl (fun k => nI (X.2.2.2.2 k))))]) (is := [0, 1, 2, 3, 4, 5, 6, 7, 8, 9, 10, 11, 12, 13]) (q0 := 0) rfl rfl ln_Lw_50 w_im_Ip_shrunkAnew w_se_Ip_shrunkAnew ok_Lw_shrunkAnew_Ip_shrunkAnew d_Lw_shrunkAnew_4 (C_Ip_shrunkAnewN g a pa ta sa gs co fu la gy du re wm ac ta1 ta2 taz taz1 taz2 taz3 taz4 taz5 taz6 ta4 ta5 ta6 X h hh) rfl rfl (Nat.le_of_ble_eq_true rfl) rfl (by decide) (by omega) (by omega) (fun E cs1 hx => ?_) (fun v cs1 hx => ?_)
  · exact absurd hx.1 (by simp)
  · obtain ⟨e1, rfl⟩ := hx
    cases e1
    refine ⟨rfl, ?_⟩
    refine r_st (st2 := [.int (nI (cwX (frT h X)).2.2), .int 0, .ref ou]) rfl ?_
    refine r_cs (cs2 := [(a, .inr (11, [.ref pa, .ref ta, .ref sa, .ref gs, .ref co, .ref fu, .ref la, .ref gy, .ref du, .ref re, .ref wm, .ref ac])), (ta, .inr (10, [.ref ta1, .ref ta2, .ref taz, .ref ta4, .ref ta5, .ref ta6, .int ((swT (frT h X) (cwX (frT h X)).1 (cwX (frT h X)).2.1).1.2.2.1), .int ((swT (frT h X) (cwX (frT h X)).1 (cwX (frT h X)).2.1).1.2.2.2)])), (ta1, .inl (1, 108, .inl ((swT (frT h X) (cwX (frT h X)).1 (cwX (frT h X)).2.1).1.1))), (ta2, .inl (0, 108, .inl ((swT (frT h X) (cwX (frT h X)).1 (cwX (frT h X)).2.1).1.2.1))), (taz, .inr (2, [.ref taz1, .ref taz2, .ref taz3, .ref taz4, .ref taz5, .ref taz6, .int ((swT (frT h X) (cwX (frT h X)).1 (cwX (frT h X)).2.1).2.1.1.1.2.2.2)])), (taz1, .inl (0, 108, .inl ((swT (frT h X) (cwX (frT h X)).1 (cwX (frT h X)).2.1).2.1.1.1.1))), (taz2, .inl (0, 108, .inl ((swT (frT h X) (cwX (frT h X)).1 (cwX (frT h X)).2.1).2.1.1.2))), (taz3, .inl (0, 108, .inl ((swT (frT h X) (cwX (frT h X)).1 (cwX (frT h X)).2.1).2.1.1.1.2.1))), (taz4, .inl (0, 108, .inl ((swT (frT h X) (cwX (frT h X)).1 (cwX (frT h X)).2.1).2.1.1.1.2.2.1))), (taz5, .inl (0, 108, .inl ((swT (frT h X) (cwX (frT h X)).1 (cwX (frT h X)).2.1).2.1.2.1))), (taz6, .inl (0, 108, .inl ((swT (frT h X) (cwX (frT h X)).1 (cwX (frT h X)).2.1).2.1.2.2))), (ta4, .inl (2, 108, .inl ((swT (frT h X) (cwX (frT h X)).1 (cwX (frT h X)).2.1).2.2.1))), (ta5, .inl (2, 108, .inl ((swT (frT h X) (cwX (frT h X)).1 (cwX (frT h X)).2.1).2.2.2.1))), (ta6, .inl (0, 108, .inl (fun k => nI ((swT (frT h X) (cwX (frT h X)).1 (cwX (frT h X)).2.1).2.2.2.2 k)))), (ou, .inl (3, 1, .inr (.inl of)))]) rfl ?_
    refine r_i2l d_Lw_shrunkAnew_7 (v := (nI (cwX (frT h X)).2.2).toInt64) rfl ?_
    refine r_last d_Lw_shrunkAnew_8 (q0 := 14) rfl (fun q => q.elim (by decide) (by decide)) (f' := vp_updL of 0 ((nI (cwX (frT h X)).2.2).toInt64)) rfl (cs' := [(a, .inr (11, [.ref pa, .ref ta, .ref sa, .ref gs, .ref co, .ref fu, .ref la, .ref gy, .ref du, .ref re, .ref wm, .ref ac])), (ta, .inr (10, [.ref ta1, .ref ta2, .ref taz, .ref ta4, .ref ta5, .ref ta6, .int ((swT (frT h X) (cwX (frT h X)).1 (cwX (frT h X)).2.1).1.2.2.1), .int ((swT (frT h X) (cwX (frT h X)).1 (cwX (frT h X)).2.1).1.2.2.2)])), (ta1, .inl (1, 108, .inl ((swT (frT h X) (cwX (frT h X)).1 (cwX (frT h X)).2.1).1.1))), (ta2, .inl (0, 108, .inl ((swT (frT h X) (cwX (frT h X)).1 (cwX (frT h X)).2.1).1.2.1))), (taz, .inr (2, [.ref taz1, .ref taz2, .ref taz3, .ref taz4, .ref taz5, .ref taz6, .int ((swT (frT h X) (cwX (frT h X)).1 (cwX (frT h X)).2.1).2.1.1.1.2.2.2)])), (taz1, .inl (0, 108, .inl ((swT (frT h X) (cwX (frT h X)).1 (cwX (frT h X)).2.1).2.1.1.1.1))), (taz2, .inl (0, 108, .inl ((swT (frT h X) (cwX (frT h X)).1 (cwX (frT h X)).2.1).2.1.1.2))), (taz3, .inl (0, 108, .inl ((swT (frT h X) (cwX (frT h X)).1 (cwX (frT h X)).2.1).2.1.1.1.2.1))), (taz4, .inl (0, 108, .inl ((swT (frT h X) (cwX (frT h X)).1 (cwX (frT h X)).2.1).2.1.1.1.2.2.1))), (taz5, .inl (0, 108, .inl ((swT (frT h X) (cwX (frT h X)).1 (cwX (frT h X)).2.1).2.1.2.1))), (taz6, .inl (0, 108, .inl ((swT (frT h X) (cwX (frT h X)).1 (cwX (frT h X)).2.1).2.1.2.2))), (ta4, .inl (2, 108, .inl ((swT (frT h X) (cwX (frT h X)).1 (cwX (frT h X)).2.1).2.2.1))), (ta5, .inl (2, 108, .inl ((swT (frT h X) (cwX (frT h X)).1 (cwX (frT h X)).2.1).2.2.2.1))), (ta6, .inl (0, 108, .inl (fun k => nI ((swT (frT h X) (cwX (frT h X)).1 (cwX (frT h X)).2.1).2.2.2.2 k)))), (ou, .inl (3, 1, .inr (.inl (vp_updL of 0 ((nI (cwX (frT h X)).2.2).toInt64)))))]) rfl ?_
    refine r_goto (tgt := 15) d_Lw_shrunkAnew_9 (by decide) ?_
    refine r_iconst d_Lw_shrunkAnew_15 (v := 0) (by decide) ?_
    refine r_iret d_Lw_shrunkAnew_16 rfl rfl ?_
    exact ⟨rfl, rfl⟩
abbrev M_Lw_lastPlace : zM := (⟨"IronpourLaw", "lastPlace", "(LIronpour;I[J)I"⟩, method_13_code, 4, (Option.some FieldType.int), 8, 158, [((0 : Nat), (9 : Nat), (12 : Nat), (13 : Nat)), ((0 : Nat), (9 : Nat), (15 : Nat), (33 : Nat))])
theorem d_Lw_lastPlace_0 : decode method_13_code 0 = .ok (.aload_n 2, 1) := by decide +kernel
theorem d_Lw_lastPlace_1 : decode method_13_code 1 = .ok (.iconst 0, 1) := by decide +kernel
theorem d_Lw_lastPlace_2 : decode method_13_code 2 = .ok (.aload_n 0, 1) := by decide +kernel
theorem d_Lw_lastPlace_3 : decode method_13_code 3 = .ok (.iload_n 1, 1) := by decide +kernel
theorem d_Lw_lastPlace_4 : decode method_13_code 4 = .ok (.invokevirtual 53, 3) := by decide +kernel
theorem ok_Lw_lastPlace_Ip_lastPlace : z_okH M_Lw_lastPlace M_Ip_lastPlace 1 := ⟨z_mem (i := 923) (by decide +kernel) (by decide +kernel), rfl, ⟨by decide +kernel, by decide +kernel, by decide +kernel⟩, ⟨by decide, by decide⟩, z_mem (i := 58) (by decide +kernel) (by decide +kernel)⟩
theorem ln_Lw_53 : Cond.methodLink "IronpourLaw" 53 M_Ip_lastPlace.1 ∈ z_gw := z_mem (i := 920) (by decide +kernel) (by decide +kernel)
theorem w_im_Ip_lastPlace : Cond.instanceMethod M_Ip_lastPlace.1 ∈ z_gw := z_mem (i := 921) (by decide +kernel) (by decide +kernel)
theorem w_se_Ip_lastPlace : Cond.selects M_Ip_lastPlace.1.cls M_Ip_lastPlace.1 M_Ip_lastPlace.1 ∈ z_gw := z_mem (i := 922) (by decide +kernel) (by decide +kernel)
theorem d_Lw_lastPlace_12 : decode method_13_code 12 = .ok (.astore_n 3, 1) := by decide +kernel
theorem d_Lw_lastPlace_13 : decode method_13_code 13 = .ok (.iconst 1, 1) := by decide +kernel
theorem d_Lw_lastPlace_14 : decode method_13_code 14 = .ok (.ireturn, 1) := by decide +kernel
set_option maxHeartbeats 4000000 in
set_option maxRecDepth 100000 in
theorem C_Lw_lastPlaceE (g : zG) (a pa ta sa gs co fu la gy du re wm ac : Nat) (ta1 ta2 taz taz1 taz2 taz3 taz4 taz5 taz6 ta4 ta5 ta6 : Nat) (X : zTr) (h : Int32) (hh : ¬ (1200 ≤ h ∧ h ≤ 1500)) (ou : Nat) (of : Nat → Int64) : CT g M_Lw_lastPlace [.ref a, .int h, .ref ou] [(a, .inr (11, [.ref pa, .ref ta, .ref sa, .ref gs, .ref co, .ref fu, .ref la, .ref gy, .ref du, .ref re, .ref wm, .ref ac])), (ta, .inr (10, [.ref ta1, .ref ta2, .ref taz, .ref ta4, .ref ta5, .ref ta6, .int X.1.2.2.1, .int X.1.2.2.2])), (ta1, .inl (1, 108, .inl X.1.1)), (ta2, .inl (0, 108, .inl X.1.2.1)), (taz, .inr (2, [.ref taz1, .ref taz2, .ref taz3, .ref taz4, .ref taz5, .ref taz6, .int X.2.1.1.1.2.2.2])), (taz1, .inl (0, 108, .inl X.2.1.1.1.1)), (taz2, .inl (0, 108, .inl X.2.1.1.2)), (taz3, .inl (0, 108, .inl X.2.1.1.1.2.1)), (taz4, .inl (0, 108, .inl X.2.1.1.1.2.2.1)), (taz5, .inl (0, 108, .inl X.2.1.2.1)), (taz6, .inl (0, 108, .inl X.2.1.2.2)), (ta4, .inl (2, 108, .inl X.2.2.1)), (ta5, .inl (2, 108, .inl X.2.2.2.1)), (ta6, .inl (0, 108, .inl (fun k => nI (X.2.2.2.2 k)))), (ou, .inl (3, 1, .inr (.inl of)))] (fun o cs1 => o = .inl (some (.int 1)) ∧ cs1 = [(a, .inr (11, [.ref pa, .ref ta, .ref sa, .ref gs, .ref co, .ref fu, .ref la, .ref gy, .ref du, .ref re, .ref wm, .ref ac])), (ta, .inr (10, [.ref ta1, .ref ta2, .ref taz, .ref ta4, .ref ta5, .ref ta6, .int X.1.2.2.1, .int X.1.2.2.2])), (ta1, .inl (1, 108, .inl X.1.1)), (ta2, .inl (0, 108, .inl X.1.2.1)), (taz, .inr (2, [.ref taz1, .ref taz2, .ref taz3, .ref taz4, .ref taz5, .ref taz6, .int X.2.1.1.1.2.2.2])), (taz1, .inl (0, 108, .inl X.2.1.1.1.1)), (taz2, .inl (0, 108, .inl X.2.1.1.2)), (taz3, .inl (0, 108, .inl X.2.1.1.1.2.1)), (taz4, .inl (0, 108, .inl X.2.1.1.1.2.2.1)), (taz5, .inl (0, 108, .inl X.2.1.2.1)), (taz6, .inl (0, 108, .inl X.2.1.2.2)), (ta4, .inl (2, 108, .inl X.2.2.1)), (ta5, .inl (2, 108, .inl X.2.2.2.1)), (ta6, .inl (0, 108, .inl (fun k => nI (X.2.2.2.2 k)))), (ou, .inl (3, 1, .inr (.inl of)))]) 1 6 := by
  refine z_ofH (by decide) (by decide) (Nat.le_of_ble_eq_true rfl) (fun w0 => ?_)
  refine r_lvE (lv2 := [(0, .ref a), (1, .int h), (2, .ref ou)]) rfl ?_
  refine r_aload_n d_Lw_lastPlace_0 rfl 2 rfl ?_
  refine r_iconst d_Lw_lastPlace_1 (v := 0) (by decide) ?_
  refine r_aload_n d_Lw_lastPlace_2 rfl 0 rfl ?_
  refine r_iload_n d_Lw_lastPlace_3 rfl 1 rfl ?_
  refine r_callVH (As := [.int h]) (rest := [.int 0, .ref ou]) (csC := [(a, .inr (11, [.ref pa, .ref ta, .ref sa, .ref gs, .ref co, .ref fu, .ref la, .ref gy, .ref du, .ref re, .ref wm, .ref ac])), (ta, .inr (10, [.ref ta1, .ref ta2, .ref taz, .ref ta4, .ref ta5, .ref ta6, .int X.1.2.2.1, .int X.1.2.2.2])), (ta1, .inl (1, 108, .inl X.1.1)), (ta2, .inl (0, 108, .inl X.1.2.1)), (taz, .inr (2, [.ref taz1, .ref taz2, .ref taz3, .ref taz4, .ref taz5, .ref taz6, .int X.2.1.1.1.2.2.2])), (taz1, .inl (0, 108, .inl X.2.1.1.1.1)), (taz2, .inl (0, 108, .inl X.2.1.1.2)), (taz3, .inl (0, 108, .inl X.2.1.1.1.2.1)), (taz4, .inl (0, 108, .inl X.2.1.1.1.2.2.1)), (taz5, .inl (0, 108, .inl X.2.1.2.1)), (taz6, .inl (0, 108, .inl X.2.1.2.2)), (ta4, .inl (2, 108, .inl X.2.2.1)), (ta5, .inl (2, 108, .inl X.2.2.2.1)), (ta6, .inl (0, 108, .inl (fun k => nI (X.2.2.2.2 k))))]) (is := [0, 1, 2, 3, 4, 5, 6, 7, 8, 9, 10, 11, 12, 13]) (q0 := 0) rfl rfl ln_Lw_53 w_im_Ip_lastPlace w_se_Ip_lastPlace ok_Lw_lastPlace_Ip_lastPlace d_Lw_lastPlace_4 (C_Ip_lastPlaceE g a pa ta sa gs co fu la gy du re wm ac ta1 ta2 taz taz1 taz2 taz3 taz4 taz5 taz6 ta4 ta5 ta6 X h hh) rfl rfl (Nat.le_of_ble_eq_true rfl) rfl (by decide) (by omega) (by omega) (fun E cs1 hx => ?_) (fun v cs1 hx => ?_)
  · obtain ⟨e1, rfl⟩ := hx
    cases e1
    refine ⟨rfl, "java/lang/IllegalArgumentException", [], [(0, 9, 15, 33)], (0, 9, 12, 13), rfl, (fun z hz => nomatch hz), by decide, by decide, lx_Lw_13, ce_13, fun qx => ?_⟩
    refine r_cs (cs2 := [(a, .inr (11, [.ref pa, .ref ta, .ref sa, .ref gs, .ref co, .ref fu, .ref la, .ref gy, .ref du, .ref re, .ref wm, .ref ac])), (ta, .inr (10, [.ref ta1, .ref ta2, .ref taz, .ref ta4, .ref ta5, .ref ta6, .int X.1.2.2.1, .int X.1.2.2.2])), (ta1, .inl (1, 108, .inl X.1.1)), (ta2, .inl (0, 108, .inl X.1.2.1)), (taz, .inr (2, [.ref taz1, .ref taz2, .ref taz3, .ref taz4, .ref taz5, .ref taz6, .int X.2.1.1.1.2.2.2])), (taz1, .inl (0, 108, .inl X.2.1.1.1.1)), (taz2, .inl (0, 108, .inl X.2.1.1.2)), (taz3, .inl (0, 108, .inl X.2.1.1.1.2.1)), (taz4, .inl (0, 108, .inl X.2.1.1.1.2.2.1)), (taz5, .inl (0, 108, .inl X.2.1.2.1)), (taz6, .inl (0, 108, .inl X.2.1.2.2)), (ta4, .inl (2, 108, .inl X.2.2.1)), (ta5, .inl (2, 108, .inl X.2.2.2.1)), (ta6, .inl (0, 108, .inl (fun k => nI (X.2.2.2.2 k)))), (ou, .inl (3, 1, .inr (.inl of)))]) rfl ?_
    refine r_astore_n (lv' := [(3, .ref qx), (0, .ref a), (1, .int h), (2, .ref ou)]) d_Lw_lastPlace_12 rfl (by decide) rfl ?_
    refine r_iconst d_Lw_lastPlace_13 (v := 1) (by decide) ?_
    refine r_iret d_Lw_lastPlace_14 rfl rfl ?_
    exact ⟨rfl, rfl⟩
  · exact absurd hx.1 (by simp)
theorem d_Lw_lastPlace_15 : decode method_13_code 15 = .ok (.astore_n 3, 1) := by decide +kernel
theorem d_Lw_lastPlace_16 : decode method_13_code 16 = .ok (.iconst 2, 1) := by decide +kernel
theorem d_Lw_lastPlace_17 : decode method_13_code 17 = .ok (.ireturn, 1) := by decide +kernel
set_option maxHeartbeats 4000000 in
set_option maxRecDepth 100000 in
theorem C_Lw_lastPlaceF (g : zG) (a pa ta sa gs co fu la gy du re wm ac : Nat) (ta1 ta2 taz taz1 taz2 taz3 taz4 taz5 taz6 ta4 ta5 ta6 : Nat) (X : zTr) (h : Int32) (hh : 1200 ≤ h ∧ h ≤ 1500) (hl : lfX (frT h X) < 0) (ou : Nat) (of : Nat → Int64) : CT g M_Lw_lastPlace [.ref a, .int h, .ref ou] [(a, .inr (11, [.ref pa, .ref ta, .ref sa, .ref gs, .ref co, .ref fu, .ref la, .ref gy, .ref du, .ref re, .ref wm, .ref ac])), (ta, .inr (10, [.ref ta1, .ref ta2, .ref taz, .ref ta4, .ref ta5, .ref ta6, .int X.1.2.2.1, .int X.1.2.2.2])), (ta1, .inl (1, 108, .inl X.1.1)), (ta2, .inl (0, 108, .inl X.1.2.1)), (taz, .inr (2, [.ref taz1, .ref taz2, .ref taz3, .ref taz4, .ref taz5, .ref taz6, .int X.2.1.1.1.2.2.2])), (taz1, .inl (0, 108, .inl X.2.1.1.1.1)), (taz2, .inl (0, 108, .inl X.2.1.1.2)), (taz3, .inl (0, 108, .inl X.2.1.1.1.2.1)), (taz4, .inl (0, 108, .inl X.2.1.1.1.2.2.1)), (taz5, .inl (0, 108, .inl X.2.1.2.1)), (taz6, .inl (0, 108, .inl X.2.1.2.2)), (ta4, .inl (2, 108, .inl X.2.2.1)), (ta5, .inl (2, 108, .inl X.2.2.2.1)), (ta6, .inl (0, 108, .inl (fun k => nI (X.2.2.2.2 k)))), (ou, .inl (3, 1, .inr (.inl of)))] (fun o cs1 => o = .inl (some (.int 2)) ∧ cs1 = [(a, .inr (11, [.ref pa, .ref ta, .ref sa, .ref gs, .ref co, .ref fu, .ref la, .ref gy, .ref du, .ref re, .ref wm, .ref ac])), (ta, .inr (10, [.ref ta1, .ref ta2, .ref taz, .ref ta4, .ref ta5, .ref ta6, .int ((frT h X).1.2.2.1), .int ((frT h X).1.2.2.2)])), (ta1, .inl (1, 108, .inl ((frT h X).1.1))), (ta2, .inl (0, 108, .inl ((frT h X).1.2.1))), (taz, .inr (2, [.ref taz1, .ref taz2, .ref taz3, .ref taz4, .ref taz5, .ref taz6, .int ((frT h X).2.1.1.1.2.2.2)])), (taz1, .inl (0, 108, .inl ((frT h X).2.1.1.1.1))), (taz2, .inl (0, 108, .inl ((frT h X).2.1.1.2))), (taz3, .inl (0, 108, .inl ((frT h X).2.1.1.1.2.1))), (taz4, .inl (0, 108, .inl ((frT h X).2.1.1.1.2.2.1))), (taz5, .inl (0, 108, .inl ((frT h X).2.1.2.1))), (taz6, .inl (0, 108, .inl ((frT h X).2.1.2.2))), (ta4, .inl (2, 108, .inl ((frT h X).2.2.1))), (ta5, .inl (2, 108, .inl ((frT h X).2.2.2.1))), (ta6, .inl (0, 108, .inl (fun k => nI ((frT h X).2.2.2.2 k)))), (ou, .inl (3, 1, .inr (.inl of)))]) 2 12 := by
  refine z_ofH (by decide) (by decide) (Nat.le_of_ble_eq_true rfl) (fun w0 => ?_)
  refine r_lvE (lv2 := [(0, .ref a), (1, .int h), (2, .ref ou)]) rfl ?_
  refine r_aload_n d_Lw_lastPlace_0 rfl 2 rfl ?_
  refine r_iconst d_Lw_lastPlace_1 (v := 0) (by decide) ?_
  refine r_aload_n d_Lw_lastPlace_2 rfl 0 rfl ?_
  refine r_iload_n d_Lw_lastPlace_3 rfl 1 rfl ?_
  refine r_callVH (As := [.int h]) (rest := [.int 0, .ref ou]) (csC := [(a, .inr (11, [.ref pa, .ref ta, .ref sa, .ref gs, .ref co, .ref fu, .ref la, .ref gy, .ref du, .ref re, .ref wm, .ref ac])), (ta, .inr (10, [.ref ta1, .ref ta2, .ref taz, .ref ta4, .ref ta5, .ref ta6, .int X.1.2.2.1, .int X.1.2.2.2])), (ta1, .inl (1, 108, .inl X.1.1)), (ta2, .inl (0, 108, .inl X.1.2.1)), (taz, .inr (2, [.ref taz1, .ref taz2, .ref taz3, .ref taz4, .ref taz5, .ref taz6, .int X.2.1.1.1.2.2.2])), (taz1, .inl (0, 108, .inl X.2.1.1.1.1)), (taz2, .inl (0, 108, .inl X.2.1.1.2)), (taz3, .inl (0, 108, .inl X.2.1.1.1.2.1)), (taz4, .inl (0, 108, .inl X.2.1.1.1.2.2.1)), (taz5, .inl (0, 108, .inl X.2.1.2.1)), (taz6, .inl (0, 108, .inl X.2.1.2.2)), (ta4, .inl (2, 108, .inl X.2.2.1)), (ta5, .inl (2, 108, .inl X.2.2.2.1)), (ta6, .inl (0, 108, .inl (fun k => nI (X.2.2.2.2 k))))]) (is := [0, 1, 2, 3, 4, 5, 6, 7, 8, 9, 10, 11, 12, 13]) (q0 := 0) rfl rfl ln_Lw_53 w_im_Ip_lastPlace w_se_Ip_lastPlace ok_Lw_lastPlace_Ip_lastPlace d_Lw_lastPlace_4 (C_Ip_lastPlaceF g a pa ta sa gs co fu la gy du re wm ac ta1 ta2 taz taz1 taz2 taz3 taz4 taz5 taz6 ta4 ta5 ta6 X h hh hl) rfl rfl (Nat.le_of_ble_eq_true rfl) rfl (by decide) (by omega) (by omega) (fun E cs1 hx => ?_) (fun v cs1 hx => ?_)
  · obtain ⟨e1, rfl⟩ := hx
    cases e1
    refine ⟨rfl, "java/util/NoSuchElementException", [(0, 9, 12, 13)], [], (0, 9, 15, 33), rfl, (fun z hz => by simp only [List.mem_cons, List.not_mem_nil, or_false] at hz; rcases hz with rfl; exact Or.inr ⟨by decide, _, lx_Lw_13, by decide⟩), by decide, by decide, lx_Lw_33, ce_33, fun qx => ?_⟩
    refine r_cs (cs2 := [(a, .inr (11, [.ref pa, .ref ta, .ref sa, .ref gs, .ref co, .ref fu, .ref la, .ref gy, .ref du, .ref re, .ref wm, .ref ac])), (ta, .inr (10, [.ref ta1, .ref ta2, .ref taz, .ref ta4, .ref ta5, .ref ta6, .int ((frT h X).1.2.2.1), .int ((frT h X).1.2.2.2)])), (ta1, .inl (1, 108, .inl ((frT h X).1.1))), (ta2, .inl (0, 108, .inl ((frT h X).1.2.1))), (taz, .inr (2, [.ref taz1, .ref taz2, .ref taz3, .ref taz4, .ref taz5, .ref taz6, .int ((frT h X).2.1.1.1.2.2.2)])), (taz1, .inl (0, 108, .inl ((frT h X).2.1.1.1.1))), (taz2, .inl (0, 108, .inl ((frT h X).2.1.1.2))), (taz3, .inl (0, 108, .inl ((frT h X).2.1.1.1.2.1))), (taz4, .inl (0, 108, .inl ((frT h X).2.1.1.1.2.2.1))), (taz5, .inl (0, 108, .inl ((frT h X).2.1.2.1))), (taz6, .inl (0, 108, .inl ((frT h X).2.1.2.2))), (ta4, .inl (2, 108, .inl ((frT h X).2.2.1))), (ta5, .inl (2, 108, .inl ((frT h X).2.2.2.1))), (ta6, .inl (0, 108, .inl (fun k => nI ((frT h X).2.2.2.2 k)))), (ou, .inl (3, 1, .inr (.inl of)))]) rfl ?_
    refine r_astore_n (lv' := [(3, .ref qx), (0, .ref a), (1, .int h), (2, .ref ou)]) d_Lw_lastPlace_15 rfl (by decide) rfl ?_
    refine r_iconst d_Lw_lastPlace_16 (v := 2) (by decide) ?_
    refine r_iret d_Lw_lastPlace_17 rfl rfl ?_
    exact ⟨rfl, rfl⟩
  · exact absurd hx.1 (by simp)
abbrev M_Lw_bestFeeder : zM := (⟨"IronpourLaw", "bestFeeder", "(LIronpour;I[J)I"⟩, method_14_code, 4, (Option.some FieldType.int), 8, 184, [((0 : Nat), (9 : Nat), (12 : Nat), (13 : Nat)), ((0 : Nat), (9 : Nat), (15 : Nat), (33 : Nat))])
theorem d_Lw_bestFeeder_0 : decode method_14_code 0 = .ok (.aload_n 2, 1) := by decide +kernel
theorem d_Lw_bestFeeder_1 : decode method_14_code 1 = .ok (.iconst 0, 1) := by decide +kernel
theorem d_Lw_bestFeeder_2 : decode method_14_code 2 = .ok (.aload_n 0, 1) := by decide +kernel
theorem d_Lw_bestFeeder_3 : decode method_14_code 3 = .ok (.iload_n 1, 1) := by decide +kernel
theorem d_Lw_bestFeeder_4 : decode method_14_code 4 = .ok (.invokevirtual 56, 3) := by decide +kernel
theorem ok_Lw_bestFeeder_Ip_bestFeeder : z_okH M_Lw_bestFeeder M_Ip_bestFeeder 1 := ⟨z_mem (i := 935) (by decide +kernel) (by decide +kernel), rfl, ⟨by decide +kernel, by decide +kernel, by decide +kernel⟩, ⟨by decide, by decide⟩, z_mem (i := 58) (by decide +kernel) (by decide +kernel)⟩
theorem ln_Lw_56 : Cond.methodLink "IronpourLaw" 56 M_Ip_bestFeeder.1 ∈ z_gw := z_mem (i := 932) (by decide +kernel) (by decide +kernel)
theorem w_im_Ip_bestFeeder : Cond.instanceMethod M_Ip_bestFeeder.1 ∈ z_gw := z_mem (i := 933) (by decide +kernel) (by decide +kernel)
theorem w_se_Ip_bestFeeder : Cond.selects M_Ip_bestFeeder.1.cls M_Ip_bestFeeder.1 M_Ip_bestFeeder.1 ∈ z_gw := z_mem (i := 934) (by decide +kernel) (by decide +kernel)
theorem d_Lw_bestFeeder_12 : decode method_14_code 12 = .ok (.astore_n 3, 1) := by decide +kernel
theorem d_Lw_bestFeeder_13 : decode method_14_code 13 = .ok (.iconst 1, 1) := by decide +kernel
theorem d_Lw_bestFeeder_14 : decode method_14_code 14 = .ok (.ireturn, 1) := by decide +kernel
set_option maxHeartbeats 4000000 in
set_option maxRecDepth 100000 in
theorem C_Lw_bestFeederE (g : zG) (a pa ta sa gs co fu la gy du re wm ac : Nat) (ta1 ta2 taz taz1 taz2 taz3 taz4 taz5 taz6 ta4 ta5 ta6 : Nat) (X : zTr) (h : Int32) (hh : ¬ (1200 ≤ h ∧ h ≤ 1500)) (ou : Nat) (of : Nat → Int64) : CT g M_Lw_bestFeeder [.ref a, .int h, .ref ou] [(a, .inr (11, [.ref pa, .ref ta, .ref sa, .ref gs, .ref co, .ref fu, .ref la, .ref gy, .ref du, .ref re, .ref wm, .ref ac])), (ta, .inr (10, [.ref ta1, .ref ta2, .ref taz, .ref ta4, .ref ta5, .ref ta6, .int X.1.2.2.1, .int X.1.2.2.2])), (ta1, .inl (1, 108, .inl X.1.1)), (ta2, .inl (0, 108, .inl X.1.2.1)), (taz, .inr (2, [.ref taz1, .ref taz2, .ref taz3, .ref taz4, .ref taz5, .ref taz6, .int X.2.1.1.1.2.2.2])), (taz1, .inl (0, 108, .inl X.2.1.1.1.1)), (taz2, .inl (0, 108, .inl X.2.1.1.2)), (taz3, .inl (0, 108, .inl X.2.1.1.1.2.1)), (taz4, .inl (0, 108, .inl X.2.1.1.1.2.2.1)), (taz5, .inl (0, 108, .inl X.2.1.2.1)), (taz6, .inl (0, 108, .inl X.2.1.2.2)), (ta4, .inl (2, 108, .inl X.2.2.1)), (ta5, .inl (2, 108, .inl X.2.2.2.1)), (ta6, .inl (0, 108, .inl (fun k => nI (X.2.2.2.2 k)))), (ou, .inl (3, 1, .inr (.inl of)))] (fun o cs1 => o = .inl (some (.int 1)) ∧ cs1 = [(a, .inr (11, [.ref pa, .ref ta, .ref sa, .ref gs, .ref co, .ref fu, .ref la, .ref gy, .ref du, .ref re, .ref wm, .ref ac])), (ta, .inr (10, [.ref ta1, .ref ta2, .ref taz, .ref ta4, .ref ta5, .ref ta6, .int X.1.2.2.1, .int X.1.2.2.2])), (ta1, .inl (1, 108, .inl X.1.1)), (ta2, .inl (0, 108, .inl X.1.2.1)), (taz, .inr (2, [.ref taz1, .ref taz2, .ref taz3, .ref taz4, .ref taz5, .ref taz6, .int X.2.1.1.1.2.2.2])), (taz1, .inl (0, 108, .inl X.2.1.1.1.1)), (taz2, .inl (0, 108, .inl X.2.1.1.2)), (taz3, .inl (0, 108, .inl X.2.1.1.1.2.1)), (taz4, .inl (0, 108, .inl X.2.1.1.1.2.2.1)), (taz5, .inl (0, 108, .inl X.2.1.2.1)), (taz6, .inl (0, 108, .inl X.2.1.2.2)), (ta4, .inl (2, 108, .inl X.2.2.1)), (ta5, .inl (2, 108, .inl X.2.2.2.1)), (ta6, .inl (0, 108, .inl (fun k => nI (X.2.2.2.2 k)))), (ou, .inl (3, 1, .inr (.inl of)))]) 1 6 := by
  refine z_ofH (by decide) (by decide) (Nat.le_of_ble_eq_true rfl) (fun w0 => ?_)
  refine r_lvE (lv2 := [(0, .ref a), (1, .int h), (2, .ref ou)]) rfl ?_
  refine r_aload_n d_Lw_bestFeeder_0 rfl 2 rfl ?_
  refine r_iconst d_Lw_bestFeeder_1 (v := 0) (by decide) ?_
  refine r_aload_n d_Lw_bestFeeder_2 rfl 0 rfl ?_
  refine r_iload_n d_Lw_bestFeeder_3 rfl 1 rfl ?_
  refine r_callVH (As := [.int h]) (rest := [.int 0, .ref ou]) (csC := [(a, .inr (11, [.ref pa, .ref ta, .ref sa, .ref gs, .ref co, .ref fu, .ref la, .ref gy, .ref du, .ref re, .ref wm, .ref ac])), (ta, .inr (10, [.ref ta1, .ref ta2, .ref taz, .ref ta4, .ref ta5, .ref ta6, .int X.1.2.2.1, .int X.1.2.2.2])), (ta1, .inl (1, 108, .inl X.1.1)), (ta2, .inl (0, 108, .inl X.1.2.1)), (taz, .inr (2, [.ref taz1, .ref taz2, .ref taz3, .ref taz4, .ref taz5, .ref taz6, .int X.2.1.1.1.2.2.2])), (taz1, .inl (0, 108, .inl X.2.1.1.1.1)), (taz2, .inl (0, 108, .inl X.2.1.1.2)), (taz3, .inl (0, 108, .inl X.2.1.1.1.2.1)), (taz4, .inl (0, 108, .inl X.2.1.1.1.2.2.1)), (taz5, .inl (0, 108, .inl X.2.1.2.1)), (taz6, .inl (0, 108, .inl X.2.1.2.2)), (ta4, .inl (2, 108, .inl X.2.2.1)), (ta5, .inl (2, 108, .inl X.2.2.2.1)), (ta6, .inl (0, 108, .inl (fun k => nI (X.2.2.2.2 k))))]) (is := [0, 1, 2, 3, 4, 5, 6, 7, 8, 9, 10, 11, 12, 13]) (q0 := 0) rfl rfl ln_Lw_56 w_im_Ip_bestFeeder w_se_Ip_bestFeeder ok_Lw_bestFeeder_Ip_bestFeeder d_Lw_bestFeeder_4 (C_Ip_bestFeederE g a pa ta sa gs co fu la gy du re wm ac ta1 ta2 taz taz1 taz2 taz3 taz4 taz5 taz6 ta4 ta5 ta6 X h hh) rfl rfl (Nat.le_of_ble_eq_true rfl) rfl (by decide) (by omega) (by omega) (fun E cs1 hx => ?_) (fun v cs1 hx => ?_)
  · obtain ⟨e1, rfl⟩ := hx
    cases e1
    refine ⟨rfl, "java/lang/IllegalArgumentException", [], [(0, 9, 15, 33)], (0, 9, 12, 13), rfl, (fun z hz => nomatch hz), by decide, by decide, lx_Lw_13, ce_13, fun qx => ?_⟩
    refine r_cs (cs2 := [(a, .inr (11, [.ref pa, .ref ta, .ref sa, .ref gs, .ref co, .ref fu, .ref la, .ref gy, .ref du, .ref re, .ref wm, .ref ac])), (ta, .inr (10, [.ref ta1, .ref ta2, .ref taz, .ref ta4, .ref ta5, .ref ta6, .int X.1.2.2.1, .int X.1.2.2.2])), (ta1, .inl (1, 108, .inl X.1.1)), (ta2, .inl (0, 108, .inl X.1.2.1)), (taz, .inr (2, [.ref taz1, .ref taz2, .ref taz3, .ref taz4, .ref taz5, .ref taz6, .int X.2.1.1.1.2.2.2])), (taz1, .inl (0, 108, .inl X.2.1.1.1.1)), (taz2, .inl (0, 108, .inl X.2.1.1.2)), (taz3, .inl (0, 108, .inl X.2.1.1.1.2.1)), (taz4, .inl (0, 108, .inl X.2.1.1.1.2.2.1)), (taz5, .inl (0, 108, .inl X.2.1.2.1)), (taz6, .inl (0, 108, .inl X.2.1.2.2)), (ta4, .inl (2, 108, .inl X.2.2.1)), (ta5, .inl (2, 108, .inl X.2.2.2.1)), (ta6, .inl (0, 108, .inl (fun k => nI (X.2.2.2.2 k)))), (ou, .inl (3, 1, .inr (.inl of)))]) rfl ?_
    refine r_astore_n (lv' := [(3, .ref qx), (0, .ref a), (1, .int h), (2, .ref ou)]) d_Lw_bestFeeder_12 rfl (by decide) rfl ?_
    refine r_iconst d_Lw_bestFeeder_13 (v := 1) (by decide) ?_
    refine r_iret d_Lw_bestFeeder_14 rfl rfl ?_
    exact ⟨rfl, rfl⟩
  · exact absurd hx.1 (by simp)
theorem d_Lw_bestFeeder_15 : decode method_14_code 15 = .ok (.astore_n 3, 1) := by decide +kernel
theorem d_Lw_bestFeeder_16 : decode method_14_code 16 = .ok (.iconst 2, 1) := by decide +kernel
theorem d_Lw_bestFeeder_17 : decode method_14_code 17 = .ok (.ireturn, 1) := by decide +kernel
set_option maxHeartbeats 4000000 in
set_option maxRecDepth 100000 in
theorem C_Lw_bestFeeder0 (g : zG) (a pa ta sa gs co fu la gy du re wm ac : Nat) (ta1 ta2 taz taz1 taz2 taz3 taz4 taz5 taz6 ta4 ta5 ta6 : Nat) (X : zTr) (h : Int32) (hh : 1200 ≤ h ∧ h ≤ 1500) (h0 : shN (frT h X) = 0) (ou : Nat) (of : Nat → Int64) : CT g M_Lw_bestFeeder [.ref a, .int h, .ref ou] [(a, .inr (11, [.ref pa, .ref ta, .ref sa, .ref gs, .ref co, .ref fu, .ref la, .ref gy, .ref du, .ref re, .ref wm, .ref ac])), (ta, .inr (10, [.ref ta1, .ref ta2, .ref taz, .ref ta4, .ref ta5, .ref ta6, .int X.1.2.2.1, .int X.1.2.2.2])), (ta1, .inl (1, 108, .inl X.1.1)), (ta2, .inl (0, 108, .inl X.1.2.1)), (taz, .inr (2, [.ref taz1, .ref taz2, .ref taz3, .ref taz4, .ref taz5, .ref taz6, .int X.2.1.1.1.2.2.2])), (taz1, .inl (0, 108, .inl X.2.1.1.1.1)), (taz2, .inl (0, 108, .inl X.2.1.1.2)), (taz3, .inl (0, 108, .inl X.2.1.1.1.2.1)), (taz4, .inl (0, 108, .inl X.2.1.1.1.2.2.1)), (taz5, .inl (0, 108, .inl X.2.1.2.1)), (taz6, .inl (0, 108, .inl X.2.1.2.2)), (ta4, .inl (2, 108, .inl X.2.2.1)), (ta5, .inl (2, 108, .inl X.2.2.2.1)), (ta6, .inl (0, 108, .inl (fun k => nI (X.2.2.2.2 k)))), (ou, .inl (3, 1, .inr (.inl of)))] (fun o cs1 => o = .inl (some (.int 2)) ∧ cs1 = [(a, .inr (11, [.ref pa, .ref ta, .ref sa, .ref gs, .ref co, .ref fu, .ref la, .ref gy, .ref du, .ref re, .ref wm, .ref ac])), (ta, .inr (10, [.ref ta1, .ref ta2, .ref taz, .ref ta4, .ref ta5, .ref ta6, .int ((frT h X).1.2.2.1), .int ((frT h X).1.2.2.2)])), (ta1, .inl (1, 108, .inl ((frT h X).1.1))), (ta2, .inl (0, 108, .inl ((frT h X).1.2.1))), (taz, .inr (2, [.ref taz1, .ref taz2, .ref taz3, .ref taz4, .ref taz5, .ref taz6, .int ((frT h X).2.1.1.1.2.2.2)])), (taz1, .inl (0, 108, .inl ((frT h X).2.1.1.1.1))), (taz2, .inl (0, 108, .inl ((frT h X).2.1.1.2))), (taz3, .inl (0, 108, .inl ((frT h X).2.1.1.1.2.1))), (taz4, .inl (0, 108, .inl ((frT h X).2.1.1.1.2.2.1))), (taz5, .inl (0, 108, .inl ((frT h X).2.1.2.1))), (taz6, .inl (0, 108, .inl ((frT h X).2.1.2.2))), (ta4, .inl (2, 108, .inl ((frT h X).2.2.1))), (ta5, .inl (2, 108, .inl ((frT h X).2.2.2.1))), (ta6, .inl (0, 108, .inl (fun k => nI ((frT h X).2.2.2.2 k)))), (ou, .inl (3, 1, .inr (.inl of)))]) 2 12 := by
  refine z_ofH (by decide) (by decide) (Nat.le_of_ble_eq_true rfl) (fun w0 => ?_)
  refine r_lvE (lv2 := [(0, .ref a), (1, .int h), (2, .ref ou)]) rfl ?_
  refine r_aload_n d_Lw_bestFeeder_0 rfl 2 rfl ?_
  refine r_iconst d_Lw_bestFeeder_1 (v := 0) (by decide) ?_
  refine r_aload_n d_Lw_bestFeeder_2 rfl 0 rfl ?_
  refine r_iload_n d_Lw_bestFeeder_3 rfl 1 rfl ?_
  refine r_callVH (As := [.int h]) (rest := [.int 0, .ref ou]) (csC := [(a, .inr (11, [.ref pa, .ref ta, .ref sa, .ref gs, .ref co, .ref fu, .ref la, .ref gy, .ref du, .ref re, .ref wm, .ref ac])), (ta, .inr (10, [.ref ta1, .ref ta2, .ref taz, .ref ta4, .ref ta5, .ref ta6, .int X.1.2.2.1, .int X.1.2.2.2])), (ta1, .inl (1, 108, .inl X.1.1)), (ta2, .inl (0, 108, .inl X.1.2.1)), (taz, .inr (2, [.ref taz1, .ref taz2, .ref taz3, .ref taz4, .ref taz5, .ref taz6, .int X.2.1.1.1.2.2.2])), (taz1, .inl (0, 108, .inl X.2.1.1.1.1)), (taz2, .inl (0, 108, .inl X.2.1.1.2)), (taz3, .inl (0, 108, .inl X.2.1.1.1.2.1)), (taz4, .inl (0, 108, .inl X.2.1.1.1.2.2.1)), (taz5, .inl (0, 108, .inl X.2.1.2.1)), (taz6, .inl (0, 108, .inl X.2.1.2.2)), (ta4, .inl (2, 108, .inl X.2.2.1)), (ta5, .inl (2, 108, .inl X.2.2.2.1)), (ta6, .inl (0, 108, .inl (fun k => nI (X.2.2.2.2 k))))]) (is := [0, 1, 2, 3, 4, 5, 6, 7, 8, 9, 10, 11, 12, 13]) (q0 := 0) rfl rfl ln_Lw_56 w_im_Ip_bestFeeder w_se_Ip_bestFeeder ok_Lw_bestFeeder_Ip_bestFeeder d_Lw_bestFeeder_4 (C_Ip_bestFeeder0 g a pa ta sa gs co fu la gy du re wm ac ta1 ta2 taz taz1 taz2 taz3 taz4 taz5 taz6 ta4 ta5 ta6 X h hh h0) rfl rfl (Nat.le_of_ble_eq_true rfl) rfl (by decide) (by omega) (by omega) (fun E cs1 hx => ?_) (fun v cs1 hx => ?_)
  · obtain ⟨e1, rfl⟩ := hx
    cases e1
    refine ⟨rfl, "java/util/NoSuchElementException", [(0, 9, 12, 13)], [], (0, 9, 15, 33), rfl, (fun z hz => by simp only [List.mem_cons, List.not_mem_nil, or_false] at hz; rcases hz with rfl; exact Or.inr ⟨by decide, _, lx_Lw_13, by decide⟩), by decide, by decide, lx_Lw_33, ce_33, fun qx => ?_⟩
    refine r_cs (cs2 := [(a, .inr (11, [.ref pa, .ref ta, .ref sa, .ref gs, .ref co, .ref fu, .ref la, .ref gy, .ref du, .ref re, .ref wm, .ref ac])), (ta, .inr (10, [.ref ta1, .ref ta2, .ref taz, .ref ta4, .ref ta5, .ref ta6, .int ((frT h X).1.2.2.1), .int ((frT h X).1.2.2.2)])), (ta1, .inl (1, 108, .inl ((frT h X).1.1))), (ta2, .inl (0, 108, .inl ((frT h X).1.2.1))), (taz, .inr (2, [.ref taz1, .ref taz2, .ref taz3, .ref taz4, .ref taz5, .ref taz6, .int ((frT h X).2.1.1.1.2.2.2)])), (taz1, .inl (0, 108, .inl ((frT h X).2.1.1.1.1))), (taz2, .inl (0, 108, .inl ((frT h X).2.1.1.2))), (taz3, .inl (0, 108, .inl ((frT h X).2.1.1.1.2.1))), (taz4, .inl (0, 108, .inl ((frT h X).2.1.1.1.2.2.1))), (taz5, .inl (0, 108, .inl ((frT h X).2.1.2.1))), (taz6, .inl (0, 108, .inl ((frT h X).2.1.2.2))), (ta4, .inl (2, 108, .inl ((frT h X).2.2.1))), (ta5, .inl (2, 108, .inl ((frT h X).2.2.2.1))), (ta6, .inl (0, 108, .inl (fun k => nI ((frT h X).2.2.2.2 k)))), (ou, .inl (3, 1, .inr (.inl of)))]) rfl ?_
    refine r_astore_n (lv' := [(3, .ref qx), (0, .ref a), (1, .int h), (2, .ref ou)]) d_Lw_bestFeeder_15 rfl (by decide) rfl ?_
    refine r_iconst d_Lw_bestFeeder_16 (v := 2) (by decide) ?_
    refine r_iret d_Lw_bestFeeder_17 rfl rfl ?_
    exact ⟨rfl, rfl⟩
  · exact absurd hx.1 (by simp)
abbrev M_Lw_mill : zM := (⟨"IronpourLaw", "mill", "(LIronpour;IIII[J)I"⟩, method_15_code, 7, (Option.some FieldType.int), 7, 124, [((0 : Nat), (14 : Nat), (17 : Nat), (13 : Nat))])
theorem d_Lw_mill_0 : decode method_15_code 0 = .ok (.aload 5, 2) := by decide +kernel
theorem d_Lw_mill_2 : decode method_15_code 2 = .ok (.iconst 0, 1) := by decide +kernel
theorem d_Lw_mill_3 : decode method_15_code 3 = .ok (.aload_n 0, 1) := by decide +kernel
theorem d_Lw_mill_4 : decode method_15_code 4 = .ok (.iload_n 1, 1) := by decide +kernel
theorem d_Lw_mill_5 : decode method_15_code 5 = .ok (.iload_n 2, 1) := by decide +kernel
theorem d_Lw_mill_6 : decode method_15_code 6 = .ok (.iload_n 3, 1) := by decide +kernel
theorem d_Lw_mill_7 : decode method_15_code 7 = .ok (.iload 4, 2) := by decide +kernel
theorem d_Lw_mill_9 : decode method_15_code 9 = .ok (.invokevirtual 59, 3) := by decide +kernel
theorem ok_Lw_mill_Ip_mill : z_okH M_Lw_mill M_Ip_mill 4 := ⟨z_mem (i := 951) (by decide +kernel) (by decide +kernel), rfl, ⟨by decide +kernel, by decide +kernel, by decide +kernel⟩, ⟨by decide, by decide⟩, z_mem (i := 58) (by decide +kernel) (by decide +kernel)⟩
theorem ln_Lw_59 : Cond.methodLink "IronpourLaw" 59 M_Ip_mill.1 ∈ z_gw := z_mem (i := 948) (by decide +kernel) (by decide +kernel)
theorem w_im_Ip_mill : Cond.instanceMethod M_Ip_mill.1 ∈ z_gw := z_mem (i := 949) (by decide +kernel) (by decide +kernel)
theorem w_se_Ip_mill : Cond.selects M_Ip_mill.1.cls M_Ip_mill.1 M_Ip_mill.1 ∈ z_gw := z_mem (i := 950) (by decide +kernel) (by decide +kernel)
theorem d_Lw_mill_17 : decode method_15_code 17 = .ok (.astore 6, 2) := by decide +kernel
theorem d_Lw_mill_19 : decode method_15_code 19 = .ok (.iconst 1, 1) := by decide +kernel
theorem d_Lw_mill_20 : decode method_15_code 20 = .ok (.ireturn, 1) := by decide +kernel
set_option maxHeartbeats 4000000 in
set_option maxRecDepth 100000 in
theorem C_Lw_millE (g : zG) (a pa ta sa gs co fu la gy du re wm ac : Nat) (cl wa co_ fi bu : Int32) (m1 m2 m3 m4 : Int32) (hw : ¬ ((0 ≤ m1 ∧ m1 ≤ 20) ∧ (0 ≤ m2 ∧ m2 ≤ 20) ∧ (0 ≤ m3 ∧ m3 ≤ 20) ∧ (0 ≤ m4 ∧ m4 ≤ 50))) (ou : Nat) (of : Nat → Int64) : CT g M_Lw_mill [.ref a, .int m1, .int m2, .int m3, .int m4, .ref ou] [(a, .inr (11, [.ref pa, .ref ta, .ref sa, .ref gs, .ref co, .ref fu, .ref la, .ref gy, .ref du, .ref re, .ref wm, .ref ac])), (gs, .inr (4, [.int cl, .int wa, .int co_, .int fi, .int bu])), (ou, .inl (3, 1, .inr (.inl of)))] (fun o cs1 => o = .inl (some (.int 1)) ∧ cs1 = [(a, .inr (11, [.ref pa, .ref ta, .ref sa, .ref gs, .ref co, .ref fu, .ref la, .ref gy, .ref du, .ref re, .ref wm, .ref ac])), (gs, .inr (4, [.int cl, .int wa, .int co_, .int fi, .int bu])), (ou, .inl (3, 1, .inr (.inl of)))]) 1 6 := by
  refine z_ofH (by decide) (by decide) (Nat.le_of_ble_eq_true rfl) (fun w0 => ?_)
  refine r_lvE (lv2 := [(0, .ref a), (1, .int m1), (2, .int m2), (3, .int m3), (4, .int m4), (5, .ref ou)]) rfl ?_
  refine r_aload d_Lw_mill_0 5 rfl ?_
  refine r_iconst d_Lw_mill_2 (v := 0) (by decide) ?_
  refine r_aload_n d_Lw_mill_3 rfl 0 rfl ?_
  refine r_iload_n d_Lw_mill_4 rfl 1 rfl ?_
  refine r_iload_n d_Lw_mill_5 rfl 2 rfl ?_
  refine r_iload_n d_Lw_mill_6 rfl 3 rfl ?_
  refine r_iload d_Lw_mill_7 4 rfl ?_
  refine r_callVH (As := [.int m1, .int m2, .int m3, .int m4]) (rest := [.int 0, .ref ou]) (csC := [(a, .inr (11, [.ref pa, .ref ta, .ref sa, .ref gs, .ref co, .ref fu, .ref la, .ref gy, .ref du, .ref re, .ref wm, .ref ac])), (gs, .inr (4, [.int cl, .int wa, .int co_, .int fi, .int bu]))]) (is := [0, 1]) (q0 := 0) rfl rfl ln_Lw_59 w_im_Ip_mill w_se_Ip_mill ok_Lw_mill_Ip_mill d_Lw_mill_9 (C_Ip_millE g a pa ta sa gs co fu la gy du re wm ac cl wa co_ fi bu m1 m2 m3 m4 hw) rfl rfl (Nat.le_of_ble_eq_true rfl) rfl (by decide) (by omega) (by omega) (fun E cs1 hx => ?_) (fun v cs1 hx => ?_)
  · obtain ⟨e1, rfl⟩ := hx
    cases e1
    refine ⟨rfl, "java/lang/IllegalArgumentException", [], [], (0, 14, 17, 13), rfl, (fun z hz => nomatch hz), by decide, by decide, lx_Lw_13, ce_13, fun qx => ?_⟩
    refine r_cs (cs2 := [(a, .inr (11, [.ref pa, .ref ta, .ref sa, .ref gs, .ref co, .ref fu, .ref la, .ref gy, .ref du, .ref re, .ref wm, .ref ac])), (gs, .inr (4, [.int cl, .int wa, .int co_, .int fi, .int bu])), (ou, .inl (3, 1, .inr (.inl of)))]) rfl ?_
    refine r_astore (lv' := [(6, .ref qx), (0, .ref a), (1, .int m1), (2, .int m2), (3, .int m3), (4, .int m4), (5, .ref ou)]) d_Lw_mill_17 (by decide) rfl ?_
    refine r_iconst d_Lw_mill_19 (v := 1) (by decide) ?_
    refine r_iret d_Lw_mill_20 rfl rfl ?_
    exact ⟨rfl, rfl⟩
  · exact absurd hx.1 (by simp)
theorem d_Lw_mill_12 : decode method_15_code 12 = .ok (.i2l, 1) := by decide +kernel
theorem d_Lw_mill_13 : decode method_15_code 13 = .ok (.lastore, 1) := by decide +kernel
theorem d_Lw_mill_14 : decode method_15_code 14 = .ok (.goto 7, 3) := by decide +kernel
theorem d_Lw_mill_21 : decode method_15_code 21 = .ok (.iconst 0, 1) := by decide +kernel
theorem d_Lw_mill_22 : decode method_15_code 22 = .ok (.ireturn, 1) := by decide +kernel
set_option maxHeartbeats 4000000 in
set_option maxRecDepth 100000 in
theorem C_Lw_millN (g : zG) (a pa ta sa gs co fu la gy du re wm ac : Nat) (cl wa co_ fi bu : Int32) (m1 m2 m3 m4 : Int32) (hw : ((0 ≤ m1 ∧ m1 ≤ 20) ∧ (0 ≤ m2 ∧ m2 ≤ 20) ∧ (0 ≤ m3 ∧ m3 ≤ 20) ∧ (0 ≤ m4 ∧ m4 ≤ 50))) (ou : Nat) (of : Nat → Int64) : CT g M_Lw_mill [.ref a, .int m1, .int m2, .int m3, .int m4, .ref ou] [(a, .inr (11, [.ref pa, .ref ta, .ref sa, .ref gs, .ref co, .ref fu, .ref la, .ref gy, .ref du, .ref re, .ref wm, .ref ac])), (gs, .inr (4, [.int cl, .int wa, .int co_, .int fi, .int bu])), (ou, .inl (3, 1, .inr (.inl of)))] (fun o cs1 => o = .inl (some (.int 0)) ∧ cs1 = [(a, .inr (11, [.ref pa, .ref ta, .ref sa, .ref gs, .ref co, .ref fu, .ref la, .ref gy, .ref du, .ref re, .ref wm, .ref ac])), (gs, .inr (4, [.int (if cl + m1 < 300 then cl + m1 else 300), .int (if wa + m2 < 300 then wa + m2 else 300), .int (if co_ + m3 < 300 then co_ + m3 else 300), .int (fi - ((fi * m4) / 100)), .int (bu - ((bu * m4) / 100))])), (ou, .inl (3, 1, .inr (.inl (vp_updL of 0 ((S_GS_strength gs (if cl + m1 < 300 then cl + m1 else 300) (if wa + m2 < 300 then wa + m2 else 300) (if co_ + m3 < 300 then co_ + m3 else 300) (fi - ((fi * m4) / 100)) (bu - ((bu * m4) / 100)))).toInt64))))]) 1 6 := by
  refine z_ofH (by decide) (by decide) (Nat.le_of_ble_eq_true rfl) (fun w0 => ?_)
  refine r_lvE (lv2 := [(0, .ref a), (1, .int m1), (2, .int m2), (3, .int m3), (4, .int m4), (5, .ref ou)]) rfl ?_
  refine r_aload d_Lw_mill_0 5 rfl ?_
  refine r_iconst d_Lw_mill_2 (v := 0) (by decide) ?_
  refine r_aload_n d_Lw_mill_3 rfl 0 rfl ?_
  refine r_iload_n d_Lw_mill_4 rfl 1 rfl ?_
  refine r_iload_n d_Lw_mill_5 rfl 2 rfl ?_
  refine r_iload_n d_Lw_mill_6 rfl 3 rfl ?_
  refine r_iload d_Lw_mill_7 4 rfl ?_
  refine r_callVH (As := [.int m1, .int m2, .int m3, .int m4]) (rest := [.int 0, .ref ou]) (csC := [(a, .inr (11, [.ref pa, .ref ta, .ref sa, .ref gs, .ref co, .ref fu, .ref la, .ref gy, .ref du, .ref re, .ref wm, .ref ac])), (gs, .inr (4, [.int cl, .int wa, .int co_, .int fi, .int bu]))]) (is := [0, 1]) (q0 := 0) rfl rfl ln_Lw_59 w_im_Ip_mill w_se_Ip_mill ok_Lw_mill_Ip_mill d_Lw_mill_9 (C_Ip_millN g a pa ta sa gs co fu la gy du re wm ac cl wa co_ fi bu m1 m2 m3 m4 hw) rfl rfl (Nat.le_of_ble_eq_true rfl) rfl (by decide) (by omega) (by omega) (fun E cs1 hx => ?_) (fun v cs1 hx => ?_)
  · exact absurd hx.1 (by simp)
  · obtain ⟨e1, rfl⟩ := hx
    cases e1
    refine ⟨rfl, ?_⟩
    refine r_st (st2 := [.int (S_GS_strength gs (if cl + m1 < 300 then cl + m1 else 300) (if wa + m2 < 300 then wa + m2 else 300) (if co_ + m3 < 300 then co_ + m3 else 300) (fi - ((fi * m4) / 100)) (bu - ((bu * m4) / 100))), .int 0, .ref ou]) rfl ?_
    refine r_cs (cs2 := [(a, .inr (11, [.ref pa, .ref ta, .ref sa, .ref gs, .ref co, .ref fu, .ref la, .ref gy, .ref du, .ref re, .ref wm, .ref ac])), (gs, .inr (4, [.int (if cl + m1 < 300 then cl + m1 else 300), .int (if wa + m2 < 300 then wa + m2 else 300), .int (if co_ + m3 < 300 then co_ + m3 else 300), .int (fi - ((fi * m4) / 100)), .int (bu - ((bu * m4) / 100))])), (ou, .inl (3, 1, .inr (.inl of)))]) rfl ?_
    refine r_i2l d_Lw_mill_12 (v := (S_GS_strength gs (if cl + m1 < 300 then cl + m1 else 300) (if wa + m2 < 300 then wa + m2 else 300) (if co_ + m3 < 300 then co_ + m3 else 300) (fi - ((fi * m4) / 100)) (bu - ((bu * m4) / 100))).toInt64) rfl ?_
    refine r_last d_Lw_mill_13 (q0 := 2) rfl (fun q => q.elim (by decide) (by decide)) (f' := vp_updL of 0 ((S_GS_strength gs (if cl + m1 < 300 then cl + m1 else 300) (if wa + m2 < 300 then wa + m2 else 300) (if co_ + m3 < 300 then co_ + m3 else 300) (fi - ((fi * m4) / 100)) (bu - ((bu * m4) / 100))).toInt64)) rfl (cs' := [(a, .inr (11, [.ref pa, .ref ta, .ref sa, .ref gs, .ref co, .ref fu, .ref la, .ref gy, .ref du, .ref re, .ref wm, .ref ac])), (gs, .inr (4, [.int (if cl + m1 < 300 then cl + m1 else 300), .int (if wa + m2 < 300 then wa + m2 else 300), .int (if co_ + m3 < 300 then co_ + m3 else 300), .int (fi - ((fi * m4) / 100)), .int (bu - ((bu * m4) / 100))])), (ou, .inl (3, 1, .inr (.inl (vp_updL of 0 ((S_GS_strength gs (if cl + m1 < 300 then cl + m1 else 300) (if wa + m2 < 300 then wa + m2 else 300) (if co_ + m3 < 300 then co_ + m3 else 300) (fi - ((fi * m4) / 100)) (bu - ((bu * m4) / 100))).toInt64)))))]) rfl ?_
    refine r_goto (tgt := 21) d_Lw_mill_14 (by decide) ?_
    refine r_iconst d_Lw_mill_21 (v := 0) (by decide) ?_
    refine r_iret d_Lw_mill_22 rfl rfl ?_
    exact ⟨rfl, rfl⟩
abbrev M_Lw_sand : zM := (⟨"IronpourLaw", "sand", "(LIronpour;C[J)I"⟩, method_16_code, 4, (Option.some FieldType.int), 7, 121, [((0 : Nat), (9 : Nat), (12 : Nat), (13 : Nat))])
theorem d_Lw_sand_0 : decode method_16_code 0 = .ok (.aload_n 2, 1) := by decide +kernel
theorem d_Lw_sand_1 : decode method_16_code 1 = .ok (.iconst 0, 1) := by decide +kernel
theorem d_Lw_sand_2 : decode method_16_code 2 = .ok (.aload_n 0, 1) := by decide +kernel
theorem d_Lw_sand_3 : decode method_16_code 3 = .ok (.iload_n 1, 1) := by decide +kernel
theorem d_Lw_sand_4 : decode method_16_code 4 = .ok (.invokevirtual 62, 3) := by decide +kernel
theorem ok_Lw_sand_Ip_sand : z_okH M_Lw_sand M_Ip_sand 1 := ⟨z_mem (i := 972) (by decide +kernel) (by decide +kernel), rfl, ⟨by decide +kernel, by decide +kernel, by decide +kernel⟩, ⟨by decide, by decide⟩, z_mem (i := 58) (by decide +kernel) (by decide +kernel)⟩
theorem ln_Lw_62 : Cond.methodLink "IronpourLaw" 62 M_Ip_sand.1 ∈ z_gw := z_mem (i := 969) (by decide +kernel) (by decide +kernel)
theorem w_im_Ip_sand : Cond.instanceMethod M_Ip_sand.1 ∈ z_gw := z_mem (i := 970) (by decide +kernel) (by decide +kernel)
theorem w_se_Ip_sand : Cond.selects M_Ip_sand.1.cls M_Ip_sand.1 M_Ip_sand.1 ∈ z_gw := z_mem (i := 971) (by decide +kernel) (by decide +kernel)
theorem d_Lw_sand_12 : decode method_16_code 12 = .ok (.astore_n 3, 1) := by decide +kernel
theorem d_Lw_sand_13 : decode method_16_code 13 = .ok (.iconst 1, 1) := by decide +kernel
theorem d_Lw_sand_14 : decode method_16_code 14 = .ok (.ireturn, 1) := by decide +kernel
set_option maxHeartbeats 4000000 in
set_option maxRecDepth 100000 in
theorem C_Lw_sandE (g : zG) (a pa ta sa gs co fu la gy du re wm ac : Nat) (cl wa co_ fi bu : Int32) (w : Int32) (hn : ¬ (w = 99 ∨ w = 119 ∨ w = 107 ∨ w = 102 ∨ w = 98 ∨ w = 115 ∨ w = 100)) (ou : Nat) (of : Nat → Int64) : CT g M_Lw_sand [.ref a, .int w, .ref ou] [(a, .inr (11, [.ref pa, .ref ta, .ref sa, .ref gs, .ref co, .ref fu, .ref la, .ref gy, .ref du, .ref re, .ref wm, .ref ac])), (gs, .inr (4, [.int cl, .int wa, .int co_, .int fi, .int bu])), (ou, .inl (3, 1, .inr (.inl of)))] (fun o cs1 => o = .inl (some (.int 1)) ∧ cs1 = [(a, .inr (11, [.ref pa, .ref ta, .ref sa, .ref gs, .ref co, .ref fu, .ref la, .ref gy, .ref du, .ref re, .ref wm, .ref ac])), (gs, .inr (4, [.int cl, .int wa, .int co_, .int fi, .int bu])), (ou, .inl (3, 1, .inr (.inl of)))]) 1 6 := by
  refine z_ofH (by decide) (by decide) (Nat.le_of_ble_eq_true rfl) (fun w0 => ?_)
  refine r_lvE (lv2 := [(0, .ref a), (1, .int w), (2, .ref ou)]) rfl ?_
  refine r_aload_n d_Lw_sand_0 rfl 2 rfl ?_
  refine r_iconst d_Lw_sand_1 (v := 0) (by decide) ?_
  refine r_aload_n d_Lw_sand_2 rfl 0 rfl ?_
  refine r_iload_n d_Lw_sand_3 rfl 1 rfl ?_
  refine r_callVH (As := [.int w]) (rest := [.int 0, .ref ou]) (csC := [(a, .inr (11, [.ref pa, .ref ta, .ref sa, .ref gs, .ref co, .ref fu, .ref la, .ref gy, .ref du, .ref re, .ref wm, .ref ac])), (gs, .inr (4, [.int cl, .int wa, .int co_, .int fi, .int bu]))]) (is := [0, 1]) (q0 := 0) rfl rfl ln_Lw_62 w_im_Ip_sand w_se_Ip_sand ok_Lw_sand_Ip_sand d_Lw_sand_4 (C_Ip_sandE g a pa ta sa gs co fu la gy du re wm ac cl wa co_ fi bu w hn) rfl rfl (Nat.le_of_ble_eq_true rfl) rfl (by decide) (by omega) (by omega) (fun E cs1 hx => ?_) (fun v cs1 hx => ?_)
  · obtain ⟨e1, rfl⟩ := hx
    cases e1
    refine ⟨rfl, "java/lang/IllegalArgumentException", [], [], (0, 9, 12, 13), rfl, (fun z hz => nomatch hz), by decide, by decide, lx_Lw_13, ce_13, fun qx => ?_⟩
    refine r_cs (cs2 := [(a, .inr (11, [.ref pa, .ref ta, .ref sa, .ref gs, .ref co, .ref fu, .ref la, .ref gy, .ref du, .ref re, .ref wm, .ref ac])), (gs, .inr (4, [.int cl, .int wa, .int co_, .int fi, .int bu])), (ou, .inl (3, 1, .inr (.inl of)))]) rfl ?_
    refine r_astore_n (lv' := [(3, .ref qx), (0, .ref a), (1, .int w), (2, .ref ou)]) d_Lw_sand_12 rfl (by decide) rfl ?_
    refine r_iconst d_Lw_sand_13 (v := 1) (by decide) ?_
    refine r_iret d_Lw_sand_14 rfl rfl ?_
    exact ⟨rfl, rfl⟩
  · exact absurd hx.1 (by simp)
theorem d_Lw_sand_7 : decode method_16_code 7 = .ok (.i2l, 1) := by decide +kernel
theorem d_Lw_sand_8 : decode method_16_code 8 = .ok (.lastore, 1) := by decide +kernel
theorem d_Lw_sand_9 : decode method_16_code 9 = .ok (.goto 6, 3) := by decide +kernel
theorem d_Lw_sand_15 : decode method_16_code 15 = .ok (.iconst 0, 1) := by decide +kernel
theorem d_Lw_sand_16 : decode method_16_code 16 = .ok (.ireturn, 1) := by decide +kernel
set_option maxHeartbeats 4000000 in
set_option maxRecDepth 100000 in
theorem C_Lw_sand99 (g : zG) (a pa ta sa gs co fu la gy du re wm ac : Nat) (cl wa co_ fi bu : Int32) (ou : Nat) (of : Nat → Int64) : CT g M_Lw_sand [.ref a, .int 99, .ref ou] [(a, .inr (11, [.ref pa, .ref ta, .ref sa, .ref gs, .ref co, .ref fu, .ref la, .ref gy, .ref du, .ref re, .ref wm, .ref ac])), (gs, .inr (4, [.int cl, .int wa, .int co_, .int fi, .int bu])), (ou, .inl (3, 1, .inr (.inl of)))] (fun o cs1 => o = .inl (some (.int 0)) ∧ cs1 = [(a, .inr (11, [.ref pa, .ref ta, .ref sa, .ref gs, .ref co, .ref fu, .ref la, .ref gy, .ref du, .ref re, .ref wm, .ref ac])), (gs, .inr (4, [.int cl, .int wa, .int co_, .int fi, .int bu])), (ou, .inl (3, 1, .inr (.inl (vp_updL of 0 (cl).toInt64))))]) 1 6 := by
  refine z_ofH (by decide) (by decide) (Nat.le_of_ble_eq_true rfl) (fun w0 => ?_)
  refine r_lvE (lv2 := [(0, .ref a), (1, .int 99), (2, .ref ou)]) rfl ?_
  refine r_aload_n d_Lw_sand_0 rfl 2 rfl ?_
  refine r_iconst d_Lw_sand_1 (v := 0) (by decide) ?_
  refine r_aload_n d_Lw_sand_2 rfl 0 rfl ?_
  refine r_iload_n d_Lw_sand_3 rfl 1 rfl ?_
  refine r_callVH (As := [.int 99]) (rest := [.int 0, .ref ou]) (csC := [(a, .inr (11, [.ref pa, .ref ta, .ref sa, .ref gs, .ref co, .ref fu, .ref la, .ref gy, .ref du, .ref re, .ref wm, .ref ac])), (gs, .inr (4, [.int cl, .int wa, .int co_, .int fi, .int bu]))]) (is := [0, 1]) (q0 := 0) rfl rfl ln_Lw_62 w_im_Ip_sand w_se_Ip_sand ok_Lw_sand_Ip_sand d_Lw_sand_4 (C_Ip_sand99 g a pa ta sa gs co fu la gy du re wm ac cl wa co_ fi bu) rfl rfl (Nat.le_of_ble_eq_true rfl) rfl (by decide) (by omega) (by omega) (fun E cs1 hx => ?_) (fun v cs1 hx => ?_)
  · exact absurd hx.1 (by simp)
  · obtain ⟨e1, rfl⟩ := hx
    cases e1
    refine ⟨rfl, ?_⟩
    refine r_st (st2 := [.int cl, .int 0, .ref ou]) rfl ?_
    refine r_cs (cs2 := [(a, .inr (11, [.ref pa, .ref ta, .ref sa, .ref gs, .ref co, .ref fu, .ref la, .ref gy, .ref du, .ref re, .ref wm, .ref ac])), (gs, .inr (4, [.int cl, .int wa, .int co_, .int fi, .int bu])), (ou, .inl (3, 1, .inr (.inl of)))]) rfl ?_
    refine r_i2l d_Lw_sand_7 (v := cl.toInt64) rfl ?_
    refine r_last d_Lw_sand_8 (q0 := 2) rfl (fun q => q.elim (by decide) (by decide)) (f' := vp_updL of 0 cl.toInt64) rfl (cs' := [(a, .inr (11, [.ref pa, .ref ta, .ref sa, .ref gs, .ref co, .ref fu, .ref la, .ref gy, .ref du, .ref re, .ref wm, .ref ac])), (gs, .inr (4, [.int cl, .int wa, .int co_, .int fi, .int bu])), (ou, .inl (3, 1, .inr (.inl (vp_updL of 0 cl.toInt64))))]) rfl ?_
    refine r_goto (tgt := 15) d_Lw_sand_9 (by decide) ?_
    refine r_iconst d_Lw_sand_15 (v := 0) (by decide) ?_
    refine r_iret d_Lw_sand_16 rfl rfl ?_
    exact ⟨rfl, rfl⟩
set_option maxHeartbeats 4000000 in
set_option maxRecDepth 100000 in
theorem C_Lw_sand119 (g : zG) (a pa ta sa gs co fu la gy du re wm ac : Nat) (cl wa co_ fi bu : Int32) (ou : Nat) (of : Nat → Int64) : CT g M_Lw_sand [.ref a, .int 119, .ref ou] [(a, .inr (11, [.ref pa, .ref ta, .ref sa, .ref gs, .ref co, .ref fu, .ref la, .ref gy, .ref du, .ref re, .ref wm, .ref ac])), (gs, .inr (4, [.int cl, .int wa, .int co_, .int fi, .int bu])), (ou, .inl (3, 1, .inr (.inl of)))] (fun o cs1 => o = .inl (some (.int 0)) ∧ cs1 = [(a, .inr (11, [.ref pa, .ref ta, .ref sa, .ref gs, .ref co, .ref fu, .ref la, .ref gy, .ref du, .ref re, .ref wm, .ref ac])), (gs, .inr (4, [.int cl, .int wa, .int co_, .int fi, .int bu])), (ou, .inl (3, 1, .inr (.inl (vp_updL of 0 (wa).toInt64))))]) 1 6 := by
  refine z_ofH (by decide) (by decide) (Nat.le_of_ble_eq_true rfl) (fun w0 => ?_)
  refine r_lvE (lv2 := [(0, .ref a), (1, .int 119), (2, .ref ou)]) rfl ?_
  refine r_aload_n d_Lw_sand_0 rfl 2 rfl ?_
  refine r_iconst d_Lw_sand_1 (v := 0) (by decide) ?_
  refine r_aload_n d_Lw_sand_2 rfl 0 rfl ?_
  refine r_iload_n d_Lw_sand_3 rfl 1 rfl ?_
  refine r_callVH (As := [.int 119]) (rest := [.int 0, .ref ou]) (csC := [(a, .inr (11, [.ref pa, .ref ta, .ref sa, .ref gs, .ref co, .ref fu, .ref la, .ref gy, .ref du, .ref re, .ref wm, .ref ac])), (gs, .inr (4, [.int cl, .int wa, .int co_, .int fi, .int bu]))]) (is := [0, 1]) (q0 := 0) rfl rfl ln_Lw_62 w_im_Ip_sand w_se_Ip_sand ok_Lw_sand_Ip_sand d_Lw_sand_4 (C_Ip_sand119 g a pa ta sa gs co fu la gy du re wm ac cl wa co_ fi bu) rfl rfl (Nat.le_of_ble_eq_true rfl) rfl (by decide) (by omega) (by omega) (fun E cs1 hx => ?_) (fun v cs1 hx => ?_)
  · exact absurd hx.1 (by simp)
  · obtain ⟨e1, rfl⟩ := hx
    cases e1
    refine ⟨rfl, ?_⟩
    refine r_st (st2 := [.int wa, .int 0, .ref ou]) rfl ?_
    refine r_cs (cs2 := [(a, .inr (11, [.ref pa, .ref ta, .ref sa, .ref gs, .ref co, .ref fu, .ref la, .ref gy, .ref du, .ref re, .ref wm, .ref ac])), (gs, .inr (4, [.int cl, .int wa, .int co_, .int fi, .int bu])), (ou, .inl (3, 1, .inr (.inl of)))]) rfl ?_
    refine r_i2l d_Lw_sand_7 (v := wa.toInt64) rfl ?_
    refine r_last d_Lw_sand_8 (q0 := 2) rfl (fun q => q.elim (by decide) (by decide)) (f' := vp_updL of 0 wa.toInt64) rfl (cs' := [(a, .inr (11, [.ref pa, .ref ta, .ref sa, .ref gs, .ref co, .ref fu, .ref la, .ref gy, .ref du, .ref re, .ref wm, .ref ac])), (gs, .inr (4, [.int cl, .int wa, .int co_, .int fi, .int bu])), (ou, .inl (3, 1, .inr (.inl (vp_updL of 0 wa.toInt64))))]) rfl ?_
    refine r_goto (tgt := 15) d_Lw_sand_9 (by decide) ?_
    refine r_iconst d_Lw_sand_15 (v := 0) (by decide) ?_
    refine r_iret d_Lw_sand_16 rfl rfl ?_
    exact ⟨rfl, rfl⟩
set_option maxHeartbeats 4000000 in
set_option maxRecDepth 100000 in
theorem C_Lw_sand107 (g : zG) (a pa ta sa gs co fu la gy du re wm ac : Nat) (cl wa co_ fi bu : Int32) (ou : Nat) (of : Nat → Int64) : CT g M_Lw_sand [.ref a, .int 107, .ref ou] [(a, .inr (11, [.ref pa, .ref ta, .ref sa, .ref gs, .ref co, .ref fu, .ref la, .ref gy, .ref du, .ref re, .ref wm, .ref ac])), (gs, .inr (4, [.int cl, .int wa, .int co_, .int fi, .int bu])), (ou, .inl (3, 1, .inr (.inl of)))] (fun o cs1 => o = .inl (some (.int 0)) ∧ cs1 = [(a, .inr (11, [.ref pa, .ref ta, .ref sa, .ref gs, .ref co, .ref fu, .ref la, .ref gy, .ref du, .ref re, .ref wm, .ref ac])), (gs, .inr (4, [.int cl, .int wa, .int co_, .int fi, .int bu])), (ou, .inl (3, 1, .inr (.inl (vp_updL of 0 (co_).toInt64))))]) 1 6 := by
  refine z_ofH (by decide) (by decide) (Nat.le_of_ble_eq_true rfl) (fun w0 => ?_)
  refine r_lvE (lv2 := [(0, .ref a), (1, .int 107), (2, .ref ou)]) rfl ?_
  refine r_aload_n d_Lw_sand_0 rfl 2 rfl ?_
  refine r_iconst d_Lw_sand_1 (v := 0) (by decide) ?_
  refine r_aload_n d_Lw_sand_2 rfl 0 rfl ?_
  refine r_iload_n d_Lw_sand_3 rfl 1 rfl ?_
  refine r_callVH (As := [.int 107]) (rest := [.int 0, .ref ou]) (csC := [(a, .inr (11, [.ref pa, .ref ta, .ref sa, .ref gs, .ref co, .ref fu, .ref la, .ref gy, .ref du, .ref re, .ref wm, .ref ac])), (gs, .inr (4, [.int cl, .int wa, .int co_, .int fi, .int bu]))]) (is := [0, 1]) (q0 := 0) rfl rfl ln_Lw_62 w_im_Ip_sand w_se_Ip_sand ok_Lw_sand_Ip_sand d_Lw_sand_4 (C_Ip_sand107 g a pa ta sa gs co fu la gy du re wm ac cl wa co_ fi bu) rfl rfl (Nat.le_of_ble_eq_true rfl) rfl (by decide) (by omega) (by omega) (fun E cs1 hx => ?_) (fun v cs1 hx => ?_)
  · exact absurd hx.1 (by simp)
  · obtain ⟨e1, rfl⟩ := hx
    cases e1
    refine ⟨rfl, ?_⟩
    refine r_st (st2 := [.int co_, .int 0, .ref ou]) rfl ?_
    refine r_cs (cs2 := [(a, .inr (11, [.ref pa, .ref ta, .ref sa, .ref gs, .ref co, .ref fu, .ref la, .ref gy, .ref du, .ref re, .ref wm, .ref ac])), (gs, .inr (4, [.int cl, .int wa, .int co_, .int fi, .int bu])), (ou, .inl (3, 1, .inr (.inl of)))]) rfl ?_
    refine r_i2l d_Lw_sand_7 (v := co_.toInt64) rfl ?_
    refine r_last d_Lw_sand_8 (q0 := 2) rfl (fun q => q.elim (by decide) (by decide)) (f' := vp_updL of 0 co_.toInt64) rfl (cs' := [(a, .inr (11, [.ref pa, .ref ta, .ref sa, .ref gs, .ref co, .ref fu, .ref la, .ref gy, .ref du, .ref re, .ref wm, .ref ac])), (gs, .inr (4, [.int cl, .int wa, .int co_, .int fi, .int bu])), (ou, .inl (3, 1, .inr (.inl (vp_updL of 0 co_.toInt64))))]) rfl ?_
    refine r_goto (tgt := 15) d_Lw_sand_9 (by decide) ?_
    refine r_iconst d_Lw_sand_15 (v := 0) (by decide) ?_
    refine r_iret d_Lw_sand_16 rfl rfl ?_
    exact ⟨rfl, rfl⟩
set_option maxHeartbeats 4000000 in
set_option maxRecDepth 100000 in
theorem C_Lw_sand102 (g : zG) (a pa ta sa gs co fu la gy du re wm ac : Nat) (cl wa co_ fi bu : Int32) (ou : Nat) (of : Nat → Int64) : CT g M_Lw_sand [.ref a, .int 102, .ref ou] [(a, .inr (11, [.ref pa, .ref ta, .ref sa, .ref gs, .ref co, .ref fu, .ref la, .ref gy, .ref du, .ref re, .ref wm, .ref ac])), (gs, .inr (4, [.int cl, .int wa, .int co_, .int fi, .int bu])), (ou, .inl (3, 1, .inr (.inl of)))] (fun o cs1 => o = .inl (some (.int 0)) ∧ cs1 = [(a, .inr (11, [.ref pa, .ref ta, .ref sa, .ref gs, .ref co, .ref fu, .ref la, .ref gy, .ref du, .ref re, .ref wm, .ref ac])), (gs, .inr (4, [.int cl, .int wa, .int co_, .int fi, .int bu])), (ou, .inl (3, 1, .inr (.inl (vp_updL of 0 (fi).toInt64))))]) 1 6 := by
  refine z_ofH (by decide) (by decide) (Nat.le_of_ble_eq_true rfl) (fun w0 => ?_)
  refine r_lvE (lv2 := [(0, .ref a), (1, .int 102), (2, .ref ou)]) rfl ?_
  refine r_aload_n d_Lw_sand_0 rfl 2 rfl ?_
  refine r_iconst d_Lw_sand_1 (v := 0) (by decide) ?_
  refine r_aload_n d_Lw_sand_2 rfl 0 rfl ?_
  refine r_iload_n d_Lw_sand_3 rfl 1 rfl ?_
  refine r_callVH (As := [.int 102]) (rest := [.int 0, .ref ou]) (csC := [(a, .inr (11, [.ref pa, .ref ta, .ref sa, .ref gs, .ref co, .ref fu, .ref la, .ref gy, .ref du, .ref re, .ref wm, .ref ac])), (gs, .inr (4, [.int cl, .int wa, .int co_, .int fi, .int bu]))]) (is := [0, 1]) (q0 := 0) rfl rfl ln_Lw_62 w_im_Ip_sand w_se_Ip_sand ok_Lw_sand_Ip_sand d_Lw_sand_4 (C_Ip_sand102 g a pa ta sa gs co fu la gy du re wm ac cl wa co_ fi bu) rfl rfl (Nat.le_of_ble_eq_true rfl) rfl (by decide) (by omega) (by omega) (fun E cs1 hx => ?_) (fun v cs1 hx => ?_)
  · exact absurd hx.1 (by simp)
  · obtain ⟨e1, rfl⟩ := hx
    cases e1
    refine ⟨rfl, ?_⟩
    refine r_st (st2 := [.int fi, .int 0, .ref ou]) rfl ?_
    refine r_cs (cs2 := [(a, .inr (11, [.ref pa, .ref ta, .ref sa, .ref gs, .ref co, .ref fu, .ref la, .ref gy, .ref du, .ref re, .ref wm, .ref ac])), (gs, .inr (4, [.int cl, .int wa, .int co_, .int fi, .int bu])), (ou, .inl (3, 1, .inr (.inl of)))]) rfl ?_
    refine r_i2l d_Lw_sand_7 (v := fi.toInt64) rfl ?_
    refine r_last d_Lw_sand_8 (q0 := 2) rfl (fun q => q.elim (by decide) (by decide)) (f' := vp_updL of 0 fi.toInt64) rfl (cs' := [(a, .inr (11, [.ref pa, .ref ta, .ref sa, .ref gs, .ref co, .ref fu, .ref la, .ref gy, .ref du, .ref re, .ref wm, .ref ac])), (gs, .inr (4, [.int cl, .int wa, .int co_, .int fi, .int bu])), (ou, .inl (3, 1, .inr (.inl (vp_updL of 0 fi.toInt64))))]) rfl ?_
    refine r_goto (tgt := 15) d_Lw_sand_9 (by decide) ?_
    refine r_iconst d_Lw_sand_15 (v := 0) (by decide) ?_
    refine r_iret d_Lw_sand_16 rfl rfl ?_
    exact ⟨rfl, rfl⟩
set_option maxHeartbeats 4000000 in
set_option maxRecDepth 100000 in
theorem C_Lw_sand98 (g : zG) (a pa ta sa gs co fu la gy du re wm ac : Nat) (cl wa co_ fi bu : Int32) (ou : Nat) (of : Nat → Int64) : CT g M_Lw_sand [.ref a, .int 98, .ref ou] [(a, .inr (11, [.ref pa, .ref ta, .ref sa, .ref gs, .ref co, .ref fu, .ref la, .ref gy, .ref du, .ref re, .ref wm, .ref ac])), (gs, .inr (4, [.int cl, .int wa, .int co_, .int fi, .int bu])), (ou, .inl (3, 1, .inr (.inl of)))] (fun o cs1 => o = .inl (some (.int 0)) ∧ cs1 = [(a, .inr (11, [.ref pa, .ref ta, .ref sa, .ref gs, .ref co, .ref fu, .ref la, .ref gy, .ref du, .ref re, .ref wm, .ref ac])), (gs, .inr (4, [.int cl, .int wa, .int co_, .int fi, .int bu])), (ou, .inl (3, 1, .inr (.inl (vp_updL of 0 (bu).toInt64))))]) 1 6 := by
  refine z_ofH (by decide) (by decide) (Nat.le_of_ble_eq_true rfl) (fun w0 => ?_)
  refine r_lvE (lv2 := [(0, .ref a), (1, .int 98), (2, .ref ou)]) rfl ?_
  refine r_aload_n d_Lw_sand_0 rfl 2 rfl ?_
  refine r_iconst d_Lw_sand_1 (v := 0) (by decide) ?_
  refine r_aload_n d_Lw_sand_2 rfl 0 rfl ?_
  refine r_iload_n d_Lw_sand_3 rfl 1 rfl ?_
  refine r_callVH (As := [.int 98]) (rest := [.int 0, .ref ou]) (csC := [(a, .inr (11, [.ref pa, .ref ta, .ref sa, .ref gs, .ref co, .ref fu, .ref la, .ref gy, .ref du, .ref re, .ref wm, .ref ac])), (gs, .inr (4, [.int cl, .int wa, .int co_, .int fi, .int bu]))]) (is := [0, 1]) (q0 := 0) rfl rfl ln_Lw_62 w_im_Ip_sand w_se_Ip_sand ok_Lw_sand_Ip_sand d_Lw_sand_4 (C_Ip_sand98 g a pa ta sa gs co fu la gy du re wm ac cl wa co_ fi bu) rfl rfl (Nat.le_of_ble_eq_true rfl) rfl (by decide) (by omega) (by omega) (fun E cs1 hx => ?_) (fun v cs1 hx => ?_)
  · exact absurd hx.1 (by simp)
  · obtain ⟨e1, rfl⟩ := hx
    cases e1
    refine ⟨rfl, ?_⟩
    refine r_st (st2 := [.int bu, .int 0, .ref ou]) rfl ?_
    refine r_cs (cs2 := [(a, .inr (11, [.ref pa, .ref ta, .ref sa, .ref gs, .ref co, .ref fu, .ref la, .ref gy, .ref du, .ref re, .ref wm, .ref ac])), (gs, .inr (4, [.int cl, .int wa, .int co_, .int fi, .int bu])), (ou, .inl (3, 1, .inr (.inl of)))]) rfl ?_
    refine r_i2l d_Lw_sand_7 (v := bu.toInt64) rfl ?_
    refine r_last d_Lw_sand_8 (q0 := 2) rfl (fun q => q.elim (by decide) (by decide)) (f' := vp_updL of 0 bu.toInt64) rfl (cs' := [(a, .inr (11, [.ref pa, .ref ta, .ref sa, .ref gs, .ref co, .ref fu, .ref la, .ref gy, .ref du, .ref re, .ref wm, .ref ac])), (gs, .inr (4, [.int cl, .int wa, .int co_, .int fi, .int bu])), (ou, .inl (3, 1, .inr (.inl (vp_updL of 0 bu.toInt64))))]) rfl ?_
    refine r_goto (tgt := 15) d_Lw_sand_9 (by decide) ?_
    refine r_iconst d_Lw_sand_15 (v := 0) (by decide) ?_
    refine r_iret d_Lw_sand_16 rfl rfl ?_
    exact ⟨rfl, rfl⟩
set_option maxHeartbeats 4000000 in
set_option maxRecDepth 100000 in
theorem C_Lw_sand115 (g : zG) (a pa ta sa gs co fu la gy du re wm ac : Nat) (cl wa co_ fi bu : Int32) (ou : Nat) (of : Nat → Int64) : CT g M_Lw_sand [.ref a, .int 115, .ref ou] [(a, .inr (11, [.ref pa, .ref ta, .ref sa, .ref gs, .ref co, .ref fu, .ref la, .ref gy, .ref du, .ref re, .ref wm, .ref ac])), (gs, .inr (4, [.int cl, .int wa, .int co_, .int fi, .int bu])), (ou, .inl (3, 1, .inr (.inl of)))] (fun o cs1 => o = .inl (some (.int 0)) ∧ cs1 = [(a, .inr (11, [.ref pa, .ref ta, .ref sa, .ref gs, .ref co, .ref fu, .ref la, .ref gy, .ref du, .ref re, .ref wm, .ref ac])), (gs, .inr (4, [.int cl, .int wa, .int co_, .int fi, .int bu])), (ou, .inl (3, 1, .inr (.inl (vp_updL of 0 ((S_GS_strength gs cl wa co_ fi bu)).toInt64))))]) 1 6 := by
  refine z_ofH (by decide) (by decide) (Nat.le_of_ble_eq_true rfl) (fun w0 => ?_)
  refine r_lvE (lv2 := [(0, .ref a), (1, .int 115), (2, .ref ou)]) rfl ?_
  refine r_aload_n d_Lw_sand_0 rfl 2 rfl ?_
  refine r_iconst d_Lw_sand_1 (v := 0) (by decide) ?_
  refine r_aload_n d_Lw_sand_2 rfl 0 rfl ?_
  refine r_iload_n d_Lw_sand_3 rfl 1 rfl ?_
  refine r_callVH (As := [.int 115]) (rest := [.int 0, .ref ou]) (csC := [(a, .inr (11, [.ref pa, .ref ta, .ref sa, .ref gs, .ref co, .ref fu, .ref la, .ref gy, .ref du, .ref re, .ref wm, .ref ac])), (gs, .inr (4, [.int cl, .int wa, .int co_, .int fi, .int bu]))]) (is := [0, 1]) (q0 := 0) rfl rfl ln_Lw_62 w_im_Ip_sand w_se_Ip_sand ok_Lw_sand_Ip_sand d_Lw_sand_4 (C_Ip_sand115 g a pa ta sa gs co fu la gy du re wm ac cl wa co_ fi bu) rfl rfl (Nat.le_of_ble_eq_true rfl) rfl (by decide) (by omega) (by omega) (fun E cs1 hx => ?_) (fun v cs1 hx => ?_)
  · exact absurd hx.1 (by simp)
  · obtain ⟨e1, rfl⟩ := hx
    cases e1
    refine ⟨rfl, ?_⟩
    refine r_st (st2 := [.int (S_GS_strength gs cl wa co_ fi bu), .int 0, .ref ou]) rfl ?_
    refine r_cs (cs2 := [(a, .inr (11, [.ref pa, .ref ta, .ref sa, .ref gs, .ref co, .ref fu, .ref la, .ref gy, .ref du, .ref re, .ref wm, .ref ac])), (gs, .inr (4, [.int cl, .int wa, .int co_, .int fi, .int bu])), (ou, .inl (3, 1, .inr (.inl of)))]) rfl ?_
    refine r_i2l d_Lw_sand_7 (v := (S_GS_strength gs cl wa co_ fi bu).toInt64) rfl ?_
    refine r_last d_Lw_sand_8 (q0 := 2) rfl (fun q => q.elim (by decide) (by decide)) (f' := vp_updL of 0 ((S_GS_strength gs cl wa co_ fi bu).toInt64)) rfl (cs' := [(a, .inr (11, [.ref pa, .ref ta, .ref sa, .ref gs, .ref co, .ref fu, .ref la, .ref gy, .ref du, .ref re, .ref wm, .ref ac])), (gs, .inr (4, [.int cl, .int wa, .int co_, .int fi, .int bu])), (ou, .inl (3, 1, .inr (.inl (vp_updL of 0 ((S_GS_strength gs cl wa co_ fi bu).toInt64)))))]) rfl ?_
    refine r_goto (tgt := 15) d_Lw_sand_9 (by decide) ?_
    refine r_iconst d_Lw_sand_15 (v := 0) (by decide) ?_
    refine r_iret d_Lw_sand_16 rfl rfl ?_
    exact ⟨rfl, rfl⟩
set_option maxHeartbeats 4000000 in
set_option maxRecDepth 100000 in
theorem C_Lw_sand100 (g : zG) (a pa ta sa gs co fu la gy du re wm ac : Nat) (cl wa co_ fi bu : Int32) (ou : Nat) (of : Nat → Int64) : CT g M_Lw_sand [.ref a, .int 100, .ref ou] [(a, .inr (11, [.ref pa, .ref ta, .ref sa, .ref gs, .ref co, .ref fu, .ref la, .ref gy, .ref du, .ref re, .ref wm, .ref ac])), (gs, .inr (4, [.int cl, .int wa, .int co_, .int fi, .int bu])), (ou, .inl (3, 1, .inr (.inl of)))] (fun o cs1 => o = .inl (some (.int 0)) ∧ cs1 = [(a, .inr (11, [.ref pa, .ref ta, .ref sa, .ref gs, .ref co, .ref fu, .ref la, .ref gy, .ref du, .ref re, .ref wm, .ref ac])), (gs, .inr (4, [.int cl, .int wa, .int co_, .int fi, .int bu])), (ou, .inl (3, 1, .inr (.inl (vp_updL of 0 ((S_GS_draught gs cl wa co_ fi bu)).toInt64))))]) 1 6 := by
  refine z_ofH (by decide) (by decide) (Nat.le_of_ble_eq_true rfl) (fun w0 => ?_)
  refine r_lvE (lv2 := [(0, .ref a), (1, .int 100), (2, .ref ou)]) rfl ?_
  refine r_aload_n d_Lw_sand_0 rfl 2 rfl ?_
  refine r_iconst d_Lw_sand_1 (v := 0) (by decide) ?_
  refine r_aload_n d_Lw_sand_2 rfl 0 rfl ?_
  refine r_iload_n d_Lw_sand_3 rfl 1 rfl ?_
  refine r_callVH (As := [.int 100]) (rest := [.int 0, .ref ou]) (csC := [(a, .inr (11, [.ref pa, .ref ta, .ref sa, .ref gs, .ref co, .ref fu, .ref la, .ref gy, .ref du, .ref re, .ref wm, .ref ac])), (gs, .inr (4, [.int cl, .int wa, .int co_, .int fi, .int bu]))]) (is := [0, 1]) (q0 := 0) rfl rfl ln_Lw_62 w_im_Ip_sand w_se_Ip_sand ok_Lw_sand_Ip_sand d_Lw_sand_4 (C_Ip_sand100 g a pa ta sa gs co fu la gy du re wm ac cl wa co_ fi bu) rfl rfl (Nat.le_of_ble_eq_true rfl) rfl (by decide) (by omega) (by omega) (fun E cs1 hx => ?_) (fun v cs1 hx => ?_)
  · exact absurd hx.1 (by simp)
  · obtain ⟨e1, rfl⟩ := hx
    cases e1
    refine ⟨rfl, ?_⟩
    refine r_st (st2 := [.int (S_GS_draught gs cl wa co_ fi bu), .int 0, .ref ou]) rfl ?_
    refine r_cs (cs2 := [(a, .inr (11, [.ref pa, .ref ta, .ref sa, .ref gs, .ref co, .ref fu, .ref la, .ref gy, .ref du, .ref re, .ref wm, .ref ac])), (gs, .inr (4, [.int cl, .int wa, .int co_, .int fi, .int bu])), (ou, .inl (3, 1, .inr (.inl of)))]) rfl ?_
    refine r_i2l d_Lw_sand_7 (v := (S_GS_draught gs cl wa co_ fi bu).toInt64) rfl ?_
    refine r_last d_Lw_sand_8 (q0 := 2) rfl (fun q => q.elim (by decide) (by decide)) (f' := vp_updL of 0 ((S_GS_draught gs cl wa co_ fi bu).toInt64)) rfl (cs' := [(a, .inr (11, [.ref pa, .ref ta, .ref sa, .ref gs, .ref co, .ref fu, .ref la, .ref gy, .ref du, .ref re, .ref wm, .ref ac])), (gs, .inr (4, [.int cl, .int wa, .int co_, .int fi, .int bu])), (ou, .inl (3, 1, .inr (.inl (vp_updL of 0 ((S_GS_draught gs cl wa co_ fi bu).toInt64)))))]) rfl ?_
    refine r_goto (tgt := 15) d_Lw_sand_9 (by decide) ?_
    refine r_iconst d_Lw_sand_15 (v := 0) (by decide) ?_
    refine r_iret d_Lw_sand_16 rfl rfl ?_
    exact ⟨rfl, rfl⟩
abbrev M_Lw_makeCores : zM := (⟨"IronpourLaw", "makeCores", "(LIronpour;II[J)I"⟩, method_17_code, 5, (Option.some FieldType.int), 7, 122, [((0 : Nat), (10 : Nat), (13 : Nat), (13 : Nat)), ((0 : Nat), (10 : Nat), (17 : Nat), (69 : Nat))])
theorem d_Lw_makeCores_0 : decode method_17_code 0 = .ok (.aload_n 3, 1) := by decide +kernel
theorem d_Lw_makeCores_1 : decode method_17_code 1 = .ok (.iconst 0, 1) := by decide +kernel
theorem d_Lw_makeCores_2 : decode method_17_code 2 = .ok (.aload_n 0, 1) := by decide +kernel
theorem d_Lw_makeCores_3 : decode method_17_code 3 = .ok (.iload_n 1, 1) := by decide +kernel
theorem d_Lw_makeCores_4 : decode method_17_code 4 = .ok (.iload_n 2, 1) := by decide +kernel
theorem d_Lw_makeCores_5 : decode method_17_code 5 = .ok (.invokevirtual 66, 3) := by decide +kernel
theorem ok_Lw_makeCores_Ip_makeCores : z_okH M_Lw_makeCores M_Ip_makeCores 2 := ⟨z_mem (i := 985) (by decide +kernel) (by decide +kernel), rfl, ⟨by decide +kernel, by decide +kernel, by decide +kernel⟩, ⟨by decide, by decide⟩, z_mem (i := 58) (by decide +kernel) (by decide +kernel)⟩
theorem ln_Lw_66 : Cond.methodLink "IronpourLaw" 66 M_Ip_makeCores.1 ∈ z_gw := z_mem (i := 982) (by decide +kernel) (by decide +kernel)
theorem w_im_Ip_makeCores : Cond.instanceMethod M_Ip_makeCores.1 ∈ z_gw := z_mem (i := 983) (by decide +kernel) (by decide +kernel)
theorem w_se_Ip_makeCores : Cond.selects M_Ip_makeCores.1.cls M_Ip_makeCores.1 M_Ip_makeCores.1 ∈ z_gw := z_mem (i := 984) (by decide +kernel) (by decide +kernel)
theorem d_Lw_makeCores_13 : decode method_17_code 13 = .ok (.astore 4, 2) := by decide +kernel
theorem d_Lw_makeCores_15 : decode method_17_code 15 = .ok (.iconst 1, 1) := by decide +kernel
theorem d_Lw_makeCores_16 : decode method_17_code 16 = .ok (.ireturn, 1) := by decide +kernel
set_option maxHeartbeats 4000000 in
set_option maxRecDepth 100000 in
theorem C_Lw_makeCoresE (g : zG) (a pa ta sa gs co fu la gy du re wm ac : Nat) (co1 co2 co3 : Nat) (cn cu ag : Nat → Int32) (nl : Nat) (hnl : nl ≤ 20) (c k : Int32) (hw : ¬ ((1 ≤ c ∧ c ≤ 10) ∧ (1 ≤ k ∧ k ≤ 24))) (ou : Nat) (of : Nat → Int64) : CT g M_Lw_makeCores [.ref a, .int c, .int k, .ref ou] [(a, .inr (11, [.ref pa, .ref ta, .ref sa, .ref gs, .ref co, .ref fu, .ref la, .ref gy, .ref du, .ref re, .ref wm, .ref ac])), (co, .inr (1, [.ref co1, .ref co2, .ref co3, .int (nI nl)])), (co1, .inl (0, 20, .inl cn)), (co2, .inl (0, 20, .inl cu)), (co3, .inl (0, 20, .inl ag)), (ou, .inl (3, 1, .inr (.inl of)))] (fun o cs1 => o = .inl (some (.int 1)) ∧ cs1 = [(a, .inr (11, [.ref pa, .ref ta, .ref sa, .ref gs, .ref co, .ref fu, .ref la, .ref gy, .ref du, .ref re, .ref wm, .ref ac])), (co, .inr (1, [.ref co1, .ref co2, .ref co3, .int (nI nl)])), (co1, .inl (0, 20, .inl cn)), (co2, .inl (0, 20, .inl cu)), (co3, .inl (0, 20, .inl ag)), (ou, .inl (3, 1, .inr (.inl of)))]) 1 6 := by
  refine z_ofH (by decide) (by decide) (Nat.le_of_ble_eq_true rfl) (fun w0 => ?_)
  refine r_lvE (lv2 := [(0, .ref a), (1, .int c), (2, .int k), (3, .ref ou)]) rfl ?_
  refine r_aload_n d_Lw_makeCores_0 rfl 3 rfl ?_
  refine r_iconst d_Lw_makeCores_1 (v := 0) (by decide) ?_
  refine r_aload_n d_Lw_makeCores_2 rfl 0 rfl ?_
  refine r_iload_n d_Lw_makeCores_3 rfl 1 rfl ?_
  refine r_iload_n d_Lw_makeCores_4 rfl 2 rfl ?_
  refine r_callVH (As := [.int c, .int k]) (rest := [.int 0, .ref ou]) (csC := [(a, .inr (11, [.ref pa, .ref ta, .ref sa, .ref gs, .ref co, .ref fu, .ref la, .ref gy, .ref du, .ref re, .ref wm, .ref ac])), (co, .inr (1, [.ref co1, .ref co2, .ref co3, .int (nI nl)])), (co1, .inl (0, 20, .inl cn)), (co2, .inl (0, 20, .inl cu)), (co3, .inl (0, 20, .inl ag))]) (is := [0, 1, 2, 3, 4]) (q0 := 0) rfl rfl ln_Lw_66 w_im_Ip_makeCores w_se_Ip_makeCores ok_Lw_makeCores_Ip_makeCores d_Lw_makeCores_5 (C_Ip_makeCoresE g a pa ta sa gs co fu la gy du re wm ac co1 co2 co3 cn cu ag nl hnl c k hw) rfl rfl (Nat.le_of_ble_eq_true rfl) rfl (by decide) (by omega) (by omega) (fun E cs1 hx => ?_) (fun v cs1 hx => ?_)
  · obtain ⟨e1, rfl⟩ := hx
    cases e1
    refine ⟨rfl, "java/lang/IllegalArgumentException", [], [(0, 10, 17, 69)], (0, 10, 13, 13), rfl, (fun z hz => nomatch hz), by decide, by decide, lx_Lw_13, ce_13, fun qx => ?_⟩
    refine r_cs (cs2 := [(a, .inr (11, [.ref pa, .ref ta, .ref sa, .ref gs, .ref co, .ref fu, .ref la, .ref gy, .ref du, .ref re, .ref wm, .ref ac])), (co, .inr (1, [.ref co1, .ref co2, .ref co3, .int (nI nl)])), (co1, .inl (0, 20, .inl cn)), (co2, .inl (0, 20, .inl cu)), (co3, .inl (0, 20, .inl ag)), (ou, .inl (3, 1, .inr (.inl of)))]) rfl ?_
    refine r_astore (lv' := [(4, .ref qx), (0, .ref a), (1, .int c), (2, .int k), (3, .ref ou)]) d_Lw_makeCores_13 (by decide) rfl ?_
    refine r_iconst d_Lw_makeCores_15 (v := 1) (by decide) ?_
    refine r_iret d_Lw_makeCores_16 rfl rfl ?_
    exact ⟨rfl, rfl⟩
  · exact absurd hx.1 (by simp)
theorem d_Lw_makeCores_8 : decode method_17_code 8 = .ok (.i2l, 1) := by decide +kernel
theorem d_Lw_makeCores_9 : decode method_17_code 9 = .ok (.lastore, 1) := by decide +kernel
theorem d_Lw_makeCores_10 : decode method_17_code 10 = .ok (.goto 11, 3) := by decide +kernel
theorem d_Lw_makeCores_21 : decode method_17_code 21 = .ok (.iconst 0, 1) := by decide +kernel
theorem d_Lw_makeCores_22 : decode method_17_code 22 = .ok (.ireturn, 1) := by decide +kernel
set_option maxHeartbeats 4000000 in
set_option maxRecDepth 100000 in
theorem C_Lw_makeCoresN (g : zG) (a pa ta sa gs co fu la gy du re wm ac : Nat) (co1 co2 co3 : Nat) (cn cu ag : Nat → Int32) (nl : Nat) (hnl : nl ≤ 20) (c k : Int32) (hw : (1 ≤ c ∧ c ≤ 10) ∧ (1 ≤ k ∧ k ≤ 24)) (hf : nl < 20) (ou : Nat) (of : Nat → Int64) : CT g M_Lw_makeCores [.ref a, .int c, .int k, .ref ou] [(a, .inr (11, [.ref pa, .ref ta, .ref sa, .ref gs, .ref co, .ref fu, .ref la, .ref gy, .ref du, .ref re, .ref wm, .ref ac])), (co, .inr (1, [.ref co1, .ref co2, .ref co3, .int (nI nl)])), (co1, .inl (0, 20, .inl cn)), (co2, .inl (0, 20, .inl cu)), (co3, .inl (0, 20, .inl ag)), (ou, .inl (3, 1, .inr (.inl of)))] (fun o cs1 => o = .inl (some (.int 0)) ∧ cs1 = [(a, .inr (11, [.ref pa, .ref ta, .ref sa, .ref gs, .ref co, .ref fu, .ref la, .ref gy, .ref du, .ref re, .ref wm, .ref ac])), (co, .inr (1, [.ref co1, .ref co2, .ref co3, .int (nI (nl + 1))])), (co1, .inl (0, 20, .inl (upd cn nl c))), (co2, .inl (0, 20, .inl (upd cu nl k))), (co3, .inl (0, 20, .inl (upd ag nl 0))), (ou, .inl (3, 1, .inr (.inl (vp_updL of 0 ((bx_sum (upd cn nl c) (nl + 1))).toInt64))))]) 1 6 := by
  refine z_ofH (by decide) (by decide) (Nat.le_of_ble_eq_true rfl) (fun w0 => ?_)
  refine r_lvE (lv2 := [(0, .ref a), (1, .int c), (2, .int k), (3, .ref ou)]) rfl ?_
  refine r_aload_n d_Lw_makeCores_0 rfl 3 rfl ?_
  refine r_iconst d_Lw_makeCores_1 (v := 0) (by decide) ?_
  refine r_aload_n d_Lw_makeCores_2 rfl 0 rfl ?_
  refine r_iload_n d_Lw_makeCores_3 rfl 1 rfl ?_
  refine r_iload_n d_Lw_makeCores_4 rfl 2 rfl ?_
  refine r_callVH (As := [.int c, .int k]) (rest := [.int 0, .ref ou]) (csC := [(a, .inr (11, [.ref pa, .ref ta, .ref sa, .ref gs, .ref co, .ref fu, .ref la, .ref gy, .ref du, .ref re, .ref wm, .ref ac])), (co, .inr (1, [.ref co1, .ref co2, .ref co3, .int (nI nl)])), (co1, .inl (0, 20, .inl cn)), (co2, .inl (0, 20, .inl cu)), (co3, .inl (0, 20, .inl ag))]) (is := [0, 1, 2, 3, 4]) (q0 := 0) rfl rfl ln_Lw_66 w_im_Ip_makeCores w_se_Ip_makeCores ok_Lw_makeCores_Ip_makeCores d_Lw_makeCores_5 (C_Ip_makeCoresN g a pa ta sa gs co fu la gy du re wm ac co1 co2 co3 cn cu ag nl hnl c k hw hf) rfl rfl (Nat.le_of_ble_eq_true rfl) rfl (by decide) (by omega) (by omega) (fun E cs1 hx => ?_) (fun v cs1 hx => ?_)
  · exact absurd hx.1 (by simp)
  · obtain ⟨e1, rfl⟩ := hx
    cases e1
    refine ⟨rfl, ?_⟩
    refine r_st (st2 := [.int (bx_sum (upd cn nl c) (nl + 1)), .int 0, .ref ou]) rfl ?_
    refine r_cs (cs2 := [(a, .inr (11, [.ref pa, .ref ta, .ref sa, .ref gs, .ref co, .ref fu, .ref la, .ref gy, .ref du, .ref re, .ref wm, .ref ac])), (co, .inr (1, [.ref co1, .ref co2, .ref co3, .int (nI (nl + 1))])), (co1, .inl (0, 20, .inl (upd cn nl c))), (co2, .inl (0, 20, .inl (upd cu nl k))), (co3, .inl (0, 20, .inl (upd ag nl 0))), (ou, .inl (3, 1, .inr (.inl of)))]) rfl ?_
    refine r_i2l d_Lw_makeCores_8 (v := (bx_sum (upd cn nl c) (nl + 1)).toInt64) rfl ?_
    refine r_last d_Lw_makeCores_9 (q0 := 5) rfl (fun q => q.elim (by decide) (by decide)) (f' := vp_updL of 0 ((bx_sum (upd cn nl c) (nl + 1)).toInt64)) rfl (cs' := [(a, .inr (11, [.ref pa, .ref ta, .ref sa, .ref gs, .ref co, .ref fu, .ref la, .ref gy, .ref du, .ref re, .ref wm, .ref ac])), (co, .inr (1, [.ref co1, .ref co2, .ref co3, .int (nI (nl + 1))])), (co1, .inl (0, 20, .inl (upd cn nl c))), (co2, .inl (0, 20, .inl (upd cu nl k))), (co3, .inl (0, 20, .inl (upd ag nl 0))), (ou, .inl (3, 1, .inr (.inl (vp_updL of 0 ((bx_sum (upd cn nl c) (nl + 1)).toInt64)))))]) rfl ?_
    refine r_goto (tgt := 21) d_Lw_makeCores_10 (by decide) ?_
    refine r_iconst d_Lw_makeCores_21 (v := 0) (by decide) ?_
    refine r_iret d_Lw_makeCores_22 rfl rfl ?_
    exact ⟨rfl, rfl⟩
abbrev M_Lw_hours : zM := (⟨"IronpourLaw", "hours", "(LIronpour;I[J)I"⟩, method_18_code, 4, (Option.some FieldType.int), 7, 121, [((0 : Nat), (9 : Nat), (12 : Nat), (13 : Nat))])
theorem d_Lw_hours_0 : decode method_18_code 0 = .ok (.aload_n 2, 1) := by decide +kernel
theorem d_Lw_hours_1 : decode method_18_code 1 = .ok (.iconst 0, 1) := by decide +kernel
theorem d_Lw_hours_2 : decode method_18_code 2 = .ok (.aload_n 0, 1) := by decide +kernel
theorem d_Lw_hours_3 : decode method_18_code 3 = .ok (.iload_n 1, 1) := by decide +kernel
theorem d_Lw_hours_4 : decode method_18_code 4 = .ok (.invokevirtual 71, 3) := by decide +kernel
theorem ok_Lw_hours_Ip_hours : z_okH M_Lw_hours M_Ip_hours 1 := ⟨z_mem (i := 1021) (by decide +kernel) (by decide +kernel), rfl, ⟨by decide +kernel, by decide +kernel, by decide +kernel⟩, ⟨by decide, by decide⟩, z_mem (i := 58) (by decide +kernel) (by decide +kernel)⟩
theorem ln_Lw_71 : Cond.methodLink "IronpourLaw" 71 M_Ip_hours.1 ∈ z_gw := z_mem (i := 1018) (by decide +kernel) (by decide +kernel)
theorem w_im_Ip_hours : Cond.instanceMethod M_Ip_hours.1 ∈ z_gw := z_mem (i := 1019) (by decide +kernel) (by decide +kernel)
theorem w_se_Ip_hours : Cond.selects M_Ip_hours.1.cls M_Ip_hours.1 M_Ip_hours.1 ∈ z_gw := z_mem (i := 1020) (by decide +kernel) (by decide +kernel)
theorem d_Lw_hours_12 : decode method_18_code 12 = .ok (.astore_n 3, 1) := by decide +kernel
theorem d_Lw_hours_13 : decode method_18_code 13 = .ok (.iconst 1, 1) := by decide +kernel
theorem d_Lw_hours_14 : decode method_18_code 14 = .ok (.ireturn, 1) := by decide +kernel
set_option maxHeartbeats 4000000 in
set_option maxRecDepth 100000 in
theorem C_Lw_hoursE (g : zG) (a pa ta sa gs co fu la gy du re wm ac : Nat) (co1 co2 co3 : Nat) (cn cu ag : Nat → Int32) (nl : Nat) (hnl : nl ≤ 20) (h : Int32) (hw : ¬ (1 ≤ h ∧ h ≤ 48)) (ou : Nat) (of : Nat → Int64) : CT g M_Lw_hours [.ref a, .int h, .ref ou] [(a, .inr (11, [.ref pa, .ref ta, .ref sa, .ref gs, .ref co, .ref fu, .ref la, .ref gy, .ref du, .ref re, .ref wm, .ref ac])), (co, .inr (1, [.ref co1, .ref co2, .ref co3, .int (nI nl)])), (co1, .inl (0, 20, .inl cn)), (co2, .inl (0, 20, .inl cu)), (co3, .inl (0, 20, .inl ag)), (ou, .inl (3, 1, .inr (.inl of)))] (fun o cs1 => o = .inl (some (.int 1)) ∧ cs1 = [(a, .inr (11, [.ref pa, .ref ta, .ref sa, .ref gs, .ref co, .ref fu, .ref la, .ref gy, .ref du, .ref re, .ref wm, .ref ac])), (co, .inr (1, [.ref co1, .ref co2, .ref co3, .int (nI nl)])), (co1, .inl (0, 20, .inl cn)), (co2, .inl (0, 20, .inl cu)), (co3, .inl (0, 20, .inl ag)), (ou, .inl (3, 1, .inr (.inl of)))]) 1 6 := by
  refine z_ofH (by decide) (by decide) (Nat.le_of_ble_eq_true rfl) (fun w0 => ?_)
  refine r_lvE (lv2 := [(0, .ref a), (1, .int h), (2, .ref ou)]) rfl ?_
  refine r_aload_n d_Lw_hours_0 rfl 2 rfl ?_
  refine r_iconst d_Lw_hours_1 (v := 0) (by decide) ?_
  refine r_aload_n d_Lw_hours_2 rfl 0 rfl ?_
  refine r_iload_n d_Lw_hours_3 rfl 1 rfl ?_
  refine r_callVH (As := [.int h]) (rest := [.int 0, .ref ou]) (csC := [(a, .inr (11, [.ref pa, .ref ta, .ref sa, .ref gs, .ref co, .ref fu, .ref la, .ref gy, .ref du, .ref re, .ref wm, .ref ac])), (co, .inr (1, [.ref co1, .ref co2, .ref co3, .int (nI nl)])), (co1, .inl (0, 20, .inl cn)), (co2, .inl (0, 20, .inl cu)), (co3, .inl (0, 20, .inl ag))]) (is := [0, 1, 2, 3, 4]) (q0 := 0) rfl rfl ln_Lw_71 w_im_Ip_hours w_se_Ip_hours ok_Lw_hours_Ip_hours d_Lw_hours_4 (C_Ip_hoursE g a pa ta sa gs co fu la gy du re wm ac co1 co2 co3 cn cu ag nl hnl h hw) rfl rfl (Nat.le_of_ble_eq_true rfl) rfl (by decide) (by omega) (by omega) (fun E cs1 hx => ?_) (fun v cs1 hx => ?_)
  · obtain ⟨e1, rfl⟩ := hx
    cases e1
    refine ⟨rfl, "java/lang/IllegalArgumentException", [], [], (0, 9, 12, 13), rfl, (fun z hz => nomatch hz), by decide, by decide, lx_Lw_13, ce_13, fun qx => ?_⟩
    refine r_cs (cs2 := [(a, .inr (11, [.ref pa, .ref ta, .ref sa, .ref gs, .ref co, .ref fu, .ref la, .ref gy, .ref du, .ref re, .ref wm, .ref ac])), (co, .inr (1, [.ref co1, .ref co2, .ref co3, .int (nI nl)])), (co1, .inl (0, 20, .inl cn)), (co2, .inl (0, 20, .inl cu)), (co3, .inl (0, 20, .inl ag)), (ou, .inl (3, 1, .inr (.inl of)))]) rfl ?_
    refine r_astore_n (lv' := [(3, .ref qx), (0, .ref a), (1, .int h), (2, .ref ou)]) d_Lw_hours_12 rfl (by decide) rfl ?_
    refine r_iconst d_Lw_hours_13 (v := 1) (by decide) ?_
    refine r_iret d_Lw_hours_14 rfl rfl ?_
    exact ⟨rfl, rfl⟩
  · exact absurd hx.1 (by simp)
theorem d_Lw_hours_7 : decode method_18_code 7 = .ok (.i2l, 1) := by decide +kernel
theorem d_Lw_hours_8 : decode method_18_code 8 = .ok (.lastore, 1) := by decide +kernel
theorem d_Lw_hours_9 : decode method_18_code 9 = .ok (.goto 6, 3) := by decide +kernel
theorem d_Lw_hours_15 : decode method_18_code 15 = .ok (.iconst 0, 1) := by decide +kernel
theorem d_Lw_hours_16 : decode method_18_code 16 = .ok (.ireturn, 1) := by decide +kernel
set_option maxHeartbeats 4000000 in
set_option maxRecDepth 100000 in
theorem C_Lw_hoursN (g : zG) (a pa ta sa gs co fu la gy du re wm ac : Nat) (co1 co2 co3 : Nat) (cn cu ag : Nat → Int32) (nl : Nat) (hnl : nl ≤ 20) (h : Int32) (hw : (1 ≤ h ∧ h ≤ 48)) (ou : Nat) (of : Nat → Int64) : CT g M_Lw_hours [.ref a, .int h, .ref ou] [(a, .inr (11, [.ref pa, .ref ta, .ref sa, .ref gs, .ref co, .ref fu, .ref la, .ref gy, .ref du, .ref re, .ref wm, .ref ac])), (co, .inr (1, [.ref co1, .ref co2, .ref co3, .int (nI nl)])), (co1, .inl (0, 20, .inl cn)), (co2, .inl (0, 20, .inl cu)), (co3, .inl (0, 20, .inl ag)), (ou, .inl (3, 1, .inr (.inl of)))] (fun o cs1 => o = .inl (some (.int 0)) ∧ cs1 = [(a, .inr (11, [.ref pa, .ref ta, .ref sa, .ref gs, .ref co, .ref fu, .ref la, .ref gy, .ref du, .ref re, .ref wm, .ref ac])), (co, .inr (1, [.ref co1, .ref co2, .ref co3, .int (nI (dlS (gwS cn cu ag h nl).1 cu (gwS cn cu ag h nl).2.1 nl).1)])), (co1, .inl (0, 20, .inl ((dlS (gwS cn cu ag h nl).1 cu (gwS cn cu ag h nl).2.1 nl).2.1))), (co2, .inl (0, 20, .inl ((dlS (gwS cn cu ag h nl).1 cu (gwS cn cu ag h nl).2.1 nl).2.2.1))), (co3, .inl (0, 20, .inl ((dlS (gwS cn cu ag h nl).1 cu (gwS cn cu ag h nl).2.1 nl).2.2.2))), (ou, .inl (3, 1, .inr (.inl (vp_updL of 0 (((gwS cn cu ag h nl).2.2)).toInt64))))]) 1 6 := by
  refine z_ofH (by decide) (by decide) (Nat.le_of_ble_eq_true rfl) (fun w0 => ?_)
  refine r_lvE (lv2 := [(0, .ref a), (1, .int h), (2, .ref ou)]) rfl ?_
  refine r_aload_n d_Lw_hours_0 rfl 2 rfl ?_
  refine r_iconst d_Lw_hours_1 (v := 0) (by decide) ?_
  refine r_aload_n d_Lw_hours_2 rfl 0 rfl ?_
  refine r_iload_n d_Lw_hours_3 rfl 1 rfl ?_
  refine r_callVH (As := [.int h]) (rest := [.int 0, .ref ou]) (csC := [(a, .inr (11, [.ref pa, .ref ta, .ref sa, .ref gs, .ref co, .ref fu, .ref la, .ref gy, .ref du, .ref re, .ref wm, .ref ac])), (co, .inr (1, [.ref co1, .ref co2, .ref co3, .int (nI nl)])), (co1, .inl (0, 20, .inl cn)), (co2, .inl (0, 20, .inl cu)), (co3, .inl (0, 20, .inl ag))]) (is := [0, 1, 2, 3, 4]) (q0 := 0) rfl rfl ln_Lw_71 w_im_Ip_hours w_se_Ip_hours ok_Lw_hours_Ip_hours d_Lw_hours_4 (C_Ip_hoursN g a pa ta sa gs co fu la gy du re wm ac co1 co2 co3 cn cu ag nl hnl h hw) rfl rfl (Nat.le_of_ble_eq_true rfl) rfl (by decide) (by omega) (by omega) (fun E cs1 hx => ?_) (fun v cs1 hx => ?_)
  · exact absurd hx.1 (by simp)
  · obtain ⟨e1, rfl⟩ := hx
    cases e1
    refine ⟨rfl, ?_⟩
    refine r_st (st2 := [.int ((gwS cn cu ag h nl).2.2), .int 0, .ref ou]) rfl ?_
    refine r_cs (cs2 := [(a, .inr (11, [.ref pa, .ref ta, .ref sa, .ref gs, .ref co, .ref fu, .ref la, .ref gy, .ref du, .ref re, .ref wm, .ref ac])), (co, .inr (1, [.ref co1, .ref co2, .ref co3, .int (nI (dlS (gwS cn cu ag h nl).1 cu (gwS cn cu ag h nl).2.1 nl).1)])), (co1, .inl (0, 20, .inl ((dlS (gwS cn cu ag h nl).1 cu (gwS cn cu ag h nl).2.1 nl).2.1))), (co2, .inl (0, 20, .inl ((dlS (gwS cn cu ag h nl).1 cu (gwS cn cu ag h nl).2.1 nl).2.2.1))), (co3, .inl (0, 20, .inl ((dlS (gwS cn cu ag h nl).1 cu (gwS cn cu ag h nl).2.1 nl).2.2.2))), (ou, .inl (3, 1, .inr (.inl of)))]) rfl ?_
    refine r_i2l d_Lw_hours_7 (v := ((gwS cn cu ag h nl).2.2).toInt64) rfl ?_
    refine r_last d_Lw_hours_8 (q0 := 5) rfl (fun q => q.elim (by decide) (by decide)) (f' := vp_updL of 0 (((gwS cn cu ag h nl).2.2).toInt64)) rfl (cs' := [(a, .inr (11, [.ref pa, .ref ta, .ref sa, .ref gs, .ref co, .ref fu, .ref la, .ref gy, .ref du, .ref re, .ref wm, .ref ac])), (co, .inr (1, [.ref co1, .ref co2, .ref co3, .int (nI (dlS (gwS cn cu ag h nl).1 cu (gwS cn cu ag h nl).2.1 nl).1)])), (co1, .inl (0, 20, .inl ((dlS (gwS cn cu ag h nl).1 cu (gwS cn cu ag h nl).2.1 nl).2.1))), (co2, .inl (0, 20, .inl ((dlS (gwS cn cu ag h nl).1 cu (gwS cn cu ag h nl).2.1 nl).2.2.1))), (co3, .inl (0, 20, .inl ((dlS (gwS cn cu ag h nl).1 cu (gwS cn cu ag h nl).2.1 nl).2.2.2))), (ou, .inl (3, 1, .inr (.inl (vp_updL of 0 (((gwS cn cu ag h nl).2.2).toInt64)))))]) rfl ?_
    refine r_goto (tgt := 15) d_Lw_hours_9 (by decide) ?_
    refine r_iconst d_Lw_hours_15 (v := 0) (by decide) ?_
    refine r_iret d_Lw_hours_16 rfl rfl ?_
    exact ⟨rfl, rfl⟩
abbrev M_Lw_charge : zM := (⟨"IronpourLaw", "charge", "(LIronpour;CI[J)I"⟩, method_19_code, 5, (Option.some FieldType.int), 9, 203, [((0 : Nat), (10 : Nat), (13 : Nat), (13 : Nat)), ((0 : Nat), (10 : Nat), (17 : Nat), (78 : Nat)), ((0 : Nat), (10 : Nat), (21 : Nat), (69 : Nat))])
theorem d_Lw_charge_0 : decode method_19_code 0 = .ok (.aload_n 3, 1) := by decide +kernel
theorem d_Lw_charge_1 : decode method_19_code 1 = .ok (.iconst 0, 1) := by decide +kernel
theorem d_Lw_charge_2 : decode method_19_code 2 = .ok (.aload_n 0, 1) := by decide +kernel
theorem d_Lw_charge_3 : decode method_19_code 3 = .ok (.iload_n 1, 1) := by decide +kernel
theorem d_Lw_charge_4 : decode method_19_code 4 = .ok (.iload_n 2, 1) := by decide +kernel
theorem d_Lw_charge_5 : decode method_19_code 5 = .ok (.invokevirtual 74, 3) := by decide +kernel
theorem ok_Lw_charge_Ip_charge : z_okH M_Lw_charge M_Ip_charge 2 := ⟨z_mem (i := 1038) (by decide +kernel) (by decide +kernel), rfl, ⟨by decide +kernel, by decide +kernel, by decide +kernel⟩, ⟨by decide, by decide⟩, z_mem (i := 58) (by decide +kernel) (by decide +kernel)⟩
theorem ln_Lw_74 : Cond.methodLink "IronpourLaw" 74 M_Ip_charge.1 ∈ z_gw := z_mem (i := 1035) (by decide +kernel) (by decide +kernel)
theorem w_im_Ip_charge : Cond.instanceMethod M_Ip_charge.1 ∈ z_gw := z_mem (i := 1036) (by decide +kernel) (by decide +kernel)
theorem w_se_Ip_charge : Cond.selects M_Ip_charge.1.cls M_Ip_charge.1 M_Ip_charge.1 ∈ z_gw := z_mem (i := 1037) (by decide +kernel) (by decide +kernel)
theorem d_Lw_charge_13 : decode method_19_code 13 = .ok (.astore 4, 2) := by decide +kernel
theorem d_Lw_charge_15 : decode method_19_code 15 = .ok (.iconst 1, 1) := by decide +kernel
theorem d_Lw_charge_16 : decode method_19_code 16 = .ok (.ireturn, 1) := by decide +kernel
set_option maxHeartbeats 4000000 in
set_option maxRecDepth 100000 in
theorem C_Lw_chargeE (g : zG) (a pa ta sa gs co fu la gy du re wm ac : Nat) (lab labg gyg dug fub fubg fut1 fut2 fut3 : Nat) (gr T1 T2 T3 g1 g2 : Nat → Int64) (ir i1 i2 : Int32) (io : Int64) (m : Int32) (k : Int32) (hw : ¬ (0 ≤ z_ix 1 k ∧ (1 ≤ m ∧ m ≤ 1000))) (ou : Nat) (of : Nat → Int64) : CT g M_Lw_charge [.ref a, .int k, .int m, .ref ou] [(a, .inr (11, [.ref pa, .ref ta, .ref sa, .ref gs, .ref co, .ref fu, .ref la, .ref gy, .ref du, .ref re, .ref wm, .ref ac])), (fu, .inr (3, [.ref fub, .ref fut1, .ref fut2, .ref fut3, .long io])), (fub, .inr (6, [.ref fubg, .int ir])), (fubg, .inl (3, 4, .inr (.inl gr))), (fut1, .inl (3, 4, .inr (.inl T1))), (fut2, .inl (3, 4, .inr (.inl T2))), (fut3, .inl (3, 4, .inr (.inl T3))), (gy, .inr (6, [.ref gyg, .int i1])), (gyg, .inl (3, 4, .inr (.inl g1))), (du, .inr (6, [.ref dug, .int i2])), (dug, .inl (3, 4, .inr (.inl g2))), (ou, .inl (3, 1, .inr (.inl of)))] (fun o cs1 => o = .inl (some (.int 1)) ∧ cs1 = [(a, .inr (11, [.ref pa, .ref ta, .ref sa, .ref gs, .ref co, .ref fu, .ref la, .ref gy, .ref du, .ref re, .ref wm, .ref ac])), (fu, .inr (3, [.ref fub, .ref fut1, .ref fut2, .ref fut3, .long io])), (fub, .inr (6, [.ref fubg, .int ir])), (fubg, .inl (3, 4, .inr (.inl gr))), (fut1, .inl (3, 4, .inr (.inl T1))), (fut2, .inl (3, 4, .inr (.inl T2))), (fut3, .inl (3, 4, .inr (.inl T3))), (gy, .inr (6, [.ref gyg, .int i1])), (gyg, .inl (3, 4, .inr (.inl g1))), (du, .inr (6, [.ref dug, .int i2])), (dug, .inl (3, 4, .inr (.inl g2))), (ou, .inl (3, 1, .inr (.inl of)))]) 1 6 := by
  refine z_ofH (by decide) (by decide) (Nat.le_of_ble_eq_true rfl) (fun w0 => ?_)
  refine r_lvE (lv2 := [(0, .ref a), (1, .int k), (2, .int m), (3, .ref ou)]) rfl ?_
  refine r_aload_n d_Lw_charge_0 rfl 3 rfl ?_
  refine r_iconst d_Lw_charge_1 (v := 0) (by decide) ?_
  refine r_aload_n d_Lw_charge_2 rfl 0 rfl ?_
  refine r_iload_n d_Lw_charge_3 rfl 1 rfl ?_
  refine r_iload_n d_Lw_charge_4 rfl 2 rfl ?_
  refine r_callVH (As := [.int k, .int m]) (rest := [.int 0, .ref ou]) (csC := [(a, .inr (11, [.ref pa, .ref ta, .ref sa, .ref gs, .ref co, .ref fu, .ref la, .ref gy, .ref du, .ref re, .ref wm, .ref ac])), (fu, .inr (3, [.ref fub, .ref fut1, .ref fut2, .ref fut3, .long io])), (fub, .inr (6, [.ref fubg, .int ir])), (fubg, .inl (3, 4, .inr (.inl gr))), (fut1, .inl (3, 4, .inr (.inl T1))), (fut2, .inl (3, 4, .inr (.inl T2))), (fut3, .inl (3, 4, .inr (.inl T3))), (gy, .inr (6, [.ref gyg, .int i1])), (gyg, .inl (3, 4, .inr (.inl g1))), (du, .inr (6, [.ref dug, .int i2])), (dug, .inl (3, 4, .inr (.inl g2)))]) (is := [0, 1, 2, 3, 4, 5, 6, 7, 8, 9, 10]) (q0 := 0) rfl rfl ln_Lw_74 w_im_Ip_charge w_se_Ip_charge ok_Lw_charge_Ip_charge d_Lw_charge_5 (C_Ip_chargeE g a pa ta sa gs co fu la gy du re wm ac lab labg gyg dug fub fubg fut1 fut2 fut3 gr T1 T2 T3 g1 g2 ir i1 i2 io m k hw) rfl rfl (Nat.le_of_ble_eq_true rfl) rfl (by decide) (by omega) (by omega) (fun E cs1 hx => ?_) (fun v cs1 hx => ?_)
  · obtain ⟨e1, rfl⟩ := hx
    cases e1
    refine ⟨rfl, "java/lang/IllegalArgumentException", [], [(0, 10, 17, 78), (0, 10, 21, 69)], (0, 10, 13, 13), rfl, (fun z hz => nomatch hz), by decide, by decide, lx_Lw_13, ce_13, fun qx => ?_⟩
    refine r_cs (cs2 := [(a, .inr (11, [.ref pa, .ref ta, .ref sa, .ref gs, .ref co, .ref fu, .ref la, .ref gy, .ref du, .ref re, .ref wm, .ref ac])), (fu, .inr (3, [.ref fub, .ref fut1, .ref fut2, .ref fut3, .long io])), (fub, .inr (6, [.ref fubg, .int ir])), (fubg, .inl (3, 4, .inr (.inl gr))), (fut1, .inl (3, 4, .inr (.inl T1))), (fut2, .inl (3, 4, .inr (.inl T2))), (fut3, .inl (3, 4, .inr (.inl T3))), (gy, .inr (6, [.ref gyg, .int i1])), (gyg, .inl (3, 4, .inr (.inl g1))), (du, .inr (6, [.ref dug, .int i2])), (dug, .inl (3, 4, .inr (.inl g2))), (ou, .inl (3, 1, .inr (.inl of)))]) rfl ?_
    refine r_astore (lv' := [(4, .ref qx), (0, .ref a), (1, .int k), (2, .int m), (3, .ref ou)]) d_Lw_charge_13 (by decide) rfl ?_
    refine r_iconst d_Lw_charge_15 (v := 1) (by decide) ?_
    refine r_iret d_Lw_charge_16 rfl rfl ?_
    exact ⟨rfl, rfl⟩
  · exact absurd hx.1 (by simp)
theorem ce_78 : Cond.castable "java/lang/UnsupportedOperationException" "java/lang/UnsupportedOperationException" ∈ z_nw := z_memN (i := 1047) (by decide +kernel) (by decide +kernel)
theorem lx_Lw_78 : Cond.classLink "IronpourLaw" 78 "java/lang/UnsupportedOperationException" ∈ z_gw := z_mem (i := 1034) (by decide +kernel) (by decide +kernel)
theorem d_Lw_charge_17 : decode method_19_code 17 = .ok (.astore 4, 2) := by decide +kernel
theorem d_Lw_charge_19 : decode method_19_code 19 = .ok (.iconst 2, 1) := by decide +kernel
theorem d_Lw_charge_20 : decode method_19_code 20 = .ok (.ireturn, 1) := by decide +kernel
set_option maxHeartbeats 4000000 in
set_option maxRecDepth 100000 in
theorem C_Lw_charge103F (g : zG) (a pa ta sa gs co fu la gy du re wm ac : Nat) (lab labg gyg dug fub fubg fut1 fut2 fut3 : Nat) (gr T1 T2 T3 g1 g2 : Nat → Int64) (ir i1 i2 : Int32) (io : Int64) (m : Int32) (hw : (1 ≤ m ∧ m ≤ 1000)) (hf : i1 < m) (ou : Nat) (of : Nat → Int64) : CT g M_Lw_charge [.ref a, .int 103, .int m, .ref ou] [(a, .inr (11, [.ref pa, .ref ta, .ref sa, .ref gs, .ref co, .ref fu, .ref la, .ref gy, .ref du, .ref re, .ref wm, .ref ac])), (fu, .inr (3, [.ref fub, .ref fut1, .ref fut2, .ref fut3, .long io])), (fub, .inr (6, [.ref fubg, .int ir])), (fubg, .inl (3, 4, .inr (.inl gr))), (fut1, .inl (3, 4, .inr (.inl T1))), (fut2, .inl (3, 4, .inr (.inl T2))), (fut3, .inl (3, 4, .inr (.inl T3))), (gy, .inr (6, [.ref gyg, .int i1])), (gyg, .inl (3, 4, .inr (.inl g1))), (du, .inr (6, [.ref dug, .int i2])), (dug, .inl (3, 4, .inr (.inl g2))), (ou, .inl (3, 1, .inr (.inl of)))] (fun o cs1 => o = .inl (some (.int 2)) ∧ cs1 = [(a, .inr (11, [.ref pa, .ref ta, .ref sa, .ref gs, .ref co, .ref fu, .ref la, .ref gy, .ref du, .ref re, .ref wm, .ref ac])), (fu, .inr (3, [.ref fub, .ref fut1, .ref fut2, .ref fut3, .long io])), (fub, .inr (6, [.ref fubg, .int ir])), (fubg, .inl (3, 4, .inr (.inl gr))), (fut1, .inl (3, 4, .inr (.inl T1))), (fut2, .inl (3, 4, .inr (.inl T2))), (fut3, .inl (3, 4, .inr (.inl T3))), (gy, .inr (6, [.ref gyg, .int i1])), (gyg, .inl (3, 4, .inr (.inl g1))), (du, .inr (6, [.ref dug, .int i2])), (dug, .inl (3, 4, .inr (.inl g2))), (ou, .inl (3, 1, .inr (.inl of)))]) 1 6 := by
  refine z_ofH (by decide) (by decide) (Nat.le_of_ble_eq_true rfl) (fun w0 => ?_)
  refine r_lvE (lv2 := [(0, .ref a), (1, .int 103), (2, .int m), (3, .ref ou)]) rfl ?_
  refine r_aload_n d_Lw_charge_0 rfl 3 rfl ?_
  refine r_iconst d_Lw_charge_1 (v := 0) (by decide) ?_
  refine r_aload_n d_Lw_charge_2 rfl 0 rfl ?_
  refine r_iload_n d_Lw_charge_3 rfl 1 rfl ?_
  refine r_iload_n d_Lw_charge_4 rfl 2 rfl ?_
  refine r_callVH (As := [.int 103, .int m]) (rest := [.int 0, .ref ou]) (csC := [(a, .inr (11, [.ref pa, .ref ta, .ref sa, .ref gs, .ref co, .ref fu, .ref la, .ref gy, .ref du, .ref re, .ref wm, .ref ac])), (fu, .inr (3, [.ref fub, .ref fut1, .ref fut2, .ref fut3, .long io])), (fub, .inr (6, [.ref fubg, .int ir])), (fubg, .inl (3, 4, .inr (.inl gr))), (fut1, .inl (3, 4, .inr (.inl T1))), (fut2, .inl (3, 4, .inr (.inl T2))), (fut3, .inl (3, 4, .inr (.inl T3))), (gy, .inr (6, [.ref gyg, .int i1])), (gyg, .inl (3, 4, .inr (.inl g1))), (du, .inr (6, [.ref dug, .int i2])), (dug, .inl (3, 4, .inr (.inl g2)))]) (is := [0, 1, 2, 3, 4, 5, 6, 7, 8, 9, 10]) (q0 := 0) rfl rfl ln_Lw_74 w_im_Ip_charge w_se_Ip_charge ok_Lw_charge_Ip_charge d_Lw_charge_5 (C_Ip_charge103F g a pa ta sa gs co fu la gy du re wm ac lab labg gyg dug fub fubg fut1 fut2 fut3 gr T1 T2 T3 g1 g2 ir i1 i2 io m hw hf) rfl rfl (Nat.le_of_ble_eq_true rfl) rfl (by decide) (by omega) (by omega) (fun E cs1 hx => ?_) (fun v cs1 hx => ?_)
  · obtain ⟨e1, rfl⟩ := hx
    cases e1
    refine ⟨rfl, "java/lang/UnsupportedOperationException", [(0, 10, 13, 13)], [(0, 10, 21, 69)], (0, 10, 17, 78), rfl, (fun z hz => by simp only [List.mem_cons, List.not_mem_nil, or_false] at hz; rcases hz with rfl; exact Or.inr ⟨by decide, _, lx_Lw_13, by decide⟩), by decide, by decide, lx_Lw_78, ce_78, fun qx => ?_⟩
    refine r_cs (cs2 := [(a, .inr (11, [.ref pa, .ref ta, .ref sa, .ref gs, .ref co, .ref fu, .ref la, .ref gy, .ref du, .ref re, .ref wm, .ref ac])), (fu, .inr (3, [.ref fub, .ref fut1, .ref fut2, .ref fut3, .long io])), (fub, .inr (6, [.ref fubg, .int ir])), (fubg, .inl (3, 4, .inr (.inl gr))), (fut1, .inl (3, 4, .inr (.inl T1))), (fut2, .inl (3, 4, .inr (.inl T2))), (fut3, .inl (3, 4, .inr (.inl T3))), (gy, .inr (6, [.ref gyg, .int i1])), (gyg, .inl (3, 4, .inr (.inl g1))), (du, .inr (6, [.ref dug, .int i2])), (dug, .inl (3, 4, .inr (.inl g2))), (ou, .inl (3, 1, .inr (.inl of)))]) rfl ?_
    refine r_astore (lv' := [(4, .ref qx), (0, .ref a), (1, .int 103), (2, .int m), (3, .ref ou)]) d_Lw_charge_17 (by decide) rfl ?_
    refine r_iconst d_Lw_charge_19 (v := 2) (by decide) ?_
    refine r_iret d_Lw_charge_20 rfl rfl ?_
    exact ⟨rfl, rfl⟩
  · exact absurd hx.1 (by simp)
set_option maxHeartbeats 4000000 in
set_option maxRecDepth 100000 in
theorem C_Lw_charge100F (g : zG) (a pa ta sa gs co fu la gy du re wm ac : Nat) (lab labg gyg dug fub fubg fut1 fut2 fut3 : Nat) (gr T1 T2 T3 g1 g2 : Nat → Int64) (ir i1 i2 : Int32) (io : Int64) (m : Int32) (hw : (1 ≤ m ∧ m ≤ 1000)) (hf : i2 < m) (ou : Nat) (of : Nat → Int64) : CT g M_Lw_charge [.ref a, .int 100, .int m, .ref ou] [(a, .inr (11, [.ref pa, .ref ta, .ref sa, .ref gs, .ref co, .ref fu, .ref la, .ref gy, .ref du, .ref re, .ref wm, .ref ac])), (fu, .inr (3, [.ref fub, .ref fut1, .ref fut2, .ref fut3, .long io])), (fub, .inr (6, [.ref fubg, .int ir])), (fubg, .inl (3, 4, .inr (.inl gr))), (fut1, .inl (3, 4, .inr (.inl T1))), (fut2, .inl (3, 4, .inr (.inl T2))), (fut3, .inl (3, 4, .inr (.inl T3))), (gy, .inr (6, [.ref gyg, .int i1])), (gyg, .inl (3, 4, .inr (.inl g1))), (du, .inr (6, [.ref dug, .int i2])), (dug, .inl (3, 4, .inr (.inl g2))), (ou, .inl (3, 1, .inr (.inl of)))] (fun o cs1 => o = .inl (some (.int 2)) ∧ cs1 = [(a, .inr (11, [.ref pa, .ref ta, .ref sa, .ref gs, .ref co, .ref fu, .ref la, .ref gy, .ref du, .ref re, .ref wm, .ref ac])), (fu, .inr (3, [.ref fub, .ref fut1, .ref fut2, .ref fut3, .long io])), (fub, .inr (6, [.ref fubg, .int ir])), (fubg, .inl (3, 4, .inr (.inl gr))), (fut1, .inl (3, 4, .inr (.inl T1))), (fut2, .inl (3, 4, .inr (.inl T2))), (fut3, .inl (3, 4, .inr (.inl T3))), (gy, .inr (6, [.ref gyg, .int i1])), (gyg, .inl (3, 4, .inr (.inl g1))), (du, .inr (6, [.ref dug, .int i2])), (dug, .inl (3, 4, .inr (.inl g2))), (ou, .inl (3, 1, .inr (.inl of)))]) 1 6 := by
  refine z_ofH (by decide) (by decide) (Nat.le_of_ble_eq_true rfl) (fun w0 => ?_)
  refine r_lvE (lv2 := [(0, .ref a), (1, .int 100), (2, .int m), (3, .ref ou)]) rfl ?_
  refine r_aload_n d_Lw_charge_0 rfl 3 rfl ?_
  refine r_iconst d_Lw_charge_1 (v := 0) (by decide) ?_
  refine r_aload_n d_Lw_charge_2 rfl 0 rfl ?_
  refine r_iload_n d_Lw_charge_3 rfl 1 rfl ?_
  refine r_iload_n d_Lw_charge_4 rfl 2 rfl ?_
  refine r_callVH (As := [.int 100, .int m]) (rest := [.int 0, .ref ou]) (csC := [(a, .inr (11, [.ref pa, .ref ta, .ref sa, .ref gs, .ref co, .ref fu, .ref la, .ref gy, .ref du, .ref re, .ref wm, .ref ac])), (fu, .inr (3, [.ref fub, .ref fut1, .ref fut2, .ref fut3, .long io])), (fub, .inr (6, [.ref fubg, .int ir])), (fubg, .inl (3, 4, .inr (.inl gr))), (fut1, .inl (3, 4, .inr (.inl T1))), (fut2, .inl (3, 4, .inr (.inl T2))), (fut3, .inl (3, 4, .inr (.inl T3))), (gy, .inr (6, [.ref gyg, .int i1])), (gyg, .inl (3, 4, .inr (.inl g1))), (du, .inr (6, [.ref dug, .int i2])), (dug, .inl (3, 4, .inr (.inl g2)))]) (is := [0, 1, 2, 3, 4, 5, 6, 7, 8, 9, 10]) (q0 := 0) rfl rfl ln_Lw_74 w_im_Ip_charge w_se_Ip_charge ok_Lw_charge_Ip_charge d_Lw_charge_5 (C_Ip_charge100F g a pa ta sa gs co fu la gy du re wm ac lab labg gyg dug fub fubg fut1 fut2 fut3 gr T1 T2 T3 g1 g2 ir i1 i2 io m hw hf) rfl rfl (Nat.le_of_ble_eq_true rfl) rfl (by decide) (by omega) (by omega) (fun E cs1 hx => ?_) (fun v cs1 hx => ?_)
  · obtain ⟨e1, rfl⟩ := hx
    cases e1
    refine ⟨rfl, "java/lang/UnsupportedOperationException", [(0, 10, 13, 13)], [(0, 10, 21, 69)], (0, 10, 17, 78), rfl, (fun z hz => by simp only [List.mem_cons, List.not_mem_nil, or_false] at hz; rcases hz with rfl; exact Or.inr ⟨by decide, _, lx_Lw_13, by decide⟩), by decide, by decide, lx_Lw_78, ce_78, fun qx => ?_⟩
    refine r_cs (cs2 := [(a, .inr (11, [.ref pa, .ref ta, .ref sa, .ref gs, .ref co, .ref fu, .ref la, .ref gy, .ref du, .ref re, .ref wm, .ref ac])), (fu, .inr (3, [.ref fub, .ref fut1, .ref fut2, .ref fut3, .long io])), (fub, .inr (6, [.ref fubg, .int ir])), (fubg, .inl (3, 4, .inr (.inl gr))), (fut1, .inl (3, 4, .inr (.inl T1))), (fut2, .inl (3, 4, .inr (.inl T2))), (fut3, .inl (3, 4, .inr (.inl T3))), (gy, .inr (6, [.ref gyg, .int i1])), (gyg, .inl (3, 4, .inr (.inl g1))), (du, .inr (6, [.ref dug, .int i2])), (dug, .inl (3, 4, .inr (.inl g2))), (ou, .inl (3, 1, .inr (.inl of)))]) rfl ?_
    refine r_astore (lv' := [(4, .ref qx), (0, .ref a), (1, .int 100), (2, .int m), (3, .ref ou)]) d_Lw_charge_17 (by decide) rfl ?_
    refine r_iconst d_Lw_charge_19 (v := 2) (by decide) ?_
    refine r_iret d_Lw_charge_20 rfl rfl ?_
    exact ⟨rfl, rfl⟩
  · exact absurd hx.1 (by simp)
theorem d_Lw_charge_8 : decode method_19_code 8 = .ok (.i2l, 1) := by decide +kernel
theorem d_Lw_charge_9 : decode method_19_code 9 = .ok (.lastore, 1) := by decide +kernel
theorem d_Lw_charge_10 : decode method_19_code 10 = .ok (.goto 15, 3) := by decide +kernel
theorem d_Lw_charge_25 : decode method_19_code 25 = .ok (.iconst 0, 1) := by decide +kernel
theorem d_Lw_charge_26 : decode method_19_code 26 = .ok (.ireturn, 1) := by decide +kernel
set_option maxHeartbeats 4000000 in
set_option maxRecDepth 100000 in
theorem C_Lw_charge112N (g : zG) (a pa ta sa gs co fu la gy du re wm ac : Nat) (lab labg gyg dug fub fubg fut1 fut2 fut3 : Nat) (gr T1 T2 T3 g1 g2 : Nat → Int64) (ir i1 i2 : Int32) (io : Int64) (m : Int32) (hw : (1 ≤ m ∧ m ≤ 1000)) (hg : ¬ 3000 < ir + m) (ou : Nat) (of : Nat → Int64) : CT g M_Lw_charge [.ref a, .int 112, .int m, .ref ou] [(a, .inr (11, [.ref pa, .ref ta, .ref sa, .ref gs, .ref co, .ref fu, .ref la, .ref gy, .ref du, .ref re, .ref wm, .ref ac])), (fu, .inr (3, [.ref fub, .ref fut1, .ref fut2, .ref fut3, .long io])), (fub, .inr (6, [.ref fubg, .int ir])), (fubg, .inl (3, 4, .inr (.inl gr))), (fut1, .inl (3, 4, .inr (.inl T1))), (fut2, .inl (3, 4, .inr (.inl T2))), (fut3, .inl (3, 4, .inr (.inl T3))), (gy, .inr (6, [.ref gyg, .int i1])), (gyg, .inl (3, 4, .inr (.inl g1))), (du, .inr (6, [.ref dug, .int i2])), (dug, .inl (3, 4, .inr (.inl g2))), (ou, .inl (3, 1, .inr (.inl of)))] (fun o cs1 => o = .inl (some (.int 0)) ∧ cs1 = [(a, .inr (11, [.ref pa, .ref ta, .ref sa, .ref gs, .ref co, .ref fu, .ref la, .ref gy, .ref du, .ref re, .ref wm, .ref ac])), (fu, .inr (3, [.ref fub, .ref fut1, .ref fut2, .ref fut3, .long (io + (m : Int32).toInt64)])), (fub, .inr (6, [.ref fubg, .int (ir + m)])), (fubg, .inl (3, 4, .inr (.inl (lfd gr (fun e => chS m 0 e / 10) 4)))), (fut1, .inl (3, 4, .inr (.inl (lfd T1 (fun e => chS m 0 e) 4)))), (fut2, .inl (3, 4, .inr (.inl (lfd T2 (fun e => chS m 0 e - chS m 0 e / 10 * 10) 4)))), (fut3, .inl (3, 4, .inr (.inl T3))), (gy, .inr (6, [.ref gyg, .int i1])), (gyg, .inl (3, 4, .inr (.inl g1))), (du, .inr (6, [.ref dug, .int i2])), (dug, .inl (3, 4, .inr (.inl g2))), (ou, .inl (3, 1, .inr (.inl (vp_updL of 0 ((ir + m)).toInt64))))]) 1 6 := by
  refine z_ofH (by decide) (by decide) (Nat.le_of_ble_eq_true rfl) (fun w0 => ?_)
  refine r_lvE (lv2 := [(0, .ref a), (1, .int 112), (2, .int m), (3, .ref ou)]) rfl ?_
  refine r_aload_n d_Lw_charge_0 rfl 3 rfl ?_
  refine r_iconst d_Lw_charge_1 (v := 0) (by decide) ?_
  refine r_aload_n d_Lw_charge_2 rfl 0 rfl ?_
  refine r_iload_n d_Lw_charge_3 rfl 1 rfl ?_
  refine r_iload_n d_Lw_charge_4 rfl 2 rfl ?_
  refine r_callVH (As := [.int 112, .int m]) (rest := [.int 0, .ref ou]) (csC := [(a, .inr (11, [.ref pa, .ref ta, .ref sa, .ref gs, .ref co, .ref fu, .ref la, .ref gy, .ref du, .ref re, .ref wm, .ref ac])), (fu, .inr (3, [.ref fub, .ref fut1, .ref fut2, .ref fut3, .long io])), (fub, .inr (6, [.ref fubg, .int ir])), (fubg, .inl (3, 4, .inr (.inl gr))), (fut1, .inl (3, 4, .inr (.inl T1))), (fut2, .inl (3, 4, .inr (.inl T2))), (fut3, .inl (3, 4, .inr (.inl T3))), (gy, .inr (6, [.ref gyg, .int i1])), (gyg, .inl (3, 4, .inr (.inl g1))), (du, .inr (6, [.ref dug, .int i2])), (dug, .inl (3, 4, .inr (.inl g2)))]) (is := [0, 1, 2, 3, 4, 5, 6, 7, 8, 9, 10]) (q0 := 0) rfl rfl ln_Lw_74 w_im_Ip_charge w_se_Ip_charge ok_Lw_charge_Ip_charge d_Lw_charge_5 (C_Ip_charge112N g a pa ta sa gs co fu la gy du re wm ac lab labg gyg dug fub fubg fut1 fut2 fut3 gr T1 T2 T3 g1 g2 ir i1 i2 io m hw hg) rfl rfl (Nat.le_of_ble_eq_true rfl) rfl (by decide) (by omega) (by omega) (fun E cs1 hx => ?_) (fun v cs1 hx => ?_)
  · exact absurd hx.1 (by simp)
  · obtain ⟨e1, rfl⟩ := hx
    cases e1
    refine ⟨rfl, ?_⟩
    refine r_st (st2 := [.int (ir + m), .int 0, .ref ou]) rfl ?_
    refine r_cs (cs2 := [(a, .inr (11, [.ref pa, .ref ta, .ref sa, .ref gs, .ref co, .ref fu, .ref la, .ref gy, .ref du, .ref re, .ref wm, .ref ac])), (fu, .inr (3, [.ref fub, .ref fut1, .ref fut2, .ref fut3, .long (io + (m : Int32).toInt64)])), (fub, .inr (6, [.ref fubg, .int (ir + m)])), (fubg, .inl (3, 4, .inr (.inl (lfd gr (fun e => chS m 0 e / 10) 4)))), (fut1, .inl (3, 4, .inr (.inl (lfd T1 (fun e => chS m 0 e) 4)))), (fut2, .inl (3, 4, .inr (.inl (lfd T2 (fun e => chS m 0 e - chS m 0 e / 10 * 10) 4)))), (fut3, .inl (3, 4, .inr (.inl T3))), (gy, .inr (6, [.ref gyg, .int i1])), (gyg, .inl (3, 4, .inr (.inl g1))), (du, .inr (6, [.ref dug, .int i2])), (dug, .inl (3, 4, .inr (.inl g2))), (ou, .inl (3, 1, .inr (.inl of)))]) rfl ?_
    refine r_i2l d_Lw_charge_8 (v := (ir + m).toInt64) rfl ?_
    refine r_last d_Lw_charge_9 (q0 := 11) rfl (fun q => q.elim (by decide) (by decide)) (f' := vp_updL of 0 ((ir + m).toInt64)) rfl (cs' := [(a, .inr (11, [.ref pa, .ref ta, .ref sa, .ref gs, .ref co, .ref fu, .ref la, .ref gy, .ref du, .ref re, .ref wm, .ref ac])), (fu, .inr (3, [.ref fub, .ref fut1, .ref fut2, .ref fut3, .long (io + (m : Int32).toInt64)])), (fub, .inr (6, [.ref fubg, .int (ir + m)])), (fubg, .inl (3, 4, .inr (.inl (lfd gr (fun e => chS m 0 e / 10) 4)))), (fut1, .inl (3, 4, .inr (.inl (lfd T1 (fun e => chS m 0 e) 4)))), (fut2, .inl (3, 4, .inr (.inl (lfd T2 (fun e => chS m 0 e - chS m 0 e / 10 * 10) 4)))), (fut3, .inl (3, 4, .inr (.inl T3))), (gy, .inr (6, [.ref gyg, .int i1])), (gyg, .inl (3, 4, .inr (.inl g1))), (du, .inr (6, [.ref dug, .int i2])), (dug, .inl (3, 4, .inr (.inl g2))), (ou, .inl (3, 1, .inr (.inl (vp_updL of 0 ((ir + m).toInt64)))))]) rfl ?_
    refine r_goto (tgt := 25) d_Lw_charge_10 (by decide) ?_
    refine r_iconst d_Lw_charge_25 (v := 0) (by decide) ?_
    refine r_iret d_Lw_charge_26 rfl rfl ?_
    exact ⟨rfl, rfl⟩
set_option maxHeartbeats 4000000 in
set_option maxRecDepth 100000 in
theorem C_Lw_charge115N (g : zG) (a pa ta sa gs co fu la gy du re wm ac : Nat) (lab labg gyg dug fub fubg fut1 fut2 fut3 : Nat) (gr T1 T2 T3 g1 g2 : Nat → Int64) (ir i1 i2 : Int32) (io : Int64) (m : Int32) (hw : (1 ≤ m ∧ m ≤ 1000)) (hg : ¬ 3000 < ir + m) (ou : Nat) (of : Nat → Int64) : CT g M_Lw_charge [.ref a, .int 115, .int m, .ref ou] [(a, .inr (11, [.ref pa, .ref ta, .ref sa, .ref gs, .ref co, .ref fu, .ref la, .ref gy, .ref du, .ref re, .ref wm, .ref ac])), (fu, .inr (3, [.ref fub, .ref fut1, .ref fut2, .ref fut3, .long io])), (fub, .inr (6, [.ref fubg, .int ir])), (fubg, .inl (3, 4, .inr (.inl gr))), (fut1, .inl (3, 4, .inr (.inl T1))), (fut2, .inl (3, 4, .inr (.inl T2))), (fut3, .inl (3, 4, .inr (.inl T3))), (gy, .inr (6, [.ref gyg, .int i1])), (gyg, .inl (3, 4, .inr (.inl g1))), (du, .inr (6, [.ref dug, .int i2])), (dug, .inl (3, 4, .inr (.inl g2))), (ou, .inl (3, 1, .inr (.inl of)))] (fun o cs1 => o = .inl (some (.int 0)) ∧ cs1 = [(a, .inr (11, [.ref pa, .ref ta, .ref sa, .ref gs, .ref co, .ref fu, .ref la, .ref gy, .ref du, .ref re, .ref wm, .ref ac])), (fu, .inr (3, [.ref fub, .ref fut1, .ref fut2, .ref fut3, .long (io + (m : Int32).toInt64)])), (fub, .inr (6, [.ref fubg, .int (ir + m)])), (fubg, .inl (3, 4, .inr (.inl (lfd gr (fun e => chS m 1 e / 10) 4)))), (fut1, .inl (3, 4, .inr (.inl (lfd T1 (fun e => chS m 1 e) 4)))), (fut2, .inl (3, 4, .inr (.inl (lfd T2 (fun e => chS m 1 e - chS m 1 e / 10 * 10) 4)))), (fut3, .inl (3, 4, .inr (.inl T3))), (gy, .inr (6, [.ref gyg, .int i1])), (gyg, .inl (3, 4, .inr (.inl g1))), (du, .inr (6, [.ref dug, .int i2])), (dug, .inl (3, 4, .inr (.inl g2))), (ou, .inl (3, 1, .inr (.inl (vp_updL of 0 ((ir + m)).toInt64))))]) 1 6 := by
  refine z_ofH (by decide) (by decide) (Nat.le_of_ble_eq_true rfl) (fun w0 => ?_)
  refine r_lvE (lv2 := [(0, .ref a), (1, .int 115), (2, .int m), (3, .ref ou)]) rfl ?_
  refine r_aload_n d_Lw_charge_0 rfl 3 rfl ?_
  refine r_iconst d_Lw_charge_1 (v := 0) (by decide) ?_
  refine r_aload_n d_Lw_charge_2 rfl 0 rfl ?_
  refine r_iload_n d_Lw_charge_3 rfl 1 rfl ?_
  refine r_iload_n d_Lw_charge_4 rfl 2 rfl ?_
  refine r_callVH (As := [.int 115, .int m]) (rest := [.int 0, .ref ou]) (csC := [(a, .inr (11, [.ref pa, .ref ta, .ref sa, .ref gs, .ref co, .ref fu, .ref la, .ref gy, .ref du, .ref re, .ref wm, .ref ac])), (fu, .inr (3, [.ref fub, .ref fut1, .ref fut2, .ref fut3, .long io])), (fub, .inr (6, [.ref fubg, .int ir])), (fubg, .inl (3, 4, .inr (.inl gr))), (fut1, .inl (3, 4, .inr (.inl T1))), (fut2, .inl (3, 4, .inr (.inl T2))), (fut3, .inl (3, 4, .inr (.inl T3))), (gy, .inr (6, [.ref gyg, .int i1])), (gyg, .inl (3, 4, .inr (.inl g1))), (du, .inr (6, [.ref dug, .int i2])), (dug, .inl (3, 4, .inr (.inl g2)))]) (is := [0, 1, 2, 3, 4, 5, 6, 7, 8, 9, 10]) (q0 := 0) rfl rfl ln_Lw_74 w_im_Ip_charge w_se_Ip_charge ok_Lw_charge_Ip_charge d_Lw_charge_5 (C_Ip_charge115N g a pa ta sa gs co fu la gy du re wm ac lab labg gyg dug fub fubg fut1 fut2 fut3 gr T1 T2 T3 g1 g2 ir i1 i2 io m hw hg) rfl rfl (Nat.le_of_ble_eq_true rfl) rfl (by decide) (by omega) (by omega) (fun E cs1 hx => ?_) (fun v cs1 hx => ?_)
  · exact absurd hx.1 (by simp)
  · obtain ⟨e1, rfl⟩ := hx
    cases e1
    refine ⟨rfl, ?_⟩
    refine r_st (st2 := [.int (ir + m), .int 0, .ref ou]) rfl ?_
    refine r_cs (cs2 := [(a, .inr (11, [.ref pa, .ref ta, .ref sa, .ref gs, .ref co, .ref fu, .ref la, .ref gy, .ref du, .ref re, .ref wm, .ref ac])), (fu, .inr (3, [.ref fub, .ref fut1, .ref fut2, .ref fut3, .long (io + (m : Int32).toInt64)])), (fub, .inr (6, [.ref fubg, .int (ir + m)])), (fubg, .inl (3, 4, .inr (.inl (lfd gr (fun e => chS m 1 e / 10) 4)))), (fut1, .inl (3, 4, .inr (.inl (lfd T1 (fun e => chS m 1 e) 4)))), (fut2, .inl (3, 4, .inr (.inl (lfd T2 (fun e => chS m 1 e - chS m 1 e / 10 * 10) 4)))), (fut3, .inl (3, 4, .inr (.inl T3))), (gy, .inr (6, [.ref gyg, .int i1])), (gyg, .inl (3, 4, .inr (.inl g1))), (du, .inr (6, [.ref dug, .int i2])), (dug, .inl (3, 4, .inr (.inl g2))), (ou, .inl (3, 1, .inr (.inl of)))]) rfl ?_
    refine r_i2l d_Lw_charge_8 (v := (ir + m).toInt64) rfl ?_
    refine r_last d_Lw_charge_9 (q0 := 11) rfl (fun q => q.elim (by decide) (by decide)) (f' := vp_updL of 0 ((ir + m).toInt64)) rfl (cs' := [(a, .inr (11, [.ref pa, .ref ta, .ref sa, .ref gs, .ref co, .ref fu, .ref la, .ref gy, .ref du, .ref re, .ref wm, .ref ac])), (fu, .inr (3, [.ref fub, .ref fut1, .ref fut2, .ref fut3, .long (io + (m : Int32).toInt64)])), (fub, .inr (6, [.ref fubg, .int (ir + m)])), (fubg, .inl (3, 4, .inr (.inl (lfd gr (fun e => chS m 1 e / 10) 4)))), (fut1, .inl (3, 4, .inr (.inl (lfd T1 (fun e => chS m 1 e) 4)))), (fut2, .inl (3, 4, .inr (.inl (lfd T2 (fun e => chS m 1 e - chS m 1 e / 10 * 10) 4)))), (fut3, .inl (3, 4, .inr (.inl T3))), (gy, .inr (6, [.ref gyg, .int i1])), (gyg, .inl (3, 4, .inr (.inl g1))), (du, .inr (6, [.ref dug, .int i2])), (dug, .inl (3, 4, .inr (.inl g2))), (ou, .inl (3, 1, .inr (.inl (vp_updL of 0 ((ir + m).toInt64)))))]) rfl ?_
    refine r_goto (tgt := 25) d_Lw_charge_10 (by decide) ?_
    refine r_iconst d_Lw_charge_25 (v := 0) (by decide) ?_
    refine r_iret d_Lw_charge_26 rfl rfl ?_
    exact ⟨rfl, rfl⟩
set_option maxHeartbeats 4000000 in
set_option maxRecDepth 100000 in
theorem C_Lw_charge102N (g : zG) (a pa ta sa gs co fu la gy du re wm ac : Nat) (lab labg gyg dug fub fubg fut1 fut2 fut3 : Nat) (gr T1 T2 T3 g1 g2 : Nat → Int64) (ir i1 i2 : Int32) (io : Int64) (m : Int32) (hw : (1 ≤ m ∧ m ≤ 1000)) (hg : ¬ 3000 < ir + m) (ou : Nat) (of : Nat → Int64) : CT g M_Lw_charge [.ref a, .int 102, .int m, .ref ou] [(a, .inr (11, [.ref pa, .ref ta, .ref sa, .ref gs, .ref co, .ref fu, .ref la, .ref gy, .ref du, .ref re, .ref wm, .ref ac])), (fu, .inr (3, [.ref fub, .ref fut1, .ref fut2, .ref fut3, .long io])), (fub, .inr (6, [.ref fubg, .int ir])), (fubg, .inl (3, 4, .inr (.inl gr))), (fut1, .inl (3, 4, .inr (.inl T1))), (fut2, .inl (3, 4, .inr (.inl T2))), (fut3, .inl (3, 4, .inr (.inl T3))), (gy, .inr (6, [.ref gyg, .int i1])), (gyg, .inl (3, 4, .inr (.inl g1))), (du, .inr (6, [.ref dug, .int i2])), (dug, .inl (3, 4, .inr (.inl g2))), (ou, .inl (3, 1, .inr (.inl of)))] (fun o cs1 => o = .inl (some (.int 0)) ∧ cs1 = [(a, .inr (11, [.ref pa, .ref ta, .ref sa, .ref gs, .ref co, .ref fu, .ref la, .ref gy, .ref du, .ref re, .ref wm, .ref ac])), (fu, .inr (3, [.ref fub, .ref fut1, .ref fut2, .ref fut3, .long (io + (m : Int32).toInt64)])), (fub, .inr (6, [.ref fubg, .int (ir + m)])), (fubg, .inl (3, 4, .inr (.inl (lfd gr (fun e => chS m 2 e / 10) 4)))), (fut1, .inl (3, 4, .inr (.inl (lfd T1 (fun e => chS m 2 e) 4)))), (fut2, .inl (3, 4, .inr (.inl (lfd T2 (fun e => chS m 2 e - chS m 2 e / 10 * 10) 4)))), (fut3, .inl (3, 4, .inr (.inl T3))), (gy, .inr (6, [.ref gyg, .int i1])), (gyg, .inl (3, 4, .inr (.inl g1))), (du, .inr (6, [.ref dug, .int i2])), (dug, .inl (3, 4, .inr (.inl g2))), (ou, .inl (3, 1, .inr (.inl (vp_updL of 0 ((ir + m)).toInt64))))]) 1 6 := by
  refine z_ofH (by decide) (by decide) (Nat.le_of_ble_eq_true rfl) (fun w0 => ?_)
  refine r_lvE (lv2 := [(0, .ref a), (1, .int 102), (2, .int m), (3, .ref ou)]) rfl ?_
  refine r_aload_n d_Lw_charge_0 rfl 3 rfl ?_
  refine r_iconst d_Lw_charge_1 (v := 0) (by decide) ?_
  refine r_aload_n d_Lw_charge_2 rfl 0 rfl ?_
  refine r_iload_n d_Lw_charge_3 rfl 1 rfl ?_
  refine r_iload_n d_Lw_charge_4 rfl 2 rfl ?_
  refine r_callVH (As := [.int 102, .int m]) (rest := [.int 0, .ref ou]) (csC := [(a, .inr (11, [.ref pa, .ref ta, .ref sa, .ref gs, .ref co, .ref fu, .ref la, .ref gy, .ref du, .ref re, .ref wm, .ref ac])), (fu, .inr (3, [.ref fub, .ref fut1, .ref fut2, .ref fut3, .long io])), (fub, .inr (6, [.ref fubg, .int ir])), (fubg, .inl (3, 4, .inr (.inl gr))), (fut1, .inl (3, 4, .inr (.inl T1))), (fut2, .inl (3, 4, .inr (.inl T2))), (fut3, .inl (3, 4, .inr (.inl T3))), (gy, .inr (6, [.ref gyg, .int i1])), (gyg, .inl (3, 4, .inr (.inl g1))), (du, .inr (6, [.ref dug, .int i2])), (dug, .inl (3, 4, .inr (.inl g2)))]) (is := [0, 1, 2, 3, 4, 5, 6, 7, 8, 9, 10]) (q0 := 0) rfl rfl ln_Lw_74 w_im_Ip_charge w_se_Ip_charge ok_Lw_charge_Ip_charge d_Lw_charge_5 (C_Ip_charge102N g a pa ta sa gs co fu la gy du re wm ac lab labg gyg dug fub fubg fut1 fut2 fut3 gr T1 T2 T3 g1 g2 ir i1 i2 io m hw hg) rfl rfl (Nat.le_of_ble_eq_true rfl) rfl (by decide) (by omega) (by omega) (fun E cs1 hx => ?_) (fun v cs1 hx => ?_)
  · exact absurd hx.1 (by simp)
  · obtain ⟨e1, rfl⟩ := hx
    cases e1
    refine ⟨rfl, ?_⟩
    refine r_st (st2 := [.int (ir + m), .int 0, .ref ou]) rfl ?_
    refine r_cs (cs2 := [(a, .inr (11, [.ref pa, .ref ta, .ref sa, .ref gs, .ref co, .ref fu, .ref la, .ref gy, .ref du, .ref re, .ref wm, .ref ac])), (fu, .inr (3, [.ref fub, .ref fut1, .ref fut2, .ref fut3, .long (io + (m : Int32).toInt64)])), (fub, .inr (6, [.ref fubg, .int (ir + m)])), (fubg, .inl (3, 4, .inr (.inl (lfd gr (fun e => chS m 2 e / 10) 4)))), (fut1, .inl (3, 4, .inr (.inl (lfd T1 (fun e => chS m 2 e) 4)))), (fut2, .inl (3, 4, .inr (.inl (lfd T2 (fun e => chS m 2 e - chS m 2 e / 10 * 10) 4)))), (fut3, .inl (3, 4, .inr (.inl T3))), (gy, .inr (6, [.ref gyg, .int i1])), (gyg, .inl (3, 4, .inr (.inl g1))), (du, .inr (6, [.ref dug, .int i2])), (dug, .inl (3, 4, .inr (.inl g2))), (ou, .inl (3, 1, .inr (.inl of)))]) rfl ?_
    refine r_i2l d_Lw_charge_8 (v := (ir + m).toInt64) rfl ?_
    refine r_last d_Lw_charge_9 (q0 := 11) rfl (fun q => q.elim (by decide) (by decide)) (f' := vp_updL of 0 ((ir + m).toInt64)) rfl (cs' := [(a, .inr (11, [.ref pa, .ref ta, .ref sa, .ref gs, .ref co, .ref fu, .ref la, .ref gy, .ref du, .ref re, .ref wm, .ref ac])), (fu, .inr (3, [.ref fub, .ref fut1, .ref fut2, .ref fut3, .long (io + (m : Int32).toInt64)])), (fub, .inr (6, [.ref fubg, .int (ir + m)])), (fubg, .inl (3, 4, .inr (.inl (lfd gr (fun e => chS m 2 e / 10) 4)))), (fut1, .inl (3, 4, .inr (.inl (lfd T1 (fun e => chS m 2 e) 4)))), (fut2, .inl (3, 4, .inr (.inl (lfd T2 (fun e => chS m 2 e - chS m 2 e / 10 * 10) 4)))), (fut3, .inl (3, 4, .inr (.inl T3))), (gy, .inr (6, [.ref gyg, .int i1])), (gyg, .inl (3, 4, .inr (.inl g1))), (du, .inr (6, [.ref dug, .int i2])), (dug, .inl (3, 4, .inr (.inl g2))), (ou, .inl (3, 1, .inr (.inl (vp_updL of 0 ((ir + m).toInt64)))))]) rfl ?_
    refine r_goto (tgt := 25) d_Lw_charge_10 (by decide) ?_
    refine r_iconst d_Lw_charge_25 (v := 0) (by decide) ?_
    refine r_iret d_Lw_charge_26 rfl rfl ?_
    exact ⟨rfl, rfl⟩
set_option maxHeartbeats 4000000 in
set_option maxRecDepth 100000 in
theorem C_Lw_charge107N (g : zG) (a pa ta sa gs co fu la gy du re wm ac : Nat) (lab labg gyg dug fub fubg fut1 fut2 fut3 : Nat) (gr T1 T2 T3 g1 g2 : Nat → Int64) (ir i1 i2 : Int32) (io : Int64) (m : Int32) (hw : (1 ≤ m ∧ m ≤ 1000)) (hg : ¬ 3000 < ir + 0) (ou : Nat) (of : Nat → Int64) : CT g M_Lw_charge [.ref a, .int 107, .int m, .ref ou] [(a, .inr (11, [.ref pa, .ref ta, .ref sa, .ref gs, .ref co, .ref fu, .ref la, .ref gy, .ref du, .ref re, .ref wm, .ref ac])), (fu, .inr (3, [.ref fub, .ref fut1, .ref fut2, .ref fut3, .long io])), (fub, .inr (6, [.ref fubg, .int ir])), (fubg, .inl (3, 4, .inr (.inl gr))), (fut1, .inl (3, 4, .inr (.inl T1))), (fut2, .inl (3, 4, .inr (.inl T2))), (fut3, .inl (3, 4, .inr (.inl T3))), (gy, .inr (6, [.ref gyg, .int i1])), (gyg, .inl (3, 4, .inr (.inl g1))), (du, .inr (6, [.ref dug, .int i2])), (dug, .inl (3, 4, .inr (.inl g2))), (ou, .inl (3, 1, .inr (.inl of)))] (fun o cs1 => o = .inl (some (.int 0)) ∧ cs1 = [(a, .inr (11, [.ref pa, .ref ta, .ref sa, .ref gs, .ref co, .ref fu, .ref la, .ref gy, .ref du, .ref re, .ref wm, .ref ac])), (fu, .inr (3, [.ref fub, .ref fut1, .ref fut2, .ref fut3, .long (io + (0 : Int32).toInt64)])), (fub, .inr (6, [.ref fubg, .int (ir + 0)])), (fubg, .inl (3, 4, .inr (.inl (lfd gr (fun e => chS m 3 e / 10) 4)))), (fut1, .inl (3, 4, .inr (.inl (lfd T1 (fun e => chS m 3 e) 4)))), (fut2, .inl (3, 4, .inr (.inl (lfd T2 (fun e => chS m 3 e - chS m 3 e / 10 * 10) 4)))), (fut3, .inl (3, 4, .inr (.inl T3))), (gy, .inr (6, [.ref gyg, .int i1])), (gyg, .inl (3, 4, .inr (.inl g1))), (du, .inr (6, [.ref dug, .int i2])), (dug, .inl (3, 4, .inr (.inl g2))), (ou, .inl (3, 1, .inr (.inl (vp_updL of 0 ((ir + 0)).toInt64))))]) 1 6 := by
  refine z_ofH (by decide) (by decide) (Nat.le_of_ble_eq_true rfl) (fun w0 => ?_)
  refine r_lvE (lv2 := [(0, .ref a), (1, .int 107), (2, .int m), (3, .ref ou)]) rfl ?_
  refine r_aload_n d_Lw_charge_0 rfl 3 rfl ?_
  refine r_iconst d_Lw_charge_1 (v := 0) (by decide) ?_
  refine r_aload_n d_Lw_charge_2 rfl 0 rfl ?_
  refine r_iload_n d_Lw_charge_3 rfl 1 rfl ?_
  refine r_iload_n d_Lw_charge_4 rfl 2 rfl ?_
  refine r_callVH (As := [.int 107, .int m]) (rest := [.int 0, .ref ou]) (csC := [(a, .inr (11, [.ref pa, .ref ta, .ref sa, .ref gs, .ref co, .ref fu, .ref la, .ref gy, .ref du, .ref re, .ref wm, .ref ac])), (fu, .inr (3, [.ref fub, .ref fut1, .ref fut2, .ref fut3, .long io])), (fub, .inr (6, [.ref fubg, .int ir])), (fubg, .inl (3, 4, .inr (.inl gr))), (fut1, .inl (3, 4, .inr (.inl T1))), (fut2, .inl (3, 4, .inr (.inl T2))), (fut3, .inl (3, 4, .inr (.inl T3))), (gy, .inr (6, [.ref gyg, .int i1])), (gyg, .inl (3, 4, .inr (.inl g1))), (du, .inr (6, [.ref dug, .int i2])), (dug, .inl (3, 4, .inr (.inl g2)))]) (is := [0, 1, 2, 3, 4, 5, 6, 7, 8, 9, 10]) (q0 := 0) rfl rfl ln_Lw_74 w_im_Ip_charge w_se_Ip_charge ok_Lw_charge_Ip_charge d_Lw_charge_5 (C_Ip_charge107N g a pa ta sa gs co fu la gy du re wm ac lab labg gyg dug fub fubg fut1 fut2 fut3 gr T1 T2 T3 g1 g2 ir i1 i2 io m hw hg) rfl rfl (Nat.le_of_ble_eq_true rfl) rfl (by decide) (by omega) (by omega) (fun E cs1 hx => ?_) (fun v cs1 hx => ?_)
  · exact absurd hx.1 (by simp)
  · obtain ⟨e1, rfl⟩ := hx
    cases e1
    refine ⟨rfl, ?_⟩
    refine r_st (st2 := [.int (ir + 0), .int 0, .ref ou]) rfl ?_
    refine r_cs (cs2 := [(a, .inr (11, [.ref pa, .ref ta, .ref sa, .ref gs, .ref co, .ref fu, .ref la, .ref gy, .ref du, .ref re, .ref wm, .ref ac])), (fu, .inr (3, [.ref fub, .ref fut1, .ref fut2, .ref fut3, .long (io + (0 : Int32).toInt64)])), (fub, .inr (6, [.ref fubg, .int (ir + 0)])), (fubg, .inl (3, 4, .inr (.inl (lfd gr (fun e => chS m 3 e / 10) 4)))), (fut1, .inl (3, 4, .inr (.inl (lfd T1 (fun e => chS m 3 e) 4)))), (fut2, .inl (3, 4, .inr (.inl (lfd T2 (fun e => chS m 3 e - chS m 3 e / 10 * 10) 4)))), (fut3, .inl (3, 4, .inr (.inl T3))), (gy, .inr (6, [.ref gyg, .int i1])), (gyg, .inl (3, 4, .inr (.inl g1))), (du, .inr (6, [.ref dug, .int i2])), (dug, .inl (3, 4, .inr (.inl g2))), (ou, .inl (3, 1, .inr (.inl of)))]) rfl ?_
    refine r_i2l d_Lw_charge_8 (v := (ir + 0).toInt64) rfl ?_
    refine r_last d_Lw_charge_9 (q0 := 11) rfl (fun q => q.elim (by decide) (by decide)) (f' := vp_updL of 0 ((ir + 0).toInt64)) rfl (cs' := [(a, .inr (11, [.ref pa, .ref ta, .ref sa, .ref gs, .ref co, .ref fu, .ref la, .ref gy, .ref du, .ref re, .ref wm, .ref ac])), (fu, .inr (3, [.ref fub, .ref fut1, .ref fut2, .ref fut3, .long (io + (0 : Int32).toInt64)])), (fub, .inr (6, [.ref fubg, .int (ir + 0)])), (fubg, .inl (3, 4, .inr (.inl (lfd gr (fun e => chS m 3 e / 10) 4)))), (fut1, .inl (3, 4, .inr (.inl (lfd T1 (fun e => chS m 3 e) 4)))), (fut2, .inl (3, 4, .inr (.inl (lfd T2 (fun e => chS m 3 e - chS m 3 e / 10 * 10) 4)))), (fut3, .inl (3, 4, .inr (.inl T3))), (gy, .inr (6, [.ref gyg, .int i1])), (gyg, .inl (3, 4, .inr (.inl g1))), (du, .inr (6, [.ref dug, .int i2])), (dug, .inl (3, 4, .inr (.inl g2))), (ou, .inl (3, 1, .inr (.inl (vp_updL of 0 ((ir + 0).toInt64)))))]) rfl ?_
    refine r_goto (tgt := 25) d_Lw_charge_10 (by decide) ?_
    refine r_iconst d_Lw_charge_25 (v := 0) (by decide) ?_
    refine r_iret d_Lw_charge_26 rfl rfl ?_
    exact ⟨rfl, rfl⟩
abbrev M_Lw_furnace : zM := (⟨"IronpourLaw", "furnace", "(LIronpour;C[J)I"⟩, method_20_code, 4, (Option.some FieldType.int), 10, 222, [((0 : Nat), (9 : Nat), (12 : Nat), (13 : Nat)), ((0 : Nat), (9 : Nat), (15 : Nat), (33 : Nat))])
theorem d_Lw_furnace_0 : decode method_20_code 0 = .ok (.aload_n 2, 1) := by decide +kernel
theorem d_Lw_furnace_1 : decode method_20_code 1 = .ok (.iconst 0, 1) := by decide +kernel
theorem d_Lw_furnace_2 : decode method_20_code 2 = .ok (.aload_n 0, 1) := by decide +kernel
theorem d_Lw_furnace_3 : decode method_20_code 3 = .ok (.iload_n 1, 1) := by decide +kernel
theorem d_Lw_furnace_4 : decode method_20_code 4 = .ok (.invokevirtual 80, 3) := by decide +kernel
theorem ok_Lw_furnace_Ip_furnace : z_okH M_Lw_furnace M_Ip_furnace 1 := ⟨z_mem (i := 1088) (by decide +kernel) (by decide +kernel), rfl, ⟨by decide +kernel, by decide +kernel, by decide +kernel⟩, ⟨by decide, by decide⟩, z_mem (i := 58) (by decide +kernel) (by decide +kernel)⟩
theorem ln_Lw_80 : Cond.methodLink "IronpourLaw" 80 M_Ip_furnace.1 ∈ z_gw := z_mem (i := 1085) (by decide +kernel) (by decide +kernel)
theorem w_im_Ip_furnace : Cond.instanceMethod M_Ip_furnace.1 ∈ z_gw := z_mem (i := 1086) (by decide +kernel) (by decide +kernel)
theorem w_se_Ip_furnace : Cond.selects M_Ip_furnace.1.cls M_Ip_furnace.1 M_Ip_furnace.1 ∈ z_gw := z_mem (i := 1087) (by decide +kernel) (by decide +kernel)
theorem d_Lw_furnace_12 : decode method_20_code 12 = .ok (.astore_n 3, 1) := by decide +kernel
theorem d_Lw_furnace_13 : decode method_20_code 13 = .ok (.iconst 1, 1) := by decide +kernel
theorem d_Lw_furnace_14 : decode method_20_code 14 = .ok (.ireturn, 1) := by decide +kernel
set_option maxHeartbeats 4000000 in
set_option maxRecDepth 100000 in
theorem C_Lw_furnaceE (g : zG) (a pa ta sa gs co fu la gy du re wm ac : Nat) (fub fubg fut1 fut2 fut3 : Nat) (gr : Nat → Int64) (ir : Int32) (io : Int64) (k : Int32) (hk : z_ix 2 k < 0) (ou : Nat) (of : Nat → Int64) : CT g M_Lw_furnace [.ref a, .int k, .ref ou] [(a, .inr (11, [.ref pa, .ref ta, .ref sa, .ref gs, .ref co, .ref fu, .ref la, .ref gy, .ref du, .ref re, .ref wm, .ref ac])), (fu, .inr (3, [.ref fub, .ref fut1, .ref fut2, .ref fut3, .long io])), (fub, .inr (6, [.ref fubg, .int ir])), (fubg, .inl (3, 4, .inr (.inl gr))), (ou, .inl (3, 1, .inr (.inl of)))] (fun o cs1 => o = .inl (some (.int 1)) ∧ cs1 = [(a, .inr (11, [.ref pa, .ref ta, .ref sa, .ref gs, .ref co, .ref fu, .ref la, .ref gy, .ref du, .ref re, .ref wm, .ref ac])), (fu, .inr (3, [.ref fub, .ref fut1, .ref fut2, .ref fut3, .long io])), (fub, .inr (6, [.ref fubg, .int ir])), (fubg, .inl (3, 4, .inr (.inl gr))), (ou, .inl (3, 1, .inr (.inl of)))]) 1 6 := by
  refine z_ofH (by decide) (by decide) (Nat.le_of_ble_eq_true rfl) (fun w0 => ?_)
  refine r_lvE (lv2 := [(0, .ref a), (1, .int k), (2, .ref ou)]) rfl ?_
  refine r_aload_n d_Lw_furnace_0 rfl 2 rfl ?_
  refine r_iconst d_Lw_furnace_1 (v := 0) (by decide) ?_
  refine r_aload_n d_Lw_furnace_2 rfl 0 rfl ?_
  refine r_iload_n d_Lw_furnace_3 rfl 1 rfl ?_
  refine r_callVH (As := [.int k]) (rest := [.int 0, .ref ou]) (csC := [(a, .inr (11, [.ref pa, .ref ta, .ref sa, .ref gs, .ref co, .ref fu, .ref la, .ref gy, .ref du, .ref re, .ref wm, .ref ac])), (fu, .inr (3, [.ref fub, .ref fut1, .ref fut2, .ref fut3, .long io])), (fub, .inr (6, [.ref fubg, .int ir])), (fubg, .inl (3, 4, .inr (.inl gr)))]) (is := [0, 1, 2, 3]) (q0 := 0) rfl rfl ln_Lw_80 w_im_Ip_furnace w_se_Ip_furnace ok_Lw_furnace_Ip_furnace d_Lw_furnace_4 (C_Ip_furnaceE g a pa ta sa gs co fu la gy du re wm ac fub fubg fut1 fut2 fut3 gr ir io k hk) rfl rfl (Nat.le_of_ble_eq_true rfl) rfl (by decide) (by omega) (by omega) (fun E cs1 hx => ?_) (fun v cs1 hx => ?_)
  · obtain ⟨e1, rfl⟩ := hx
    cases e1
    refine ⟨rfl, "java/lang/IllegalArgumentException", [], [(0, 9, 15, 33)], (0, 9, 12, 13), rfl, (fun z hz => nomatch hz), by decide, by decide, lx_Lw_13, ce_13, fun qx => ?_⟩
    refine r_cs (cs2 := [(a, .inr (11, [.ref pa, .ref ta, .ref sa, .ref gs, .ref co, .ref fu, .ref la, .ref gy, .ref du, .ref re, .ref wm, .ref ac])), (fu, .inr (3, [.ref fub, .ref fut1, .ref fut2, .ref fut3, .long io])), (fub, .inr (6, [.ref fubg, .int ir])), (fubg, .inl (3, 4, .inr (.inl gr))), (ou, .inl (3, 1, .inr (.inl of)))]) rfl ?_
    refine r_astore_n (lv' := [(3, .ref qx), (0, .ref a), (1, .int k), (2, .ref ou)]) d_Lw_furnace_12 rfl (by decide) rfl ?_
    refine r_iconst d_Lw_furnace_13 (v := 1) (by decide) ?_
    refine r_iret d_Lw_furnace_14 rfl rfl ?_
    exact ⟨rfl, rfl⟩
  · exact absurd hx.1 (by simp)
theorem d_Lw_furnace_15 : decode method_20_code 15 = .ok (.astore_n 3, 1) := by decide +kernel
theorem d_Lw_furnace_16 : decode method_20_code 16 = .ok (.iconst 2, 1) := by decide +kernel
theorem d_Lw_furnace_17 : decode method_20_code 17 = .ok (.ireturn, 1) := by decide +kernel
set_option maxHeartbeats 4000000 in
set_option maxRecDepth 100000 in
theorem C_Lw_furnaceF (g : zG) (a pa ta sa gs co fu la gy du re wm ac : Nat) (fub fubg fut1 fut2 fut3 : Nat) (gr : Nat → Int64) (ir : Int32) (io : Int64) (k : Int32) (e : Nat) (he : e < 4) (hk : z_ix 2 k = nI e) (hi : ir ≤ 0) (ou : Nat) (of : Nat → Int64) : CT g M_Lw_furnace [.ref a, .int k, .ref ou] [(a, .inr (11, [.ref pa, .ref ta, .ref sa, .ref gs, .ref co, .ref fu, .ref la, .ref gy, .ref du, .ref re, .ref wm, .ref ac])), (fu, .inr (3, [.ref fub, .ref fut1, .ref fut2, .ref fut3, .long io])), (fub, .inr (6, [.ref fubg, .int ir])), (fubg, .inl (3, 4, .inr (.inl gr))), (ou, .inl (3, 1, .inr (.inl of)))] (fun o cs1 => o = .inl (some (.int 2)) ∧ cs1 = [(a, .inr (11, [.ref pa, .ref ta, .ref sa, .ref gs, .ref co, .ref fu, .ref la, .ref gy, .ref du, .ref re, .ref wm, .ref ac])), (fu, .inr (3, [.ref fub, .ref fut1, .ref fut2, .ref fut3, .long io])), (fub, .inr (6, [.ref fubg, .int ir])), (fubg, .inl (3, 4, .inr (.inl gr))), (ou, .inl (3, 1, .inr (.inl of)))]) 2 12 := by
  refine z_ofH (by decide) (by decide) (Nat.le_of_ble_eq_true rfl) (fun w0 => ?_)
  refine r_lvE (lv2 := [(0, .ref a), (1, .int k), (2, .ref ou)]) rfl ?_
  refine r_aload_n d_Lw_furnace_0 rfl 2 rfl ?_
  refine r_iconst d_Lw_furnace_1 (v := 0) (by decide) ?_
  refine r_aload_n d_Lw_furnace_2 rfl 0 rfl ?_
  refine r_iload_n d_Lw_furnace_3 rfl 1 rfl ?_
  refine r_callVH (As := [.int k]) (rest := [.int 0, .ref ou]) (csC := [(a, .inr (11, [.ref pa, .ref ta, .ref sa, .ref gs, .ref co, .ref fu, .ref la, .ref gy, .ref du, .ref re, .ref wm, .ref ac])), (fu, .inr (3, [.ref fub, .ref fut1, .ref fut2, .ref fut3, .long io])), (fub, .inr (6, [.ref fubg, .int ir])), (fubg, .inl (3, 4, .inr (.inl gr)))]) (is := [0, 1, 2, 3]) (q0 := 0) rfl rfl ln_Lw_80 w_im_Ip_furnace w_se_Ip_furnace ok_Lw_furnace_Ip_furnace d_Lw_furnace_4 (C_Ip_furnaceF g a pa ta sa gs co fu la gy du re wm ac fub fubg fut1 fut2 fut3 gr ir io k e he hk hi) rfl rfl (Nat.le_of_ble_eq_true rfl) rfl (by decide) (by omega) (by omega) (fun E cs1 hx => ?_) (fun v cs1 hx => ?_)
  · obtain ⟨e1, rfl⟩ := hx
    cases e1
    refine ⟨rfl, "java/util/NoSuchElementException", [(0, 9, 12, 13)], [], (0, 9, 15, 33), rfl, (fun z hz => by simp only [List.mem_cons, List.not_mem_nil, or_false] at hz; rcases hz with rfl; exact Or.inr ⟨by decide, _, lx_Lw_13, by decide⟩), by decide, by decide, lx_Lw_33, ce_33, fun qx => ?_⟩
    refine r_cs (cs2 := [(a, .inr (11, [.ref pa, .ref ta, .ref sa, .ref gs, .ref co, .ref fu, .ref la, .ref gy, .ref du, .ref re, .ref wm, .ref ac])), (fu, .inr (3, [.ref fub, .ref fut1, .ref fut2, .ref fut3, .long io])), (fub, .inr (6, [.ref fubg, .int ir])), (fubg, .inl (3, 4, .inr (.inl gr))), (ou, .inl (3, 1, .inr (.inl of)))]) rfl ?_
    refine r_astore_n (lv' := [(3, .ref qx), (0, .ref a), (1, .int k), (2, .ref ou)]) d_Lw_furnace_15 rfl (by decide) rfl ?_
    refine r_iconst d_Lw_furnace_16 (v := 2) (by decide) ?_
    refine r_iret d_Lw_furnace_17 rfl rfl ?_
    exact ⟨rfl, rfl⟩
  · exact absurd hx.1 (by simp)
abbrev M_Lw_hold : zM := (⟨"IronpourLaw", "hold", "(LIronpour;I[J)I"⟩, method_21_code, 4, (Option.some FieldType.int), 7, 121, [((0 : Nat), (9 : Nat), (12 : Nat), (13 : Nat))])
theorem d_Lw_hold_0 : decode method_21_code 0 = .ok (.aload_n 2, 1) := by decide +kernel
theorem d_Lw_hold_1 : decode method_21_code 1 = .ok (.iconst 0, 1) := by decide +kernel
theorem d_Lw_hold_2 : decode method_21_code 2 = .ok (.aload_n 0, 1) := by decide +kernel
theorem d_Lw_hold_3 : decode method_21_code 3 = .ok (.iload_n 1, 1) := by decide +kernel
theorem d_Lw_hold_4 : decode method_21_code 4 = .ok (.invokevirtual 83, 3) := by decide +kernel
theorem ok_Lw_hold_Ip_hold : z_okH M_Lw_hold M_Ip_hold 1 := ⟨z_mem (i := 1106) (by decide +kernel) (by decide +kernel), rfl, ⟨by decide +kernel, by decide +kernel, by decide +kernel⟩, ⟨by decide, by decide⟩, z_mem (i := 58) (by decide +kernel) (by decide +kernel)⟩
theorem ln_Lw_83 : Cond.methodLink "IronpourLaw" 83 M_Ip_hold.1 ∈ z_gw := z_mem (i := 1103) (by decide +kernel) (by decide +kernel)
theorem w_im_Ip_hold : Cond.instanceMethod M_Ip_hold.1 ∈ z_gw := z_mem (i := 1104) (by decide +kernel) (by decide +kernel)
theorem w_se_Ip_hold : Cond.selects M_Ip_hold.1.cls M_Ip_hold.1 M_Ip_hold.1 ∈ z_gw := z_mem (i := 1105) (by decide +kernel) (by decide +kernel)
theorem d_Lw_hold_12 : decode method_21_code 12 = .ok (.astore_n 3, 1) := by decide +kernel
theorem d_Lw_hold_13 : decode method_21_code 13 = .ok (.iconst 1, 1) := by decide +kernel
theorem d_Lw_hold_14 : decode method_21_code 14 = .ok (.ireturn, 1) := by decide +kernel
set_option maxHeartbeats 4000000 in
set_option maxRecDepth 100000 in
theorem C_Lw_holdE (g : zG) (a pa ta sa gs co fu la gy du re wm ac : Nat) (fub fubg fut1 fut2 fut3 : Nat) (gr T1 T2 T3 : Nat → Int64) (ir : Int32) (io : Int64) (h : Int32) (hw : ¬ (1 ≤ h ∧ h ≤ 120)) (ou : Nat) (of : Nat → Int64) : CT g M_Lw_hold [.ref a, .int h, .ref ou] [(a, .inr (11, [.ref pa, .ref ta, .ref sa, .ref gs, .ref co, .ref fu, .ref la, .ref gy, .ref du, .ref re, .ref wm, .ref ac])), (fu, .inr (3, [.ref fub, .ref fut1, .ref fut2, .ref fut3, .long io])), (fub, .inr (6, [.ref fubg, .int ir])), (fubg, .inl (3, 4, .inr (.inl gr))), (fut1, .inl (3, 4, .inr (.inl T1))), (fut2, .inl (3, 4, .inr (.inl T2))), (fut3, .inl (3, 4, .inr (.inl T3))), (ou, .inl (3, 1, .inr (.inl of)))] (fun o cs1 => o = .inl (some (.int 1)) ∧ cs1 = [(a, .inr (11, [.ref pa, .ref ta, .ref sa, .ref gs, .ref co, .ref fu, .ref la, .ref gy, .ref du, .ref re, .ref wm, .ref ac])), (fu, .inr (3, [.ref fub, .ref fut1, .ref fut2, .ref fut3, .long io])), (fub, .inr (6, [.ref fubg, .int ir])), (fubg, .inl (3, 4, .inr (.inl gr))), (fut1, .inl (3, 4, .inr (.inl T1))), (fut2, .inl (3, 4, .inr (.inl T2))), (fut3, .inl (3, 4, .inr (.inl T3))), (ou, .inl (3, 1, .inr (.inl of)))]) 1 6 := by
  refine z_ofH (by decide) (by decide) (Nat.le_of_ble_eq_true rfl) (fun w0 => ?_)
  refine r_lvE (lv2 := [(0, .ref a), (1, .int h), (2, .ref ou)]) rfl ?_
  refine r_aload_n d_Lw_hold_0 rfl 2 rfl ?_
  refine r_iconst d_Lw_hold_1 (v := 0) (by decide) ?_
  refine r_aload_n d_Lw_hold_2 rfl 0 rfl ?_
  refine r_iload_n d_Lw_hold_3 rfl 1 rfl ?_
  refine r_callVH (As := [.int h]) (rest := [.int 0, .ref ou]) (csC := [(a, .inr (11, [.ref pa, .ref ta, .ref sa, .ref gs, .ref co, .ref fu, .ref la, .ref gy, .ref du, .ref re, .ref wm, .ref ac])), (fu, .inr (3, [.ref fub, .ref fut1, .ref fut2, .ref fut3, .long io])), (fub, .inr (6, [.ref fubg, .int ir])), (fubg, .inl (3, 4, .inr (.inl gr))), (fut1, .inl (3, 4, .inr (.inl T1))), (fut2, .inl (3, 4, .inr (.inl T2))), (fut3, .inl (3, 4, .inr (.inl T3)))]) (is := [0, 1, 2, 3, 4, 5, 6]) (q0 := 0) rfl rfl ln_Lw_83 w_im_Ip_hold w_se_Ip_hold ok_Lw_hold_Ip_hold d_Lw_hold_4 (C_Ip_holdE g a pa ta sa gs co fu la gy du re wm ac fub fubg fut1 fut2 fut3 gr T1 T2 T3 ir io h hw) rfl rfl (Nat.le_of_ble_eq_true rfl) rfl (by decide) (by omega) (by omega) (fun E cs1 hx => ?_) (fun v cs1 hx => ?_)
  · obtain ⟨e1, rfl⟩ := hx
    cases e1
    refine ⟨rfl, "java/lang/IllegalArgumentException", [], [], (0, 9, 12, 13), rfl, (fun z hz => nomatch hz), by decide, by decide, lx_Lw_13, ce_13, fun qx => ?_⟩
    refine r_cs (cs2 := [(a, .inr (11, [.ref pa, .ref ta, .ref sa, .ref gs, .ref co, .ref fu, .ref la, .ref gy, .ref du, .ref re, .ref wm, .ref ac])), (fu, .inr (3, [.ref fub, .ref fut1, .ref fut2, .ref fut3, .long io])), (fub, .inr (6, [.ref fubg, .int ir])), (fubg, .inl (3, 4, .inr (.inl gr))), (fut1, .inl (3, 4, .inr (.inl T1))), (fut2, .inl (3, 4, .inr (.inl T2))), (fut3, .inl (3, 4, .inr (.inl T3))), (ou, .inl (3, 1, .inr (.inl of)))]) rfl ?_
    refine r_astore_n (lv' := [(3, .ref qx), (0, .ref a), (1, .int h), (2, .ref ou)]) d_Lw_hold_12 rfl (by decide) rfl ?_
    refine r_iconst d_Lw_hold_13 (v := 1) (by decide) ?_
    refine r_iret d_Lw_hold_14 rfl rfl ?_
    exact ⟨rfl, rfl⟩
  · exact absurd hx.1 (by simp)
theorem d_Lw_hold_7 : decode method_21_code 7 = .ok (.i2l, 1) := by decide +kernel
theorem d_Lw_hold_8 : decode method_21_code 8 = .ok (.lastore, 1) := by decide +kernel
theorem d_Lw_hold_9 : decode method_21_code 9 = .ok (.goto 6, 3) := by decide +kernel
theorem d_Lw_hold_15 : decode method_21_code 15 = .ok (.iconst 0, 1) := by decide +kernel
theorem d_Lw_hold_16 : decode method_21_code 16 = .ok (.ireturn, 1) := by decide +kernel
set_option maxHeartbeats 4000000 in
set_option maxRecDepth 100000 in
theorem C_Lw_holdN (g : zG) (a pa ta sa gs co fu la gy du re wm ac : Nat) (fub fubg fut1 fut2 fut3 : Nat) (gr T1 T2 T3 : Nat → Int64) (ir : Int32) (io : Int64) (m : Nat) (hm : m < 1000) (hw : (1 ≤ nI m ∧ nI m ≤ 120)) (ou : Nat) (of : Nat → Int64) : CT g M_Lw_hold [.ref a, .int (nI m), .ref ou] [(a, .inr (11, [.ref pa, .ref ta, .ref sa, .ref gs, .ref co, .ref fu, .ref la, .ref gy, .ref du, .ref re, .ref wm, .ref ac])), (fu, .inr (3, [.ref fub, .ref fut1, .ref fut2, .ref fut3, .long io])), (fub, .inr (6, [.ref fubg, .int ir])), (fubg, .inl (3, 4, .inr (.inl gr))), (fut1, .inl (3, 4, .inr (.inl T1))), (fut2, .inl (3, 4, .inr (.inl T2))), (fut3, .inl (3, 4, .inr (.inl T3))), (ou, .inl (3, 1, .inr (.inl of)))] (fun o cs1 => o = .inl (some (.int 0)) ∧ cs1 = [(a, .inr (11, [.ref pa, .ref ta, .ref sa, .ref gs, .ref co, .ref fu, .ref la, .ref gy, .ref du, .ref re, .ref wm, .ref ac])), (fu, .inr (3, [.ref fub, .ref fut1, .ref fut2, .ref fut3, .long io])), (fub, .inr (6, [.ref fubg, .int ir])), (fubg, .inl (3, 4, .inr (.inl ((lmS (gr, T3) m).1)))), (fut1, .inl (3, 4, .inr (.inl T1))), (fut2, .inl (3, 4, .inr (.inl T2))), (fut3, .inl (3, 4, .inr (.inl ((lmS (gr, T3) m).2)))), (ou, .inl (3, 1, .inr (.inl (vp_updL of 0 ((((lmS (gr, T3) m).1 0).toInt32)).toInt64))))]) 1 6 := by
  refine z_ofH (by decide) (by decide) (Nat.le_of_ble_eq_true rfl) (fun w0 => ?_)
  refine r_lvE (lv2 := [(0, .ref a), (1, .int (nI m)), (2, .ref ou)]) rfl ?_
  refine r_aload_n d_Lw_hold_0 rfl 2 rfl ?_
  refine r_iconst d_Lw_hold_1 (v := 0) (by decide) ?_
  refine r_aload_n d_Lw_hold_2 rfl 0 rfl ?_
  refine r_iload_n d_Lw_hold_3 rfl 1 rfl ?_
  refine r_callVH (As := [.int (nI m)]) (rest := [.int 0, .ref ou]) (csC := [(a, .inr (11, [.ref pa, .ref ta, .ref sa, .ref gs, .ref co, .ref fu, .ref la, .ref gy, .ref du, .ref re, .ref wm, .ref ac])), (fu, .inr (3, [.ref fub, .ref fut1, .ref fut2, .ref fut3, .long io])), (fub, .inr (6, [.ref fubg, .int ir])), (fubg, .inl (3, 4, .inr (.inl gr))), (fut1, .inl (3, 4, .inr (.inl T1))), (fut2, .inl (3, 4, .inr (.inl T2))), (fut3, .inl (3, 4, .inr (.inl T3)))]) (is := [0, 1, 2, 3, 4, 5, 6]) (q0 := 0) rfl rfl ln_Lw_83 w_im_Ip_hold w_se_Ip_hold ok_Lw_hold_Ip_hold d_Lw_hold_4 (C_Ip_holdN g a pa ta sa gs co fu la gy du re wm ac fub fubg fut1 fut2 fut3 gr T1 T2 T3 ir io m hm hw) rfl rfl (Nat.le_of_ble_eq_true rfl) rfl (by decide) (by omega) (by omega) (fun E cs1 hx => ?_) (fun v cs1 hx => ?_)
  · exact absurd hx.1 (by simp)
  · obtain ⟨e1, rfl⟩ := hx
    cases e1
    refine ⟨rfl, ?_⟩
    refine r_st (st2 := [.int (((lmS (gr, T3) m).1 0).toInt32), .int 0, .ref ou]) rfl ?_
    refine r_cs (cs2 := [(a, .inr (11, [.ref pa, .ref ta, .ref sa, .ref gs, .ref co, .ref fu, .ref la, .ref gy, .ref du, .ref re, .ref wm, .ref ac])), (fu, .inr (3, [.ref fub, .ref fut1, .ref fut2, .ref fut3, .long io])), (fub, .inr (6, [.ref fubg, .int ir])), (fubg, .inl (3, 4, .inr (.inl ((lmS (gr, T3) m).1)))), (fut1, .inl (3, 4, .inr (.inl T1))), (fut2, .inl (3, 4, .inr (.inl T2))), (fut3, .inl (3, 4, .inr (.inl ((lmS (gr, T3) m).2)))), (ou, .inl (3, 1, .inr (.inl of)))]) rfl ?_
    refine r_i2l d_Lw_hold_7 (v := (((lmS (gr, T3) m).1 0).toInt32).toInt64) rfl ?_
    refine r_last d_Lw_hold_8 (q0 := 7) rfl (fun q => q.elim (by decide) (by decide)) (f' := vp_updL of 0 ((((lmS (gr, T3) m).1 0).toInt32).toInt64)) rfl (cs' := [(a, .inr (11, [.ref pa, .ref ta, .ref sa, .ref gs, .ref co, .ref fu, .ref la, .ref gy, .ref du, .ref re, .ref wm, .ref ac])), (fu, .inr (3, [.ref fub, .ref fut1, .ref fut2, .ref fut3, .long io])), (fub, .inr (6, [.ref fubg, .int ir])), (fubg, .inl (3, 4, .inr (.inl ((lmS (gr, T3) m).1)))), (fut1, .inl (3, 4, .inr (.inl T1))), (fut2, .inl (3, 4, .inr (.inl T2))), (fut3, .inl (3, 4, .inr (.inl ((lmS (gr, T3) m).2)))), (ou, .inl (3, 1, .inr (.inl (vp_updL of 0 ((((lmS (gr, T3) m).1 0).toInt32).toInt64)))))]) rfl ?_
    refine r_goto (tgt := 15) d_Lw_hold_9 (by decide) ?_
    refine r_iconst d_Lw_hold_15 (v := 0) (by decide) ?_
    refine r_iret d_Lw_hold_16 rfl rfl ?_
    exact ⟨rfl, rfl⟩
abbrev M_Lw_tap : zM := (⟨"IronpourLaw", "tap", "(LIronpour;I[J)I"⟩, method_22_code, 4, (Option.some FieldType.int), 7, 121, [((0 : Nat), (9 : Nat), (12 : Nat), (13 : Nat)), ((0 : Nat), (9 : Nat), (15 : Nat), (69 : Nat)), ((0 : Nat), (9 : Nat), (18 : Nat), (78 : Nat))])
theorem d_Lw_tap_0 : decode method_22_code 0 = .ok (.aload_n 2, 1) := by decide +kernel
theorem d_Lw_tap_1 : decode method_22_code 1 = .ok (.iconst 0, 1) := by decide +kernel
theorem d_Lw_tap_2 : decode method_22_code 2 = .ok (.aload_n 0, 1) := by decide +kernel
theorem d_Lw_tap_3 : decode method_22_code 3 = .ok (.iload_n 1, 1) := by decide +kernel
theorem d_Lw_tap_4 : decode method_22_code 4 = .ok (.invokevirtual 86, 3) := by decide +kernel
theorem ok_Lw_tap_Ip_tap : z_okH M_Lw_tap M_Ip_tap 1 := ⟨z_mem (i := 1122) (by decide +kernel) (by decide +kernel), rfl, ⟨by decide +kernel, by decide +kernel, by decide +kernel⟩, ⟨by decide, by decide⟩, z_mem (i := 58) (by decide +kernel) (by decide +kernel)⟩
theorem ln_Lw_86 : Cond.methodLink "IronpourLaw" 86 M_Ip_tap.1 ∈ z_gw := z_mem (i := 1119) (by decide +kernel) (by decide +kernel)
theorem w_im_Ip_tap : Cond.instanceMethod M_Ip_tap.1 ∈ z_gw := z_mem (i := 1120) (by decide +kernel) (by decide +kernel)
theorem w_se_Ip_tap : Cond.selects M_Ip_tap.1.cls M_Ip_tap.1 M_Ip_tap.1 ∈ z_gw := z_mem (i := 1121) (by decide +kernel) (by decide +kernel)
theorem d_Lw_tap_12 : decode method_22_code 12 = .ok (.astore_n 3, 1) := by decide +kernel
theorem d_Lw_tap_13 : decode method_22_code 13 = .ok (.iconst 1, 1) := by decide +kernel
theorem d_Lw_tap_14 : decode method_22_code 14 = .ok (.ireturn, 1) := by decide +kernel
set_option maxHeartbeats 4000000 in
set_option maxRecDepth 100000 in
theorem C_Lw_tapE (g : zG) (a pa ta sa gs co fu la gy du re wm ac : Nat) (lab labg fub fubg fut1 fut2 fut3 : Nat) (gr gb : Nat → Int64) (he mg wd ir ib : Int32) (io : Int64) (m : Int32) (hw : ¬ (1 ≤ m ∧ m ≤ 500)) (ou : Nat) (of : Nat → Int64) : CT g M_Lw_tap [.ref a, .int m, .ref ou] [(a, .inr (11, [.ref pa, .ref ta, .ref sa, .ref gs, .ref co, .ref fu, .ref la, .ref gy, .ref du, .ref re, .ref wm, .ref ac])), (la, .inr (5, [.ref lab, .int he, .int mg, .int wd])), (lab, .inr (6, [.ref labg, .int ir])), (labg, .inl (3, 4, .inr (.inl gr))), (fu, .inr (3, [.ref fub, .ref fut1, .ref fut2, .ref fut3, .long io])), (fub, .inr (6, [.ref fubg, .int ib])), (fubg, .inl (3, 4, .inr (.inl gb))), (ou, .inl (3, 1, .inr (.inl of)))] (fun o cs1 => o = .inl (some (.int 1)) ∧ cs1 = [(a, .inr (11, [.ref pa, .ref ta, .ref sa, .ref gs, .ref co, .ref fu, .ref la, .ref gy, .ref du, .ref re, .ref wm, .ref ac])), (la, .inr (5, [.ref lab, .int he, .int mg, .int wd])), (lab, .inr (6, [.ref labg, .int ir])), (labg, .inl (3, 4, .inr (.inl gr))), (fu, .inr (3, [.ref fub, .ref fut1, .ref fut2, .ref fut3, .long io])), (fub, .inr (6, [.ref fubg, .int ib])), (fubg, .inl (3, 4, .inr (.inl gb))), (ou, .inl (3, 1, .inr (.inl of)))]) 1 6 := by
  refine z_ofH (by decide) (by decide) (Nat.le_of_ble_eq_true rfl) (fun w0 => ?_)
  refine r_lvE (lv2 := [(0, .ref a), (1, .int m), (2, .ref ou)]) rfl ?_
  refine r_aload_n d_Lw_tap_0 rfl 2 rfl ?_
  refine r_iconst d_Lw_tap_1 (v := 0) (by decide) ?_
  refine r_aload_n d_Lw_tap_2 rfl 0 rfl ?_
  refine r_iload_n d_Lw_tap_3 rfl 1 rfl ?_
  refine r_callVH (As := [.int m]) (rest := [.int 0, .ref ou]) (csC := [(a, .inr (11, [.ref pa, .ref ta, .ref sa, .ref gs, .ref co, .ref fu, .ref la, .ref gy, .ref du, .ref re, .ref wm, .ref ac])), (la, .inr (5, [.ref lab, .int he, .int mg, .int wd])), (lab, .inr (6, [.ref labg, .int ir])), (labg, .inl (3, 4, .inr (.inl gr))), (fu, .inr (3, [.ref fub, .ref fut1, .ref fut2, .ref fut3, .long io])), (fub, .inr (6, [.ref fubg, .int ib])), (fubg, .inl (3, 4, .inr (.inl gb)))]) (is := [0, 1, 2, 3, 4, 5, 6]) (q0 := 0) rfl rfl ln_Lw_86 w_im_Ip_tap w_se_Ip_tap ok_Lw_tap_Ip_tap d_Lw_tap_4 (C_Ip_tapE g a pa ta sa gs co fu la gy du re wm ac lab labg fub fubg fut1 fut2 fut3 gr gb he mg wd ir ib io m hw) rfl rfl (Nat.le_of_ble_eq_true rfl) rfl (by decide) (by omega) (by omega) (fun E cs1 hx => ?_) (fun v cs1 hx => ?_)
  · obtain ⟨e1, rfl⟩ := hx
    cases e1
    refine ⟨rfl, "java/lang/IllegalArgumentException", [], [(0, 9, 15, 69), (0, 9, 18, 78)], (0, 9, 12, 13), rfl, (fun z hz => nomatch hz), by decide, by decide, lx_Lw_13, ce_13, fun qx => ?_⟩
    refine r_cs (cs2 := [(a, .inr (11, [.ref pa, .ref ta, .ref sa, .ref gs, .ref co, .ref fu, .ref la, .ref gy, .ref du, .ref re, .ref wm, .ref ac])), (la, .inr (5, [.ref lab, .int he, .int mg, .int wd])), (lab, .inr (6, [.ref labg, .int ir])), (labg, .inl (3, 4, .inr (.inl gr))), (fu, .inr (3, [.ref fub, .ref fut1, .ref fut2, .ref fut3, .long io])), (fub, .inr (6, [.ref fubg, .int ib])), (fubg, .inl (3, 4, .inr (.inl gb))), (ou, .inl (3, 1, .inr (.inl of)))]) rfl ?_
    refine r_astore_n (lv' := [(3, .ref qx), (0, .ref a), (1, .int m), (2, .ref ou)]) d_Lw_tap_12 rfl (by decide) rfl ?_
    refine r_iconst d_Lw_tap_13 (v := 1) (by decide) ?_
    refine r_iret d_Lw_tap_14 rfl rfl ?_
    exact ⟨rfl, rfl⟩
  · exact absurd hx.1 (by simp)
theorem lx_Lw_69 : Cond.classLink "IronpourLaw" 69 "java/lang/IllegalStateException" ∈ z_gw := z_mem (i := 981) (by decide +kernel) (by decide +kernel)
theorem d_Lw_tap_18 : decode method_22_code 18 = .ok (.astore_n 3, 1) := by decide +kernel
theorem d_Lw_tap_19 : decode method_22_code 19 = .ok (.iconst 3, 1) := by decide +kernel
theorem d_Lw_tap_20 : decode method_22_code 20 = .ok (.ireturn, 1) := by decide +kernel
set_option maxHeartbeats 4000000 in
set_option maxRecDepth 100000 in
theorem C_Lw_tapG (g : zG) (a pa ta sa gs co fu la gy du re wm ac : Nat) (lab labg fub fubg fut1 fut2 fut3 : Nat) (gr gb : Nat → Int64) (he mg wd ir ib : Int32) (io : Int64) (m : Int32) (hw : (1 ≤ m ∧ m ≤ 500)) (he0 : ir = 0) (hg : ib < m) (ou : Nat) (of : Nat → Int64) : CT g M_Lw_tap [.ref a, .int m, .ref ou] [(a, .inr (11, [.ref pa, .ref ta, .ref sa, .ref gs, .ref co, .ref fu, .ref la, .ref gy, .ref du, .ref re, .ref wm, .ref ac])), (la, .inr (5, [.ref lab, .int he, .int mg, .int wd])), (lab, .inr (6, [.ref labg, .int ir])), (labg, .inl (3, 4, .inr (.inl gr))), (fu, .inr (3, [.ref fub, .ref fut1, .ref fut2, .ref fut3, .long io])), (fub, .inr (6, [.ref fubg, .int ib])), (fubg, .inl (3, 4, .inr (.inl gb))), (ou, .inl (3, 1, .inr (.inl of)))] (fun o cs1 => o = .inl (some (.int 3)) ∧ cs1 = [(a, .inr (11, [.ref pa, .ref ta, .ref sa, .ref gs, .ref co, .ref fu, .ref la, .ref gy, .ref du, .ref re, .ref wm, .ref ac])), (la, .inr (5, [.ref lab, .int he, .int mg, .int wd])), (lab, .inr (6, [.ref labg, .int ir])), (labg, .inl (3, 4, .inr (.inl gr))), (fu, .inr (3, [.ref fub, .ref fut1, .ref fut2, .ref fut3, .long io])), (fub, .inr (6, [.ref fubg, .int ib])), (fubg, .inl (3, 4, .inr (.inl gb))), (ou, .inl (3, 1, .inr (.inl of)))]) 1 6 := by
  refine z_ofH (by decide) (by decide) (Nat.le_of_ble_eq_true rfl) (fun w0 => ?_)
  refine r_lvE (lv2 := [(0, .ref a), (1, .int m), (2, .ref ou)]) rfl ?_
  refine r_aload_n d_Lw_tap_0 rfl 2 rfl ?_
  refine r_iconst d_Lw_tap_1 (v := 0) (by decide) ?_
  refine r_aload_n d_Lw_tap_2 rfl 0 rfl ?_
  refine r_iload_n d_Lw_tap_3 rfl 1 rfl ?_
  refine r_callVH (As := [.int m]) (rest := [.int 0, .ref ou]) (csC := [(a, .inr (11, [.ref pa, .ref ta, .ref sa, .ref gs, .ref co, .ref fu, .ref la, .ref gy, .ref du, .ref re, .ref wm, .ref ac])), (la, .inr (5, [.ref lab, .int he, .int mg, .int wd])), (lab, .inr (6, [.ref labg, .int ir])), (labg, .inl (3, 4, .inr (.inl gr))), (fu, .inr (3, [.ref fub, .ref fut1, .ref fut2, .ref fut3, .long io])), (fub, .inr (6, [.ref fubg, .int ib])), (fubg, .inl (3, 4, .inr (.inl gb)))]) (is := [0, 1, 2, 3, 4, 5, 6]) (q0 := 0) rfl rfl ln_Lw_86 w_im_Ip_tap w_se_Ip_tap ok_Lw_tap_Ip_tap d_Lw_tap_4 (C_Ip_tapG g a pa ta sa gs co fu la gy du re wm ac lab labg fub fubg fut1 fut2 fut3 gr gb he mg wd ir ib io m hw he0 hg) rfl rfl (Nat.le_of_ble_eq_true rfl) rfl (by decide) (by omega) (by omega) (fun E cs1 hx => ?_) (fun v cs1 hx => ?_)
  · obtain ⟨e1, rfl⟩ := hx
    cases e1
    refine ⟨rfl, "java/lang/UnsupportedOperationException", [(0, 9, 12, 13), (0, 9, 15, 69)], [], (0, 9, 18, 78), rfl, (fun z hz => by simp only [List.mem_cons, List.not_mem_nil, or_false] at hz; rcases hz with rfl | rfl <;> first | exact Or.inr ⟨by decide, _, lx_Lw_13, by decide⟩ | exact Or.inr ⟨by decide, _, lx_Lw_69, by decide⟩), by decide, by decide, lx_Lw_78, ce_78, fun qx => ?_⟩
    refine r_cs (cs2 := [(a, .inr (11, [.ref pa, .ref ta, .ref sa, .ref gs, .ref co, .ref fu, .ref la, .ref gy, .ref du, .ref re, .ref wm, .ref ac])), (la, .inr (5, [.ref lab, .int he, .int mg, .int wd])), (lab, .inr (6, [.ref labg, .int ir])), (labg, .inl (3, 4, .inr (.inl gr))), (fu, .inr (3, [.ref fub, .ref fut1, .ref fut2, .ref fut3, .long io])), (fub, .inr (6, [.ref fubg, .int ib])), (fubg, .inl (3, 4, .inr (.inl gb))), (ou, .inl (3, 1, .inr (.inl of)))]) rfl ?_
    refine r_astore_n (lv' := [(3, .ref qx), (0, .ref a), (1, .int m), (2, .ref ou)]) d_Lw_tap_18 rfl (by decide) rfl ?_
    refine r_iconst d_Lw_tap_19 (v := 3) (by decide) ?_
    refine r_iret d_Lw_tap_20 rfl rfl ?_
    exact ⟨rfl, rfl⟩
  · exact absurd hx.1 (by simp)
abbrev M_Lw_treat : zM := (⟨"IronpourLaw", "treat", "(LIronpour;I[J)I"⟩, method_23_code, 4, (Option.some FieldType.int), 7, 121, [((0 : Nat), (9 : Nat), (12 : Nat), (13 : Nat)), ((0 : Nat), (9 : Nat), (15 : Nat), (69 : Nat)), ((0 : Nat), (9 : Nat), (18 : Nat), (78 : Nat))])
theorem d_Lw_treat_0 : decode method_23_code 0 = .ok (.aload_n 2, 1) := by decide +kernel
theorem d_Lw_treat_1 : decode method_23_code 1 = .ok (.iconst 0, 1) := by decide +kernel
theorem d_Lw_treat_2 : decode method_23_code 2 = .ok (.aload_n 0, 1) := by decide +kernel
theorem d_Lw_treat_3 : decode method_23_code 3 = .ok (.iload_n 1, 1) := by decide +kernel
theorem d_Lw_treat_4 : decode method_23_code 4 = .ok (.invokevirtual 89, 3) := by decide +kernel
theorem ok_Lw_treat_Ip_treat : z_okH M_Lw_treat M_Ip_treat 1 := ⟨z_mem (i := 1141) (by decide +kernel) (by decide +kernel), rfl, ⟨by decide +kernel, by decide +kernel, by decide +kernel⟩, ⟨by decide, by decide⟩, z_mem (i := 58) (by decide +kernel) (by decide +kernel)⟩
theorem ln_Lw_89 : Cond.methodLink "IronpourLaw" 89 M_Ip_treat.1 ∈ z_gw := z_mem (i := 1138) (by decide +kernel) (by decide +kernel)
theorem w_im_Ip_treat : Cond.instanceMethod M_Ip_treat.1 ∈ z_gw := z_mem (i := 1139) (by decide +kernel) (by decide +kernel)
theorem w_se_Ip_treat : Cond.selects M_Ip_treat.1.cls M_Ip_treat.1 M_Ip_treat.1 ∈ z_gw := z_mem (i := 1140) (by decide +kernel) (by decide +kernel)
theorem d_Lw_treat_12 : decode method_23_code 12 = .ok (.astore_n 3, 1) := by decide +kernel
theorem d_Lw_treat_13 : decode method_23_code 13 = .ok (.iconst 1, 1) := by decide +kernel
theorem d_Lw_treat_14 : decode method_23_code 14 = .ok (.ireturn, 1) := by decide +kernel
set_option maxHeartbeats 4000000 in
set_option maxRecDepth 100000 in
theorem C_Lw_treatE (g : zG) (a pa ta sa gs co fu la gy du re wm ac : Nat) (lab labg : Nat) (gr : Nat → Int64) (he mg wd ir : Int32) (m : Int32) (hw : ¬ (1 ≤ m ∧ m ≤ 100)) (ou : Nat) (of : Nat → Int64) : CT g M_Lw_treat [.ref a, .int m, .ref ou] [(a, .inr (11, [.ref pa, .ref ta, .ref sa, .ref gs, .ref co, .ref fu, .ref la, .ref gy, .ref du, .ref re, .ref wm, .ref ac])), (la, .inr (5, [.ref lab, .int he, .int mg, .int wd])), (lab, .inr (6, [.ref labg, .int ir])), (labg, .inl (3, 4, .inr (.inl gr))), (ou, .inl (3, 1, .inr (.inl of)))] (fun o cs1 => o = .inl (some (.int 1)) ∧ cs1 = [(a, .inr (11, [.ref pa, .ref ta, .ref sa, .ref gs, .ref co, .ref fu, .ref la, .ref gy, .ref du, .ref re, .ref wm, .ref ac])), (la, .inr (5, [.ref lab, .int he, .int mg, .int wd])), (lab, .inr (6, [.ref labg, .int ir])), (labg, .inl (3, 4, .inr (.inl gr))), (ou, .inl (3, 1, .inr (.inl of)))]) 1 6 := by
  refine z_ofH (by decide) (by decide) (Nat.le_of_ble_eq_true rfl) (fun w0 => ?_)
  refine r_lvE (lv2 := [(0, .ref a), (1, .int m), (2, .ref ou)]) rfl ?_
  refine r_aload_n d_Lw_treat_0 rfl 2 rfl ?_
  refine r_iconst d_Lw_treat_1 (v := 0) (by decide) ?_
  refine r_aload_n d_Lw_treat_2 rfl 0 rfl ?_
  refine r_iload_n d_Lw_treat_3 rfl 1 rfl ?_
  refine r_callVH (As := [.int m]) (rest := [.int 0, .ref ou]) (csC := [(a, .inr (11, [.ref pa, .ref ta, .ref sa, .ref gs, .ref co, .ref fu, .ref la, .ref gy, .ref du, .ref re, .ref wm, .ref ac])), (la, .inr (5, [.ref lab, .int he, .int mg, .int wd])), (lab, .inr (6, [.ref labg, .int ir])), (labg, .inl (3, 4, .inr (.inl gr)))]) (is := [0, 1, 2, 3]) (q0 := 0) rfl rfl ln_Lw_89 w_im_Ip_treat w_se_Ip_treat ok_Lw_treat_Ip_treat d_Lw_treat_4 (C_Ip_treatE g a pa ta sa gs co fu la gy du re wm ac lab labg gr he mg wd ir m hw) rfl rfl (Nat.le_of_ble_eq_true rfl) rfl (by decide) (by omega) (by omega) (fun E cs1 hx => ?_) (fun v cs1 hx => ?_)
  · obtain ⟨e1, rfl⟩ := hx
    cases e1
    refine ⟨rfl, "java/lang/IllegalArgumentException", [], [(0, 9, 15, 69), (0, 9, 18, 78)], (0, 9, 12, 13), rfl, (fun z hz => nomatch hz), by decide, by decide, lx_Lw_13, ce_13, fun qx => ?_⟩
    refine r_cs (cs2 := [(a, .inr (11, [.ref pa, .ref ta, .ref sa, .ref gs, .ref co, .ref fu, .ref la, .ref gy, .ref du, .ref re, .ref wm, .ref ac])), (la, .inr (5, [.ref lab, .int he, .int mg, .int wd])), (lab, .inr (6, [.ref labg, .int ir])), (labg, .inl (3, 4, .inr (.inl gr))), (ou, .inl (3, 1, .inr (.inl of)))]) rfl ?_
    refine r_astore_n (lv' := [(3, .ref qx), (0, .ref a), (1, .int m), (2, .ref ou)]) d_Lw_treat_12 rfl (by decide) rfl ?_
    refine r_iconst d_Lw_treat_13 (v := 1) (by decide) ?_
    refine r_iret d_Lw_treat_14 rfl rfl ?_
    exact ⟨rfl, rfl⟩
  · exact absurd hx.1 (by simp)
theorem ce_69 : Cond.castable "java/lang/IllegalStateException" "java/lang/IllegalStateException" ∈ z_nw := z_memN (i := 993) (by decide +kernel) (by decide +kernel)
theorem d_Lw_treat_15 : decode method_23_code 15 = .ok (.astore_n 3, 1) := by decide +kernel
theorem d_Lw_treat_16 : decode method_23_code 16 = .ok (.iconst 2, 1) := by decide +kernel
theorem d_Lw_treat_17 : decode method_23_code 17 = .ok (.ireturn, 1) := by decide +kernel
set_option maxHeartbeats 4000000 in
set_option maxRecDepth 100000 in
theorem C_Lw_treatF (g : zG) (a pa ta sa gs co fu la gy du re wm ac : Nat) (lab labg : Nat) (gr : Nat → Int64) (he mg wd ir : Int32) (m : Int32) (hw : (1 ≤ m ∧ m ≤ 100)) (he0 : ir = 0) (ou : Nat) (of : Nat → Int64) : CT g M_Lw_treat [.ref a, .int m, .ref ou] [(a, .inr (11, [.ref pa, .ref ta, .ref sa, .ref gs, .ref co, .ref fu, .ref la, .ref gy, .ref du, .ref re, .ref wm, .ref ac])), (la, .inr (5, [.ref lab, .int he, .int mg, .int wd])), (lab, .inr (6, [.ref labg, .int ir])), (labg, .inl (3, 4, .inr (.inl gr))), (ou, .inl (3, 1, .inr (.inl of)))] (fun o cs1 => o = .inl (some (.int 2)) ∧ cs1 = [(a, .inr (11, [.ref pa, .ref ta, .ref sa, .ref gs, .ref co, .ref fu, .ref la, .ref gy, .ref du, .ref re, .ref wm, .ref ac])), (la, .inr (5, [.ref lab, .int he, .int mg, .int wd])), (lab, .inr (6, [.ref labg, .int ir])), (labg, .inl (3, 4, .inr (.inl gr))), (ou, .inl (3, 1, .inr (.inl of)))]) 1 6 := by
  refine z_ofH (by decide) (by decide) (Nat.le_of_ble_eq_true rfl) (fun w0 => ?_)
  refine r_lvE (lv2 := [(0, .ref a), (1, .int m), (2, .ref ou)]) rfl ?_
  refine r_aload_n d_Lw_treat_0 rfl 2 rfl ?_
  refine r_iconst d_Lw_treat_1 (v := 0) (by decide) ?_
  refine r_aload_n d_Lw_treat_2 rfl 0 rfl ?_
  refine r_iload_n d_Lw_treat_3 rfl 1 rfl ?_
  refine r_callVH (As := [.int m]) (rest := [.int 0, .ref ou]) (csC := [(a, .inr (11, [.ref pa, .ref ta, .ref sa, .ref gs, .ref co, .ref fu, .ref la, .ref gy, .ref du, .ref re, .ref wm, .ref ac])), (la, .inr (5, [.ref lab, .int he, .int mg, .int wd])), (lab, .inr (6, [.ref labg, .int ir])), (labg, .inl (3, 4, .inr (.inl gr)))]) (is := [0, 1, 2, 3]) (q0 := 0) rfl rfl ln_Lw_89 w_im_Ip_treat w_se_Ip_treat ok_Lw_treat_Ip_treat d_Lw_treat_4 (C_Ip_treatF g a pa ta sa gs co fu la gy du re wm ac lab labg gr he mg wd ir m hw he0) rfl rfl (Nat.le_of_ble_eq_true rfl) rfl (by decide) (by omega) (by omega) (fun E cs1 hx => ?_) (fun v cs1 hx => ?_)
  · obtain ⟨e1, rfl⟩ := hx
    cases e1
    refine ⟨rfl, "java/lang/IllegalStateException", [(0, 9, 12, 13)], [(0, 9, 18, 78)], (0, 9, 15, 69), rfl, (fun z hz => by simp only [List.mem_cons, List.not_mem_nil, or_false] at hz; rcases hz with rfl; exact Or.inr ⟨by decide, _, lx_Lw_13, by decide⟩), by decide, by decide, lx_Lw_69, ce_69, fun qx => ?_⟩
    refine r_cs (cs2 := [(a, .inr (11, [.ref pa, .ref ta, .ref sa, .ref gs, .ref co, .ref fu, .ref la, .ref gy, .ref du, .ref re, .ref wm, .ref ac])), (la, .inr (5, [.ref lab, .int he, .int mg, .int wd])), (lab, .inr (6, [.ref labg, .int ir])), (labg, .inl (3, 4, .inr (.inl gr))), (ou, .inl (3, 1, .inr (.inl of)))]) rfl ?_
    refine r_astore_n (lv' := [(3, .ref qx), (0, .ref a), (1, .int m), (2, .ref ou)]) d_Lw_treat_15 rfl (by decide) rfl ?_
    refine r_iconst d_Lw_treat_16 (v := 2) (by decide) ?_
    refine r_iret d_Lw_treat_17 rfl rfl ?_
    exact ⟨rfl, rfl⟩
  · exact absurd hx.1 (by simp)
abbrev M_Lw_minutes : zM := (⟨"IronpourLaw", "minutes", "(LIronpour;I[J)I"⟩, method_24_code, 4, (Option.some FieldType.int), 7, 122, [((0 : Nat), (9 : Nat), (12 : Nat), (13 : Nat))])
theorem d_Lw_minutes_0 : decode method_24_code 0 = .ok (.aload_n 2, 1) := by decide +kernel
theorem d_Lw_minutes_1 : decode method_24_code 1 = .ok (.iconst 0, 1) := by decide +kernel
theorem d_Lw_minutes_2 : decode method_24_code 2 = .ok (.aload_n 0, 1) := by decide +kernel
theorem d_Lw_minutes_3 : decode method_24_code 3 = .ok (.iload_n 1, 1) := by decide +kernel
theorem d_Lw_minutes_4 : decode method_24_code 4 = .ok (.invokevirtual 92, 3) := by decide +kernel
theorem ok_Lw_minutes_Ip_minutes : z_okH M_Lw_minutes M_Ip_minutes 1 := ⟨z_mem (i := 1155) (by decide +kernel) (by decide +kernel), rfl, ⟨by decide +kernel, by decide +kernel, by decide +kernel⟩, ⟨by decide, by decide⟩, z_mem (i := 58) (by decide +kernel) (by decide +kernel)⟩
theorem ln_Lw_92 : Cond.methodLink "IronpourLaw" 92 M_Ip_minutes.1 ∈ z_gw := z_mem (i := 1152) (by decide +kernel) (by decide +kernel)
theorem w_im_Ip_minutes : Cond.instanceMethod M_Ip_minutes.1 ∈ z_gw := z_mem (i := 1153) (by decide +kernel) (by decide +kernel)
theorem w_se_Ip_minutes : Cond.selects M_Ip_minutes.1.cls M_Ip_minutes.1 M_Ip_minutes.1 ∈ z_gw := z_mem (i := 1154) (by decide +kernel) (by decide +kernel)
theorem d_Lw_minutes_12 : decode method_24_code 12 = .ok (.astore_n 3, 1) := by decide +kernel
theorem d_Lw_minutes_13 : decode method_24_code 13 = .ok (.iconst 1, 1) := by decide +kernel
theorem d_Lw_minutes_14 : decode method_24_code 14 = .ok (.ireturn, 1) := by decide +kernel
set_option maxHeartbeats 4000000 in
set_option maxRecDepth 100000 in
theorem C_Lw_minutesE (g : zG) (a pa ta sa gs co fu la gy du re wm ac : Nat) (lab labg : Nat) (gr : Nat → Int64) (he mg wd ir : Int32) (wmm : Int32) (wmd : Nat) (h : Int32) (hw : ¬ (1 ≤ h ∧ h ≤ 60)) (ou : Nat) (of : Nat → Int64) : CT g M_Lw_minutes [.ref a, .int h, .ref ou] [(a, .inr (11, [.ref pa, .ref ta, .ref sa, .ref gs, .ref co, .ref fu, .ref la, .ref gy, .ref du, .ref re, .ref wm, .ref ac])), (la, .inr (5, [.ref lab, .int he, .int mg, .int wd])), (lab, .inr (6, [.ref labg, .int ir])), (labg, .inl (3, 4, .inr (.inl gr))), (wm, .inr (13, [.int wmm, .ref wmd, .int 0])), (ou, .inl (3, 1, .inr (.inl of)))] (fun o cs1 => o = .inl (some (.int 1)) ∧ cs1 = [(a, .inr (11, [.ref pa, .ref ta, .ref sa, .ref gs, .ref co, .ref fu, .ref la, .ref gy, .ref du, .ref re, .ref wm, .ref ac])), (la, .inr (5, [.ref lab, .int he, .int mg, .int wd])), (lab, .inr (6, [.ref labg, .int ir])), (labg, .inl (3, 4, .inr (.inl gr))), (wm, .inr (13, [.int wmm, .ref wmd, .int 0])), (ou, .inl (3, 1, .inr (.inl of)))]) 1 6 := by
  refine z_ofH (by decide) (by decide) (Nat.le_of_ble_eq_true rfl) (fun w0 => ?_)
  refine r_lvE (lv2 := [(0, .ref a), (1, .int h), (2, .ref ou)]) rfl ?_
  refine r_aload_n d_Lw_minutes_0 rfl 2 rfl ?_
  refine r_iconst d_Lw_minutes_1 (v := 0) (by decide) ?_
  refine r_aload_n d_Lw_minutes_2 rfl 0 rfl ?_
  refine r_iload_n d_Lw_minutes_3 rfl 1 rfl ?_
  refine r_callVH (As := [.int h]) (rest := [.int 0, .ref ou]) (csC := [(a, .inr (11, [.ref pa, .ref ta, .ref sa, .ref gs, .ref co, .ref fu, .ref la, .ref gy, .ref du, .ref re, .ref wm, .ref ac])), (la, .inr (5, [.ref lab, .int he, .int mg, .int wd])), (lab, .inr (6, [.ref labg, .int ir])), (labg, .inl (3, 4, .inr (.inl gr))), (wm, .inr (13, [.int wmm, .ref wmd, .int 0]))]) (is := [0, 1, 2, 3, 4]) (q0 := 0) rfl rfl ln_Lw_92 w_im_Ip_minutes w_se_Ip_minutes ok_Lw_minutes_Ip_minutes d_Lw_minutes_4 (C_Ip_minutesE g a pa ta sa gs co fu la gy du re wm ac lab labg gr he mg wd ir wmm wmd h hw) rfl rfl (Nat.le_of_ble_eq_true rfl) rfl (by decide) (by omega) (by omega) (fun E cs1 hx => ?_) (fun v cs1 hx => ?_)
  · obtain ⟨e1, rfl⟩ := hx
    cases e1
    refine ⟨rfl, "java/lang/IllegalArgumentException", [], [], (0, 9, 12, 13), rfl, (fun z hz => nomatch hz), by decide, by decide, lx_Lw_13, ce_13, fun qx => ?_⟩
    refine r_cs (cs2 := [(a, .inr (11, [.ref pa, .ref ta, .ref sa, .ref gs, .ref co, .ref fu, .ref la, .ref gy, .ref du, .ref re, .ref wm, .ref ac])), (la, .inr (5, [.ref lab, .int he, .int mg, .int wd])), (lab, .inr (6, [.ref labg, .int ir])), (labg, .inl (3, 4, .inr (.inl gr))), (wm, .inr (13, [.int wmm, .ref wmd, .int 0])), (ou, .inl (3, 1, .inr (.inl of)))]) rfl ?_
    refine r_astore_n (lv' := [(3, .ref qx), (0, .ref a), (1, .int h), (2, .ref ou)]) d_Lw_minutes_12 rfl (by decide) rfl ?_
    refine r_iconst d_Lw_minutes_13 (v := 1) (by decide) ?_
    refine r_iret d_Lw_minutes_14 rfl rfl ?_
    exact ⟨rfl, rfl⟩
  · exact absurd hx.1 (by simp)
theorem d_Lw_minutes_7 : decode method_24_code 7 = .ok (.i2l, 1) := by decide +kernel
theorem d_Lw_minutes_8 : decode method_24_code 8 = .ok (.lastore, 1) := by decide +kernel
theorem d_Lw_minutes_9 : decode method_24_code 9 = .ok (.goto 6, 3) := by decide +kernel
theorem d_Lw_minutes_15 : decode method_24_code 15 = .ok (.iconst 0, 1) := by decide +kernel
theorem d_Lw_minutes_16 : decode method_24_code 16 = .ok (.ireturn, 1) := by decide +kernel
set_option maxHeartbeats 4000000 in
set_option maxRecDepth 100000 in
theorem C_Lw_minutes0 (g : zG) (a pa ta sa gs co fu la gy du re wm ac : Nat) (lab labg : Nat) (gr : Nat → Int64) (he mg wd ir : Int32) (wmm : Int32) (wmd : Nat) (m : Nat) (hm : m < 1000) (hw : (1 ≤ nI m ∧ nI m ≤ 60)) (ou : Nat) (of : Nat → Int64) : CT g M_Lw_minutes [.ref a, .int (nI m), .ref ou] [(a, .inr (11, [.ref pa, .ref ta, .ref sa, .ref gs, .ref co, .ref fu, .ref la, .ref gy, .ref du, .ref re, .ref wm, .ref ac])), (la, .inr (5, [.ref lab, .int he, .int mg, .int wd])), (lab, .inr (6, [.ref labg, .int ir])), (labg, .inl (3, 4, .inr (.inl gr))), (wm, .inr (13, [.int wmm, .ref wmd, .int 0])), (ou, .inl (3, 1, .inr (.inl of)))] (fun o cs1 => o = .inl (some (.int 0)) ∧ cs1 = [(a, .inr (11, [.ref pa, .ref ta, .ref sa, .ref gs, .ref co, .ref fu, .ref la, .ref gy, .ref du, .ref re, .ref wm, .ref ac])), (la, .inr (5, [.ref lab, .int (if 20 < he - 4 * nI m then he - 4 * nI m else 20), .int (mgS mg m), .int wd])), (lab, .inr (6, [.ref labg, .int ir])), (labg, .inl (3, 4, .inr (.inl gr))), (wm, .inr (13, [.int wmm, .ref wmd, .int 0])), (ou, .inl (3, 1, .inr (.inl (vp_updL of 0 ((if ir = 0 then 0 else (if 20 < he - 4 * nI m then he - 4 * nI m else 20))).toInt64))))]) 1 6 := by
  refine z_ofH (by decide) (by decide) (Nat.le_of_ble_eq_true rfl) (fun w0 => ?_)
  refine r_lvE (lv2 := [(0, .ref a), (1, .int (nI m)), (2, .ref ou)]) rfl ?_
  refine r_aload_n d_Lw_minutes_0 rfl 2 rfl ?_
  refine r_iconst d_Lw_minutes_1 (v := 0) (by decide) ?_
  refine r_aload_n d_Lw_minutes_2 rfl 0 rfl ?_
  refine r_iload_n d_Lw_minutes_3 rfl 1 rfl ?_
  refine r_callVH (As := [.int (nI m)]) (rest := [.int 0, .ref ou]) (csC := [(a, .inr (11, [.ref pa, .ref ta, .ref sa, .ref gs, .ref co, .ref fu, .ref la, .ref gy, .ref du, .ref re, .ref wm, .ref ac])), (la, .inr (5, [.ref lab, .int he, .int mg, .int wd])), (lab, .inr (6, [.ref labg, .int ir])), (labg, .inl (3, 4, .inr (.inl gr))), (wm, .inr (13, [.int wmm, .ref wmd, .int 0]))]) (is := [0, 1, 2, 3, 4]) (q0 := 0) rfl rfl ln_Lw_92 w_im_Ip_minutes w_se_Ip_minutes ok_Lw_minutes_Ip_minutes d_Lw_minutes_4 (C_Ip_minutes0 g a pa ta sa gs co fu la gy du re wm ac lab labg gr he mg wd ir wmm wmd m hm hw) rfl rfl (Nat.le_of_ble_eq_true rfl) rfl (by decide) (by omega) (by omega) (fun E cs1 hx => ?_) (fun v cs1 hx => ?_)
  · exact absurd hx.1 (by simp)
  · obtain ⟨e1, rfl⟩ := hx
    cases e1
    refine ⟨rfl, ?_⟩
    refine r_st (st2 := [.int (if ir = 0 then 0 else (if 20 < he - 4 * nI m then he - 4 * nI m else 20)), .int 0, .ref ou]) rfl ?_
    refine r_cs (cs2 := [(a, .inr (11, [.ref pa, .ref ta, .ref sa, .ref gs, .ref co, .ref fu, .ref la, .ref gy, .ref du, .ref re, .ref wm, .ref ac])), (la, .inr (5, [.ref lab, .int (if 20 < he - 4 * nI m then he - 4 * nI m else 20), .int (mgS mg m), .int wd])), (lab, .inr (6, [.ref labg, .int ir])), (labg, .inl (3, 4, .inr (.inl gr))), (wm, .inr (13, [.int wmm, .ref wmd, .int 0])), (ou, .inl (3, 1, .inr (.inl of)))]) rfl ?_
    refine r_i2l d_Lw_minutes_7 (v := (if ir = 0 then 0 else (if 20 < he - 4 * nI m then he - 4 * nI m else 20)).toInt64) rfl ?_
    refine r_last d_Lw_minutes_8 (q0 := 5) rfl (fun q => q.elim (by decide) (by decide)) (f' := vp_updL of 0 ((if ir = 0 then 0 else (if 20 < he - 4 * nI m then he - 4 * nI m else 20)).toInt64)) rfl (cs' := [(a, .inr (11, [.ref pa, .ref ta, .ref sa, .ref gs, .ref co, .ref fu, .ref la, .ref gy, .ref du, .ref re, .ref wm, .ref ac])), (la, .inr (5, [.ref lab, .int (if 20 < he - 4 * nI m then he - 4 * nI m else 20), .int (mgS mg m), .int wd])), (lab, .inr (6, [.ref labg, .int ir])), (labg, .inl (3, 4, .inr (.inl gr))), (wm, .inr (13, [.int wmm, .ref wmd, .int 0])), (ou, .inl (3, 1, .inr (.inl (vp_updL of 0 ((if ir = 0 then 0 else (if 20 < he - 4 * nI m then he - 4 * nI m else 20)).toInt64)))))]) rfl ?_
    refine r_goto (tgt := 15) d_Lw_minutes_9 (by decide) ?_
    refine r_iconst d_Lw_minutes_15 (v := 0) (by decide) ?_
    refine r_iret d_Lw_minutes_16 rfl rfl ?_
    exact ⟨rfl, rfl⟩
abbrev M_Lw_ladle : zM := (⟨"IronpourLaw", "ladle", "(LIronpour;C[J)I"⟩, method_25_code, 4, (Option.some FieldType.int), 9, 200, [((0 : Nat), (9 : Nat), (12 : Nat), (13 : Nat))])
theorem d_Lw_ladle_0 : decode method_25_code 0 = .ok (.aload_n 2, 1) := by decide +kernel
theorem d_Lw_ladle_1 : decode method_25_code 1 = .ok (.iconst 0, 1) := by decide +kernel
theorem d_Lw_ladle_2 : decode method_25_code 2 = .ok (.aload_n 0, 1) := by decide +kernel
theorem d_Lw_ladle_3 : decode method_25_code 3 = .ok (.iload_n 1, 1) := by decide +kernel
theorem d_Lw_ladle_4 : decode method_25_code 4 = .ok (.invokevirtual 95, 3) := by decide +kernel
theorem ok_Lw_ladle_Ip_ladle : z_okH M_Lw_ladle M_Ip_ladle 1 := ⟨z_mem (i := 1169) (by decide +kernel) (by decide +kernel), rfl, ⟨by decide +kernel, by decide +kernel, by decide +kernel⟩, ⟨by decide, by decide⟩, z_mem (i := 58) (by decide +kernel) (by decide +kernel)⟩
theorem ln_Lw_95 : Cond.methodLink "IronpourLaw" 95 M_Ip_ladle.1 ∈ z_gw := z_mem (i := 1166) (by decide +kernel) (by decide +kernel)
theorem w_im_Ip_ladle : Cond.instanceMethod M_Ip_ladle.1 ∈ z_gw := z_mem (i := 1167) (by decide +kernel) (by decide +kernel)
theorem w_se_Ip_ladle : Cond.selects M_Ip_ladle.1.cls M_Ip_ladle.1 M_Ip_ladle.1 ∈ z_gw := z_mem (i := 1168) (by decide +kernel) (by decide +kernel)
theorem d_Lw_ladle_12 : decode method_25_code 12 = .ok (.astore_n 3, 1) := by decide +kernel
theorem d_Lw_ladle_13 : decode method_25_code 13 = .ok (.iconst 1, 1) := by decide +kernel
theorem d_Lw_ladle_14 : decode method_25_code 14 = .ok (.ireturn, 1) := by decide +kernel
set_option maxHeartbeats 4000000 in
set_option maxRecDepth 100000 in
theorem C_Lw_ladleE (g : zG) (a pa ta sa gs co fu la gy du re wm ac : Nat) (lab labg : Nat) (gr : Nat → Int64) (he mg wd ir : Int32) (w : Int32) (hw : z_ix 3 w < 0) (ou : Nat) (of : Nat → Int64) : CT g M_Lw_ladle [.ref a, .int w, .ref ou] [(a, .inr (11, [.ref pa, .ref ta, .ref sa, .ref gs, .ref co, .ref fu, .ref la, .ref gy, .ref du, .ref re, .ref wm, .ref ac])), (la, .inr (5, [.ref lab, .int he, .int mg, .int wd])), (lab, .inr (6, [.ref labg, .int ir])), (labg, .inl (3, 4, .inr (.inl gr))), (ou, .inl (3, 1, .inr (.inl of)))] (fun o cs1 => o = .inl (some (.int 1)) ∧ cs1 = [(a, .inr (11, [.ref pa, .ref ta, .ref sa, .ref gs, .ref co, .ref fu, .ref la, .ref gy, .ref du, .ref re, .ref wm, .ref ac])), (la, .inr (5, [.ref lab, .int he, .int mg, .int wd])), (lab, .inr (6, [.ref labg, .int ir])), (labg, .inl (3, 4, .inr (.inl gr))), (ou, .inl (3, 1, .inr (.inl of)))]) 1 6 := by
  refine z_ofH (by decide) (by decide) (Nat.le_of_ble_eq_true rfl) (fun w0 => ?_)
  refine r_lvE (lv2 := [(0, .ref a), (1, .int w), (2, .ref ou)]) rfl ?_
  refine r_aload_n d_Lw_ladle_0 rfl 2 rfl ?_
  refine r_iconst d_Lw_ladle_1 (v := 0) (by decide) ?_
  refine r_aload_n d_Lw_ladle_2 rfl 0 rfl ?_
  refine r_iload_n d_Lw_ladle_3 rfl 1 rfl ?_
  refine r_callVH (As := [.int w]) (rest := [.int 0, .ref ou]) (csC := [(a, .inr (11, [.ref pa, .ref ta, .ref sa, .ref gs, .ref co, .ref fu, .ref la, .ref gy, .ref du, .ref re, .ref wm, .ref ac])), (la, .inr (5, [.ref lab, .int he, .int mg, .int wd])), (lab, .inr (6, [.ref labg, .int ir])), (labg, .inl (3, 4, .inr (.inl gr)))]) (is := [0, 1, 2, 3]) (q0 := 0) rfl rfl ln_Lw_95 w_im_Ip_ladle w_se_Ip_ladle ok_Lw_ladle_Ip_ladle d_Lw_ladle_4 (C_Ip_ladleE g a pa ta sa gs co fu la gy du re wm ac lab labg gr he mg wd ir w hw) rfl rfl (Nat.le_of_ble_eq_true rfl) rfl (by decide) (by omega) (by omega) (fun E cs1 hx => ?_) (fun v cs1 hx => ?_)
  · obtain ⟨e1, rfl⟩ := hx
    cases e1
    refine ⟨rfl, "java/lang/IllegalArgumentException", [], [], (0, 9, 12, 13), rfl, (fun z hz => nomatch hz), by decide, by decide, lx_Lw_13, ce_13, fun qx => ?_⟩
    refine r_cs (cs2 := [(a, .inr (11, [.ref pa, .ref ta, .ref sa, .ref gs, .ref co, .ref fu, .ref la, .ref gy, .ref du, .ref re, .ref wm, .ref ac])), (la, .inr (5, [.ref lab, .int he, .int mg, .int wd])), (lab, .inr (6, [.ref labg, .int ir])), (labg, .inl (3, 4, .inr (.inl gr))), (ou, .inl (3, 1, .inr (.inl of)))]) rfl ?_
    refine r_astore_n (lv' := [(3, .ref qx), (0, .ref a), (1, .int w), (2, .ref ou)]) d_Lw_ladle_12 rfl (by decide) rfl ?_
    refine r_iconst d_Lw_ladle_13 (v := 1) (by decide) ?_
    refine r_iret d_Lw_ladle_14 rfl rfl ?_
    exact ⟨rfl, rfl⟩
  · exact absurd hx.1 (by simp)
theorem d_Lw_ladle_7 : decode method_25_code 7 = .ok (.i2l, 1) := by decide +kernel
theorem d_Lw_ladle_8 : decode method_25_code 8 = .ok (.lastore, 1) := by decide +kernel
theorem d_Lw_ladle_9 : decode method_25_code 9 = .ok (.goto 6, 3) := by decide +kernel
theorem d_Lw_ladle_15 : decode method_25_code 15 = .ok (.iconst 0, 1) := by decide +kernel
theorem d_Lw_ladle_16 : decode method_25_code 16 = .ok (.ireturn, 1) := by decide +kernel
set_option maxHeartbeats 4000000 in
set_option maxRecDepth 100000 in
theorem C_Lw_ladle0 (g : zG) (a pa ta sa gs co fu la gy du re wm ac : Nat) (lab labg : Nat) (gr : Nat → Int64) (he mg wd ir : Int32) (w : Int32) (hw : ¬ z_ix 3 w < 0) (he0 : ir = 0) (ou : Nat) (of : Nat → Int64) : CT g M_Lw_ladle [.ref a, .int w, .ref ou] [(a, .inr (11, [.ref pa, .ref ta, .ref sa, .ref gs, .ref co, .ref fu, .ref la, .ref gy, .ref du, .ref re, .ref wm, .ref ac])), (la, .inr (5, [.ref lab, .int he, .int mg, .int wd])), (lab, .inr (6, [.ref labg, .int ir])), (labg, .inl (3, 4, .inr (.inl gr))), (ou, .inl (3, 1, .inr (.inl of)))] (fun o cs1 => o = .inl (some (.int 0)) ∧ cs1 = [(a, .inr (11, [.ref pa, .ref ta, .ref sa, .ref gs, .ref co, .ref fu, .ref la, .ref gy, .ref du, .ref re, .ref wm, .ref ac])), (la, .inr (5, [.ref lab, .int he, .int mg, .int wd])), (lab, .inr (6, [.ref labg, .int ir])), (labg, .inl (3, 4, .inr (.inl gr))), (ou, .inl (3, 1, .inr (.inl (vp_updL of 0 (0).toInt64))))]) 1 6 := by
  refine z_ofH (by decide) (by decide) (Nat.le_of_ble_eq_true rfl) (fun w0 => ?_)
  refine r_lvE (lv2 := [(0, .ref a), (1, .int w), (2, .ref ou)]) rfl ?_
  refine r_aload_n d_Lw_ladle_0 rfl 2 rfl ?_
  refine r_iconst d_Lw_ladle_1 (v := 0) (by decide) ?_
  refine r_aload_n d_Lw_ladle_2 rfl 0 rfl ?_
  refine r_iload_n d_Lw_ladle_3 rfl 1 rfl ?_
  refine r_callVH (As := [.int w]) (rest := [.int 0, .ref ou]) (csC := [(a, .inr (11, [.ref pa, .ref ta, .ref sa, .ref gs, .ref co, .ref fu, .ref la, .ref gy, .ref du, .ref re, .ref wm, .ref ac])), (la, .inr (5, [.ref lab, .int he, .int mg, .int wd])), (lab, .inr (6, [.ref labg, .int ir])), (labg, .inl (3, 4, .inr (.inl gr)))]) (is := [0, 1, 2, 3]) (q0 := 0) rfl rfl ln_Lw_95 w_im_Ip_ladle w_se_Ip_ladle ok_Lw_ladle_Ip_ladle d_Lw_ladle_4 (C_Ip_ladle0 g a pa ta sa gs co fu la gy du re wm ac lab labg gr he mg wd ir w hw he0) rfl rfl (Nat.le_of_ble_eq_true rfl) rfl (by decide) (by omega) (by omega) (fun E cs1 hx => ?_) (fun v cs1 hx => ?_)
  · exact absurd hx.1 (by simp)
  · obtain ⟨e1, rfl⟩ := hx
    cases e1
    refine ⟨rfl, ?_⟩
    refine r_st (st2 := [.int 0, .int 0, .ref ou]) rfl ?_
    refine r_cs (cs2 := [(a, .inr (11, [.ref pa, .ref ta, .ref sa, .ref gs, .ref co, .ref fu, .ref la, .ref gy, .ref du, .ref re, .ref wm, .ref ac])), (la, .inr (5, [.ref lab, .int he, .int mg, .int wd])), (lab, .inr (6, [.ref labg, .int ir])), (labg, .inl (3, 4, .inr (.inl gr))), (ou, .inl (3, 1, .inr (.inl of)))]) rfl ?_
    refine r_i2l d_Lw_ladle_7 (v := (0 : Int32).toInt64) rfl ?_
    refine r_last d_Lw_ladle_8 (q0 := 4) rfl (fun q => q.elim (by decide) (by decide)) (f' := vp_updL of 0 ((0 : Int32).toInt64)) rfl (cs' := [(a, .inr (11, [.ref pa, .ref ta, .ref sa, .ref gs, .ref co, .ref fu, .ref la, .ref gy, .ref du, .ref re, .ref wm, .ref ac])), (la, .inr (5, [.ref lab, .int he, .int mg, .int wd])), (lab, .inr (6, [.ref labg, .int ir])), (labg, .inl (3, 4, .inr (.inl gr))), (ou, .inl (3, 1, .inr (.inl (vp_updL of 0 ((0 : Int32).toInt64)))))]) rfl ?_
    refine r_goto (tgt := 15) d_Lw_ladle_9 (by decide) ?_
    refine r_iconst d_Lw_ladle_15 (v := 0) (by decide) ?_
    refine r_iret d_Lw_ladle_16 rfl rfl ?_
    exact ⟨rfl, rfl⟩
abbrev M_Lw_pig : zM := (⟨"IronpourLaw", "pig", "(LIronpour;[J)I"⟩, method_26_code, 3, (Option.some FieldType.int), 7, 121, [((0 : Nat), (8 : Nat), (11 : Nat), (69 : Nat))])
theorem d_Lw_pig_0 : decode method_26_code 0 = .ok (.aload_n 1, 1) := by decide +kernel
theorem d_Lw_pig_1 : decode method_26_code 1 = .ok (.iconst 0, 1) := by decide +kernel
theorem d_Lw_pig_2 : decode method_26_code 2 = .ok (.aload_n 0, 1) := by decide +kernel
theorem d_Lw_pig_3 : decode method_26_code 3 = .ok (.invokevirtual 98, 3) := by decide +kernel
theorem ok_Lw_pig_Ip_pig : z_okH M_Lw_pig M_Ip_pig 0 := ⟨z_mem (i := 1178) (by decide +kernel) (by decide +kernel), rfl, ⟨by decide +kernel, by decide +kernel, by decide +kernel⟩, ⟨by decide, by decide⟩, z_mem (i := 58) (by decide +kernel) (by decide +kernel)⟩
theorem ln_Lw_98 : Cond.methodLink "IronpourLaw" 98 M_Ip_pig.1 ∈ z_gw := z_mem (i := 1175) (by decide +kernel) (by decide +kernel)
theorem w_im_Ip_pig : Cond.instanceMethod M_Ip_pig.1 ∈ z_gw := z_mem (i := 1176) (by decide +kernel) (by decide +kernel)
theorem w_se_Ip_pig : Cond.selects M_Ip_pig.1.cls M_Ip_pig.1 M_Ip_pig.1 ∈ z_gw := z_mem (i := 1177) (by decide +kernel) (by decide +kernel)
theorem d_Lw_pig_11 : decode method_26_code 11 = .ok (.astore_n 2, 1) := by decide +kernel
theorem d_Lw_pig_12 : decode method_26_code 12 = .ok (.iconst 1, 1) := by decide +kernel
theorem d_Lw_pig_13 : decode method_26_code 13 = .ok (.ireturn, 1) := by decide +kernel
set_option maxHeartbeats 4000000 in
set_option maxRecDepth 100000 in
theorem C_Lw_pigE (g : zG) (a pa ta sa gs co fu la gy du re wm ac : Nat) (lab labg gyg dug : Nat) (gr g1 g2 : Nat → Int64) (he mg wd ir i1 i2 : Int32) (he0 : ir = 0) (ou : Nat) (of : Nat → Int64) : CT g M_Lw_pig [.ref a, .ref ou] [(a, .inr (11, [.ref pa, .ref ta, .ref sa, .ref gs, .ref co, .ref fu, .ref la, .ref gy, .ref du, .ref re, .ref wm, .ref ac])), (la, .inr (5, [.ref lab, .int he, .int mg, .int wd])), (lab, .inr (6, [.ref labg, .int ir])), (labg, .inl (3, 4, .inr (.inl gr))), (gy, .inr (6, [.ref gyg, .int i1])), (gyg, .inl (3, 4, .inr (.inl g1))), (du, .inr (6, [.ref dug, .int i2])), (dug, .inl (3, 4, .inr (.inl g2))), (ou, .inl (3, 1, .inr (.inl of)))] (fun o cs1 => o = .inl (some (.int 1)) ∧ cs1 = [(a, .inr (11, [.ref pa, .ref ta, .ref sa, .ref gs, .ref co, .ref fu, .ref la, .ref gy, .ref du, .ref re, .ref wm, .ref ac])), (la, .inr (5, [.ref lab, .int he, .int mg, .int wd])), (lab, .inr (6, [.ref labg, .int ir])), (labg, .inl (3, 4, .inr (.inl gr))), (gy, .inr (6, [.ref gyg, .int i1])), (gyg, .inl (3, 4, .inr (.inl g1))), (du, .inr (6, [.ref dug, .int i2])), (dug, .inl (3, 4, .inr (.inl g2))), (ou, .inl (3, 1, .inr (.inl of)))]) 1 6 := by
  refine z_ofH (by decide) (by decide) (Nat.le_of_ble_eq_true rfl) (fun w0 => ?_)
  refine r_lvE (lv2 := [(0, .ref a), (1, .ref ou)]) rfl ?_
  refine r_aload_n d_Lw_pig_0 rfl 1 rfl ?_
  refine r_iconst d_Lw_pig_1 (v := 0) (by decide) ?_
  refine r_aload_n d_Lw_pig_2 rfl 0 rfl ?_
  refine r_callVH (As := []) (rest := [.int 0, .ref ou]) (csC := [(a, .inr (11, [.ref pa, .ref ta, .ref sa, .ref gs, .ref co, .ref fu, .ref la, .ref gy, .ref du, .ref re, .ref wm, .ref ac])), (la, .inr (5, [.ref lab, .int he, .int mg, .int wd])), (lab, .inr (6, [.ref labg, .int ir])), (labg, .inl (3, 4, .inr (.inl gr))), (gy, .inr (6, [.ref gyg, .int i1])), (gyg, .inl (3, 4, .inr (.inl g1))), (du, .inr (6, [.ref dug, .int i2])), (dug, .inl (3, 4, .inr (.inl g2)))]) (is := [0, 1, 2, 3, 4, 5, 6, 7]) (q0 := 0) rfl rfl ln_Lw_98 w_im_Ip_pig w_se_Ip_pig ok_Lw_pig_Ip_pig d_Lw_pig_3 (C_Ip_pigE g a pa ta sa gs co fu la gy du re wm ac lab labg gyg dug gr g1 g2 he mg wd ir i1 i2 he0) rfl rfl (Nat.le_of_ble_eq_true rfl) rfl (by decide) (by omega) (by omega) (fun E cs1 hx => ?_) (fun v cs1 hx => ?_)
  · obtain ⟨e1, rfl⟩ := hx
    cases e1
    refine ⟨rfl, "java/lang/IllegalStateException", [], [], (0, 8, 11, 69), rfl, (fun z hz => nomatch hz), by decide, by decide, lx_Lw_69, ce_69, fun qx => ?_⟩
    refine r_cs (cs2 := [(a, .inr (11, [.ref pa, .ref ta, .ref sa, .ref gs, .ref co, .ref fu, .ref la, .ref gy, .ref du, .ref re, .ref wm, .ref ac])), (la, .inr (5, [.ref lab, .int he, .int mg, .int wd])), (lab, .inr (6, [.ref labg, .int ir])), (labg, .inl (3, 4, .inr (.inl gr))), (gy, .inr (6, [.ref gyg, .int i1])), (gyg, .inl (3, 4, .inr (.inl g1))), (du, .inr (6, [.ref dug, .int i2])), (dug, .inl (3, 4, .inr (.inl g2))), (ou, .inl (3, 1, .inr (.inl of)))]) rfl ?_
    refine r_astore_n (lv' := [(2, .ref qx), (0, .ref a), (1, .ref ou)]) d_Lw_pig_11 rfl (by decide) rfl ?_
    refine r_iconst d_Lw_pig_12 (v := 1) (by decide) ?_
    refine r_iret d_Lw_pig_13 rfl rfl ?_
    exact ⟨rfl, rfl⟩
  · exact absurd hx.1 (by simp)
abbrev M_Lw_pool : zM := (⟨"IronpourLaw", "pool", "(LIronpour;C[J)I"⟩, method_27_code, 4, (Option.some FieldType.int), 7, 122, [((0 : Nat), (9 : Nat), (12 : Nat), (13 : Nat))])
theorem d_Lw_pool_0 : decode method_27_code 0 = .ok (.aload_n 2, 1) := by decide +kernel
theorem d_Lw_pool_1 : decode method_27_code 1 = .ok (.iconst 0, 1) := by decide +kernel
theorem d_Lw_pool_2 : decode method_27_code 2 = .ok (.aload_n 0, 1) := by decide +kernel
theorem d_Lw_pool_3 : decode method_27_code 3 = .ok (.iload_n 1, 1) := by decide +kernel
theorem d_Lw_pool_4 : decode method_27_code 4 = .ok (.invokevirtual 101, 3) := by decide +kernel
theorem ok_Lw_pool_Ip_pool : z_okH M_Lw_pool M_Ip_pool 1 := ⟨z_mem (i := 1185) (by decide +kernel) (by decide +kernel), rfl, ⟨by decide +kernel, by decide +kernel, by decide +kernel⟩, ⟨by decide, by decide⟩, z_mem (i := 58) (by decide +kernel) (by decide +kernel)⟩
theorem ln_Lw_101 : Cond.methodLink "IronpourLaw" 101 M_Ip_pool.1 ∈ z_gw := z_mem (i := 1182) (by decide +kernel) (by decide +kernel)
theorem w_im_Ip_pool : Cond.instanceMethod M_Ip_pool.1 ∈ z_gw := z_mem (i := 1183) (by decide +kernel) (by decide +kernel)
theorem w_se_Ip_pool : Cond.selects M_Ip_pool.1.cls M_Ip_pool.1 M_Ip_pool.1 ∈ z_gw := z_mem (i := 1184) (by decide +kernel) (by decide +kernel)
theorem d_Lw_pool_12 : decode method_27_code 12 = .ok (.astore_n 3, 1) := by decide +kernel
theorem d_Lw_pool_13 : decode method_27_code 13 = .ok (.iconst 1, 1) := by decide +kernel
theorem d_Lw_pool_14 : decode method_27_code 14 = .ok (.ireturn, 1) := by decide +kernel
set_option maxHeartbeats 4000000 in
set_option maxRecDepth 100000 in
theorem C_Lw_poolE (g : zG) (a pa ta sa gs co fu la gy du re wm ac : Nat) (k : Int32) (h1 : ¬ k = 103) (h2 : ¬ k = 100) (ou : Nat) (of : Nat → Int64) : CT g M_Lw_pool [.ref a, .int k, .ref ou] [(a, .inr (11, [.ref pa, .ref ta, .ref sa, .ref gs, .ref co, .ref fu, .ref la, .ref gy, .ref du, .ref re, .ref wm, .ref ac])), (ou, .inl (3, 1, .inr (.inl of)))] (fun o cs1 => o = .inl (some (.int 1)) ∧ cs1 = [(a, .inr (11, [.ref pa, .ref ta, .ref sa, .ref gs, .ref co, .ref fu, .ref la, .ref gy, .ref du, .ref re, .ref wm, .ref ac])), (ou, .inl (3, 1, .inr (.inl of)))]) 1 6 := by
  refine z_ofH (by decide) (by decide) (Nat.le_of_ble_eq_true rfl) (fun w0 => ?_)
  refine r_lvE (lv2 := [(0, .ref a), (1, .int k), (2, .ref ou)]) rfl ?_
  refine r_aload_n d_Lw_pool_0 rfl 2 rfl ?_
  refine r_iconst d_Lw_pool_1 (v := 0) (by decide) ?_
  refine r_aload_n d_Lw_pool_2 rfl 0 rfl ?_
  refine r_iload_n d_Lw_pool_3 rfl 1 rfl ?_
  refine r_callVH (As := [.int k]) (rest := [.int 0, .ref ou]) (csC := [(a, .inr (11, [.ref pa, .ref ta, .ref sa, .ref gs, .ref co, .ref fu, .ref la, .ref gy, .ref du, .ref re, .ref wm, .ref ac]))]) (is := [0]) (q0 := 0) rfl rfl ln_Lw_101 w_im_Ip_pool w_se_Ip_pool ok_Lw_pool_Ip_pool d_Lw_pool_4 (C_Ip_poolE g a pa ta sa gs co fu la gy du re wm ac k h1 h2) rfl rfl (Nat.le_of_ble_eq_true rfl) rfl (by decide) (by omega) (by omega) (fun E cs1 hx => ?_) (fun v cs1 hx => ?_)
  · obtain ⟨e1, rfl⟩ := hx
    cases e1
    refine ⟨rfl, "java/lang/IllegalArgumentException", [], [], (0, 9, 12, 13), rfl, (fun z hz => nomatch hz), by decide, by decide, lx_Lw_13, ce_13, fun qx => ?_⟩
    refine r_cs (cs2 := [(a, .inr (11, [.ref pa, .ref ta, .ref sa, .ref gs, .ref co, .ref fu, .ref la, .ref gy, .ref du, .ref re, .ref wm, .ref ac])), (ou, .inl (3, 1, .inr (.inl of)))]) rfl ?_
    refine r_astore_n (lv' := [(3, .ref qx), (0, .ref a), (1, .int k), (2, .ref ou)]) d_Lw_pool_12 rfl (by decide) rfl ?_
    refine r_iconst d_Lw_pool_13 (v := 1) (by decide) ?_
    refine r_iret d_Lw_pool_14 rfl rfl ?_
    exact ⟨rfl, rfl⟩
  · exact absurd hx.1 (by simp)
theorem d_Lw_pool_7 : decode method_27_code 7 = .ok (.i2l, 1) := by decide +kernel
theorem d_Lw_pool_8 : decode method_27_code 8 = .ok (.lastore, 1) := by decide +kernel
theorem d_Lw_pool_9 : decode method_27_code 9 = .ok (.goto 6, 3) := by decide +kernel
theorem d_Lw_pool_15 : decode method_27_code 15 = .ok (.iconst 0, 1) := by decide +kernel
theorem d_Lw_pool_16 : decode method_27_code 16 = .ok (.ireturn, 1) := by decide +kernel
set_option maxHeartbeats 4000000 in
set_option maxRecDepth 100000 in
theorem C_Lw_pool103 (g : zG) (a pa ta sa gs co fu la gy du re wm ac : Nat) (gyg : Nat) (gr : Nat → Int64) (ir : Int32) (ou : Nat) (of : Nat → Int64) : CT g M_Lw_pool [.ref a, .int 103, .ref ou] [(a, .inr (11, [.ref pa, .ref ta, .ref sa, .ref gs, .ref co, .ref fu, .ref la, .ref gy, .ref du, .ref re, .ref wm, .ref ac])), (gy, .inr (6, [.ref gyg, .int ir])), (gyg, .inl (3, 4, .inr (.inl gr))), (ou, .inl (3, 1, .inr (.inl of)))] (fun o cs1 => o = .inl (some (.int 0)) ∧ cs1 = [(a, .inr (11, [.ref pa, .ref ta, .ref sa, .ref gs, .ref co, .ref fu, .ref la, .ref gy, .ref du, .ref re, .ref wm, .ref ac])), (gy, .inr (6, [.ref gyg, .int ir])), (gyg, .inl (3, 4, .inr (.inl gr))), (ou, .inl (3, 1, .inr (.inl (vp_updL of 0 (ir).toInt64))))]) 1 6 := by
  refine z_ofH (by decide) (by decide) (Nat.le_of_ble_eq_true rfl) (fun w0 => ?_)
  refine r_lvE (lv2 := [(0, .ref a), (1, .int 103), (2, .ref ou)]) rfl ?_
  refine r_aload_n d_Lw_pool_0 rfl 2 rfl ?_
  refine r_iconst d_Lw_pool_1 (v := 0) (by decide) ?_
  refine r_aload_n d_Lw_pool_2 rfl 0 rfl ?_
  refine r_iload_n d_Lw_pool_3 rfl 1 rfl ?_
  refine r_callVH (As := [.int 103]) (rest := [.int 0, .ref ou]) (csC := [(a, .inr (11, [.ref pa, .ref ta, .ref sa, .ref gs, .ref co, .ref fu, .ref la, .ref gy, .ref du, .ref re, .ref wm, .ref ac])), (gy, .inr (6, [.ref gyg, .int ir])), (gyg, .inl (3, 4, .inr (.inl gr)))]) (is := [0, 1, 2]) (q0 := 0) rfl rfl ln_Lw_101 w_im_Ip_pool w_se_Ip_pool ok_Lw_pool_Ip_pool d_Lw_pool_4 (C_Ip_pool103 g a pa ta sa gs co fu la gy du re wm ac gyg gr ir) rfl rfl (Nat.le_of_ble_eq_true rfl) rfl (by decide) (by omega) (by omega) (fun E cs1 hx => ?_) (fun v cs1 hx => ?_)
  · exact absurd hx.1 (by simp)
  · obtain ⟨e1, rfl⟩ := hx
    cases e1
    refine ⟨rfl, ?_⟩
    refine r_st (st2 := [.int ir, .int 0, .ref ou]) rfl ?_
    refine r_cs (cs2 := [(a, .inr (11, [.ref pa, .ref ta, .ref sa, .ref gs, .ref co, .ref fu, .ref la, .ref gy, .ref du, .ref re, .ref wm, .ref ac])), (gy, .inr (6, [.ref gyg, .int ir])), (gyg, .inl (3, 4, .inr (.inl gr))), (ou, .inl (3, 1, .inr (.inl of)))]) rfl ?_
    refine r_i2l d_Lw_pool_7 (v := ir.toInt64) rfl ?_
    refine r_last d_Lw_pool_8 (q0 := 3) rfl (fun q => q.elim (by decide) (by decide)) (f' := vp_updL of 0 ir.toInt64) rfl (cs' := [(a, .inr (11, [.ref pa, .ref ta, .ref sa, .ref gs, .ref co, .ref fu, .ref la, .ref gy, .ref du, .ref re, .ref wm, .ref ac])), (gy, .inr (6, [.ref gyg, .int ir])), (gyg, .inl (3, 4, .inr (.inl gr))), (ou, .inl (3, 1, .inr (.inl (vp_updL of 0 ir.toInt64))))]) rfl ?_
    refine r_goto (tgt := 15) d_Lw_pool_9 (by decide) ?_
    refine r_iconst d_Lw_pool_15 (v := 0) (by decide) ?_
    refine r_iret d_Lw_pool_16 rfl rfl ?_
    exact ⟨rfl, rfl⟩
set_option maxHeartbeats 4000000 in
set_option maxRecDepth 100000 in
theorem C_Lw_pool100 (g : zG) (a pa ta sa gs co fu la gy du re wm ac : Nat) (dug : Nat) (gr : Nat → Int64) (ir : Int32) (ou : Nat) (of : Nat → Int64) : CT g M_Lw_pool [.ref a, .int 100, .ref ou] [(a, .inr (11, [.ref pa, .ref ta, .ref sa, .ref gs, .ref co, .ref fu, .ref la, .ref gy, .ref du, .ref re, .ref wm, .ref ac])), (du, .inr (6, [.ref dug, .int ir])), (dug, .inl (3, 4, .inr (.inl gr))), (ou, .inl (3, 1, .inr (.inl of)))] (fun o cs1 => o = .inl (some (.int 0)) ∧ cs1 = [(a, .inr (11, [.ref pa, .ref ta, .ref sa, .ref gs, .ref co, .ref fu, .ref la, .ref gy, .ref du, .ref re, .ref wm, .ref ac])), (du, .inr (6, [.ref dug, .int ir])), (dug, .inl (3, 4, .inr (.inl gr))), (ou, .inl (3, 1, .inr (.inl (vp_updL of 0 (ir).toInt64))))]) 1 6 := by
  refine z_ofH (by decide) (by decide) (Nat.le_of_ble_eq_true rfl) (fun w0 => ?_)
  refine r_lvE (lv2 := [(0, .ref a), (1, .int 100), (2, .ref ou)]) rfl ?_
  refine r_aload_n d_Lw_pool_0 rfl 2 rfl ?_
  refine r_iconst d_Lw_pool_1 (v := 0) (by decide) ?_
  refine r_aload_n d_Lw_pool_2 rfl 0 rfl ?_
  refine r_iload_n d_Lw_pool_3 rfl 1 rfl ?_
  refine r_callVH (As := [.int 100]) (rest := [.int 0, .ref ou]) (csC := [(a, .inr (11, [.ref pa, .ref ta, .ref sa, .ref gs, .ref co, .ref fu, .ref la, .ref gy, .ref du, .ref re, .ref wm, .ref ac])), (du, .inr (6, [.ref dug, .int ir])), (dug, .inl (3, 4, .inr (.inl gr)))]) (is := [0, 1, 2]) (q0 := 0) rfl rfl ln_Lw_101 w_im_Ip_pool w_se_Ip_pool ok_Lw_pool_Ip_pool d_Lw_pool_4 (C_Ip_pool100 g a pa ta sa gs co fu la gy du re wm ac dug gr ir) rfl rfl (Nat.le_of_ble_eq_true rfl) rfl (by decide) (by omega) (by omega) (fun E cs1 hx => ?_) (fun v cs1 hx => ?_)
  · exact absurd hx.1 (by simp)
  · obtain ⟨e1, rfl⟩ := hx
    cases e1
    refine ⟨rfl, ?_⟩
    refine r_st (st2 := [.int ir, .int 0, .ref ou]) rfl ?_
    refine r_cs (cs2 := [(a, .inr (11, [.ref pa, .ref ta, .ref sa, .ref gs, .ref co, .ref fu, .ref la, .ref gy, .ref du, .ref re, .ref wm, .ref ac])), (du, .inr (6, [.ref dug, .int ir])), (dug, .inl (3, 4, .inr (.inl gr))), (ou, .inl (3, 1, .inr (.inl of)))]) rfl ?_
    refine r_i2l d_Lw_pool_7 (v := ir.toInt64) rfl ?_
    refine r_last d_Lw_pool_8 (q0 := 3) rfl (fun q => q.elim (by decide) (by decide)) (f' := vp_updL of 0 ir.toInt64) rfl (cs' := [(a, .inr (11, [.ref pa, .ref ta, .ref sa, .ref gs, .ref co, .ref fu, .ref la, .ref gy, .ref du, .ref re, .ref wm, .ref ac])), (du, .inr (6, [.ref dug, .int ir])), (dug, .inl (3, 4, .inr (.inl gr))), (ou, .inl (3, 1, .inr (.inl (vp_updL of 0 ir.toInt64))))]) rfl ?_
    refine r_goto (tgt := 15) d_Lw_pool_9 (by decide) ?_
    refine r_iconst d_Lw_pool_15 (v := 0) (by decide) ?_
    refine r_iret d_Lw_pool_16 rfl rfl ?_
    exact ⟨rfl, rfl⟩
abbrev M_Lw_poolHas : zM := (⟨"IronpourLaw", "poolHas", "(LIronpour;CC[J)I"⟩, method_28_code, 5, (Option.some FieldType.int), 10, 224, [((0 : Nat), (10 : Nat), (13 : Nat), (13 : Nat)), ((0 : Nat), (10 : Nat), (17 : Nat), (33 : Nat))])
theorem d_Lw_poolHas_0 : decode method_28_code 0 = .ok (.aload_n 3, 1) := by decide +kernel
theorem d_Lw_poolHas_1 : decode method_28_code 1 = .ok (.iconst 0, 1) := by decide +kernel
theorem d_Lw_poolHas_2 : decode method_28_code 2 = .ok (.aload_n 0, 1) := by decide +kernel
theorem d_Lw_poolHas_3 : decode method_28_code 3 = .ok (.iload_n 1, 1) := by decide +kernel
theorem d_Lw_poolHas_4 : decode method_28_code 4 = .ok (.iload_n 2, 1) := by decide +kernel
theorem d_Lw_poolHas_5 : decode method_28_code 5 = .ok (.invokevirtual 104, 3) := by decide +kernel
theorem ok_Lw_poolHas_Ip_poolHas : z_okH M_Lw_poolHas M_Ip_poolHas 2 := ⟨z_mem (i := 1193) (by decide +kernel) (by decide +kernel), rfl, ⟨by decide +kernel, by decide +kernel, by decide +kernel⟩, ⟨by decide, by decide⟩, z_mem (i := 58) (by decide +kernel) (by decide +kernel)⟩
theorem ln_Lw_104 : Cond.methodLink "IronpourLaw" 104 M_Ip_poolHas.1 ∈ z_gw := z_mem (i := 1190) (by decide +kernel) (by decide +kernel)
theorem w_im_Ip_poolHas : Cond.instanceMethod M_Ip_poolHas.1 ∈ z_gw := z_mem (i := 1191) (by decide +kernel) (by decide +kernel)
theorem w_se_Ip_poolHas : Cond.selects M_Ip_poolHas.1.cls M_Ip_poolHas.1 M_Ip_poolHas.1 ∈ z_gw := z_mem (i := 1192) (by decide +kernel) (by decide +kernel)
theorem d_Lw_poolHas_13 : decode method_28_code 13 = .ok (.astore 4, 2) := by decide +kernel
theorem d_Lw_poolHas_15 : decode method_28_code 15 = .ok (.iconst 1, 1) := by decide +kernel
theorem d_Lw_poolHas_16 : decode method_28_code 16 = .ok (.ireturn, 1) := by decide +kernel
set_option maxHeartbeats 4000000 in
set_option maxRecDepth 100000 in
theorem C_Lw_poolHasE (g : zG) (a pa ta sa gs co fu la gy du re wm ac : Nat) (k k2 : Int32) (h1 : ¬ k = 103) (h2 : ¬ k = 100) (ou : Nat) (of : Nat → Int64) : CT g M_Lw_poolHas [.ref a, .int k, .int k2, .ref ou] [(a, .inr (11, [.ref pa, .ref ta, .ref sa, .ref gs, .ref co, .ref fu, .ref la, .ref gy, .ref du, .ref re, .ref wm, .ref ac])), (ou, .inl (3, 1, .inr (.inl of)))] (fun o cs1 => o = .inl (some (.int 1)) ∧ cs1 = [(a, .inr (11, [.ref pa, .ref ta, .ref sa, .ref gs, .ref co, .ref fu, .ref la, .ref gy, .ref du, .ref re, .ref wm, .ref ac])), (ou, .inl (3, 1, .inr (.inl of)))]) 1 6 := by
  refine z_ofH (by decide) (by decide) (Nat.le_of_ble_eq_true rfl) (fun w0 => ?_)
  refine r_lvE (lv2 := [(0, .ref a), (1, .int k), (2, .int k2), (3, .ref ou)]) rfl ?_
  refine r_aload_n d_Lw_poolHas_0 rfl 3 rfl ?_
  refine r_iconst d_Lw_poolHas_1 (v := 0) (by decide) ?_
  refine r_aload_n d_Lw_poolHas_2 rfl 0 rfl ?_
  refine r_iload_n d_Lw_poolHas_3 rfl 1 rfl ?_
  refine r_iload_n d_Lw_poolHas_4 rfl 2 rfl ?_
  refine r_callVH (As := [.int k, .int k2]) (rest := [.int 0, .ref ou]) (csC := [(a, .inr (11, [.ref pa, .ref ta, .ref sa, .ref gs, .ref co, .ref fu, .ref la, .ref gy, .ref du, .ref re, .ref wm, .ref ac]))]) (is := [0]) (q0 := 0) rfl rfl ln_Lw_104 w_im_Ip_poolHas w_se_Ip_poolHas ok_Lw_poolHas_Ip_poolHas d_Lw_poolHas_5 (C_Ip_poolHasE g a pa ta sa gs co fu la gy du re wm ac k k2 h1 h2) rfl rfl (Nat.le_of_ble_eq_true rfl) rfl (by decide) (by omega) (by omega) (fun E cs1 hx => ?_) (fun v cs1 hx => ?_)
  · obtain ⟨e1, rfl⟩ := hx
    cases e1
    refine ⟨rfl, "java/lang/IllegalArgumentException", [], [(0, 10, 17, 33)], (0, 10, 13, 13), rfl, (fun z hz => nomatch hz), by decide, by decide, lx_Lw_13, ce_13, fun qx => ?_⟩
    refine r_cs (cs2 := [(a, .inr (11, [.ref pa, .ref ta, .ref sa, .ref gs, .ref co, .ref fu, .ref la, .ref gy, .ref du, .ref re, .ref wm, .ref ac])), (ou, .inl (3, 1, .inr (.inl of)))]) rfl ?_
    refine r_astore (lv' := [(4, .ref qx), (0, .ref a), (1, .int k), (2, .int k2), (3, .ref ou)]) d_Lw_poolHas_13 (by decide) rfl ?_
    refine r_iconst d_Lw_poolHas_15 (v := 1) (by decide) ?_
    refine r_iret d_Lw_poolHas_16 rfl rfl ?_
    exact ⟨rfl, rfl⟩
  · exact absurd hx.1 (by simp)
set_option maxHeartbeats 4000000 in
set_option maxRecDepth 100000 in
theorem C_Lw_poolHas103E (g : zG) (a pa ta sa gs co fu la gy du re wm ac : Nat) (gyg : Nat) (gr : Nat → Int64) (ir : Int32) (k : Int32) (hk : z_ix 2 k < 0) (ou : Nat) (of : Nat → Int64) : CT g M_Lw_poolHas [.ref a, .int 103, .int k, .ref ou] [(a, .inr (11, [.ref pa, .ref ta, .ref sa, .ref gs, .ref co, .ref fu, .ref la, .ref gy, .ref du, .ref re, .ref wm, .ref ac])), (gy, .inr (6, [.ref gyg, .int ir])), (gyg, .inl (3, 4, .inr (.inl gr))), (ou, .inl (3, 1, .inr (.inl of)))] (fun o cs1 => o = .inl (some (.int 1)) ∧ cs1 = [(a, .inr (11, [.ref pa, .ref ta, .ref sa, .ref gs, .ref co, .ref fu, .ref la, .ref gy, .ref du, .ref re, .ref wm, .ref ac])), (gy, .inr (6, [.ref gyg, .int ir])), (gyg, .inl (3, 4, .inr (.inl gr))), (ou, .inl (3, 1, .inr (.inl of)))]) 1 6 := by
  refine z_ofH (by decide) (by decide) (Nat.le_of_ble_eq_true rfl) (fun w0 => ?_)
  refine r_lvE (lv2 := [(0, .ref a), (1, .int 103), (2, .int k), (3, .ref ou)]) rfl ?_
  refine r_aload_n d_Lw_poolHas_0 rfl 3 rfl ?_
  refine r_iconst d_Lw_poolHas_1 (v := 0) (by decide) ?_
  refine r_aload_n d_Lw_poolHas_2 rfl 0 rfl ?_
  refine r_iload_n d_Lw_poolHas_3 rfl 1 rfl ?_
  refine r_iload_n d_Lw_poolHas_4 rfl 2 rfl ?_
  refine r_callVH (As := [.int 103, .int k]) (rest := [.int 0, .ref ou]) (csC := [(a, .inr (11, [.ref pa, .ref ta, .ref sa, .ref gs, .ref co, .ref fu, .ref la, .ref gy, .ref du, .ref re, .ref wm, .ref ac])), (gy, .inr (6, [.ref gyg, .int ir])), (gyg, .inl (3, 4, .inr (.inl gr)))]) (is := [0, 1, 2]) (q0 := 0) rfl rfl ln_Lw_104 w_im_Ip_poolHas w_se_Ip_poolHas ok_Lw_poolHas_Ip_poolHas d_Lw_poolHas_5 (C_Ip_poolHas103E g a pa ta sa gs co fu la gy du re wm ac gyg gr ir k hk) rfl rfl (Nat.le_of_ble_eq_true rfl) rfl (by decide) (by omega) (by omega) (fun E cs1 hx => ?_) (fun v cs1 hx => ?_)
  · obtain ⟨e1, rfl⟩ := hx
    cases e1
    refine ⟨rfl, "java/lang/IllegalArgumentException", [], [(0, 10, 17, 33)], (0, 10, 13, 13), rfl, (fun z hz => nomatch hz), by decide, by decide, lx_Lw_13, ce_13, fun qx => ?_⟩
    refine r_cs (cs2 := [(a, .inr (11, [.ref pa, .ref ta, .ref sa, .ref gs, .ref co, .ref fu, .ref la, .ref gy, .ref du, .ref re, .ref wm, .ref ac])), (gy, .inr (6, [.ref gyg, .int ir])), (gyg, .inl (3, 4, .inr (.inl gr))), (ou, .inl (3, 1, .inr (.inl of)))]) rfl ?_
    refine r_astore (lv' := [(4, .ref qx), (0, .ref a), (1, .int 103), (2, .int k), (3, .ref ou)]) d_Lw_poolHas_13 (by decide) rfl ?_
    refine r_iconst d_Lw_poolHas_15 (v := 1) (by decide) ?_
    refine r_iret d_Lw_poolHas_16 rfl rfl ?_
    exact ⟨rfl, rfl⟩
  · exact absurd hx.1 (by simp)
theorem d_Lw_poolHas_17 : decode method_28_code 17 = .ok (.astore 4, 2) := by decide +kernel
theorem d_Lw_poolHas_19 : decode method_28_code 19 = .ok (.iconst 2, 1) := by decide +kernel
theorem d_Lw_poolHas_20 : decode method_28_code 20 = .ok (.ireturn, 1) := by decide +kernel
set_option maxHeartbeats 4000000 in
set_option maxRecDepth 100000 in
theorem C_Lw_poolHas103F (g : zG) (a pa ta sa gs co fu la gy du re wm ac : Nat) (gyg : Nat) (gr : Nat → Int64) (ir : Int32) (k : Int32) (e : Nat) (he : e < 4) (hk : z_ix 2 k = nI e) (hi : ir ≤ 0) (ou : Nat) (of : Nat → Int64) : CT g M_Lw_poolHas [.ref a, .int 103, .int k, .ref ou] [(a, .inr (11, [.ref pa, .ref ta, .ref sa, .ref gs, .ref co, .ref fu, .ref la, .ref gy, .ref du, .ref re, .ref wm, .ref ac])), (gy, .inr (6, [.ref gyg, .int ir])), (gyg, .inl (3, 4, .inr (.inl gr))), (ou, .inl (3, 1, .inr (.inl of)))] (fun o cs1 => o = .inl (some (.int 2)) ∧ cs1 = [(a, .inr (11, [.ref pa, .ref ta, .ref sa, .ref gs, .ref co, .ref fu, .ref la, .ref gy, .ref du, .ref re, .ref wm, .ref ac])), (gy, .inr (6, [.ref gyg, .int ir])), (gyg, .inl (3, 4, .inr (.inl gr))), (ou, .inl (3, 1, .inr (.inl of)))]) 2 12 := by
  refine z_ofH (by decide) (by decide) (Nat.le_of_ble_eq_true rfl) (fun w0 => ?_)
  refine r_lvE (lv2 := [(0, .ref a), (1, .int 103), (2, .int k), (3, .ref ou)]) rfl ?_
  refine r_aload_n d_Lw_poolHas_0 rfl 3 rfl ?_
  refine r_iconst d_Lw_poolHas_1 (v := 0) (by decide) ?_
  refine r_aload_n d_Lw_poolHas_2 rfl 0 rfl ?_
  refine r_iload_n d_Lw_poolHas_3 rfl 1 rfl ?_
  refine r_iload_n d_Lw_poolHas_4 rfl 2 rfl ?_
  refine r_callVH (As := [.int 103, .int k]) (rest := [.int 0, .ref ou]) (csC := [(a, .inr (11, [.ref pa, .ref ta, .ref sa, .ref gs, .ref co, .ref fu, .ref la, .ref gy, .ref du, .ref re, .ref wm, .ref ac])), (gy, .inr (6, [.ref gyg, .int ir])), (gyg, .inl (3, 4, .inr (.inl gr)))]) (is := [0, 1, 2]) (q0 := 0) rfl rfl ln_Lw_104 w_im_Ip_poolHas w_se_Ip_poolHas ok_Lw_poolHas_Ip_poolHas d_Lw_poolHas_5 (C_Ip_poolHas103F g a pa ta sa gs co fu la gy du re wm ac gyg gr ir k e he hk hi) rfl rfl (Nat.le_of_ble_eq_true rfl) rfl (by decide) (by omega) (by omega) (fun E cs1 hx => ?_) (fun v cs1 hx => ?_)
  · obtain ⟨e1, rfl⟩ := hx
    cases e1
    refine ⟨rfl, "java/util/NoSuchElementException", [(0, 10, 13, 13)], [], (0, 10, 17, 33), rfl, (fun z hz => by simp only [List.mem_cons, List.not_mem_nil, or_false] at hz; rcases hz with rfl; exact Or.inr ⟨by decide, _, lx_Lw_13, by decide⟩), by decide, by decide, lx_Lw_33, ce_33, fun qx => ?_⟩
    refine r_cs (cs2 := [(a, .inr (11, [.ref pa, .ref ta, .ref sa, .ref gs, .ref co, .ref fu, .ref la, .ref gy, .ref du, .ref re, .ref wm, .ref ac])), (gy, .inr (6, [.ref gyg, .int ir])), (gyg, .inl (3, 4, .inr (.inl gr))), (ou, .inl (3, 1, .inr (.inl of)))]) rfl ?_
    refine r_astore (lv' := [(4, .ref qx), (0, .ref a), (1, .int 103), (2, .int k), (3, .ref ou)]) d_Lw_poolHas_17 (by decide) rfl ?_
    refine r_iconst d_Lw_poolHas_19 (v := 2) (by decide) ?_
    refine r_iret d_Lw_poolHas_20 rfl rfl ?_
    exact ⟨rfl, rfl⟩
  · exact absurd hx.1 (by simp)
set_option maxHeartbeats 4000000 in
set_option maxRecDepth 100000 in
theorem C_Lw_poolHas100E (g : zG) (a pa ta sa gs co fu la gy du re wm ac : Nat) (dug : Nat) (gr : Nat → Int64) (ir : Int32) (k : Int32) (hk : z_ix 2 k < 0) (ou : Nat) (of : Nat → Int64) : CT g M_Lw_poolHas [.ref a, .int 100, .int k, .ref ou] [(a, .inr (11, [.ref pa, .ref ta, .ref sa, .ref gs, .ref co, .ref fu, .ref la, .ref gy, .ref du, .ref re, .ref wm, .ref ac])), (du, .inr (6, [.ref dug, .int ir])), (dug, .inl (3, 4, .inr (.inl gr))), (ou, .inl (3, 1, .inr (.inl of)))] (fun o cs1 => o = .inl (some (.int 1)) ∧ cs1 = [(a, .inr (11, [.ref pa, .ref ta, .ref sa, .ref gs, .ref co, .ref fu, .ref la, .ref gy, .ref du, .ref re, .ref wm, .ref ac])), (du, .inr (6, [.ref dug, .int ir])), (dug, .inl (3, 4, .inr (.inl gr))), (ou, .inl (3, 1, .inr (.inl of)))]) 1 6 := by
  refine z_ofH (by decide) (by decide) (Nat.le_of_ble_eq_true rfl) (fun w0 => ?_)
  refine r_lvE (lv2 := [(0, .ref a), (1, .int 100), (2, .int k), (3, .ref ou)]) rfl ?_
  refine r_aload_n d_Lw_poolHas_0 rfl 3 rfl ?_
  refine r_iconst d_Lw_poolHas_1 (v := 0) (by decide) ?_
  refine r_aload_n d_Lw_poolHas_2 rfl 0 rfl ?_
  refine r_iload_n d_Lw_poolHas_3 rfl 1 rfl ?_
  refine r_iload_n d_Lw_poolHas_4 rfl 2 rfl ?_
  refine r_callVH (As := [.int 100, .int k]) (rest := [.int 0, .ref ou]) (csC := [(a, .inr (11, [.ref pa, .ref ta, .ref sa, .ref gs, .ref co, .ref fu, .ref la, .ref gy, .ref du, .ref re, .ref wm, .ref ac])), (du, .inr (6, [.ref dug, .int ir])), (dug, .inl (3, 4, .inr (.inl gr)))]) (is := [0, 1, 2]) (q0 := 0) rfl rfl ln_Lw_104 w_im_Ip_poolHas w_se_Ip_poolHas ok_Lw_poolHas_Ip_poolHas d_Lw_poolHas_5 (C_Ip_poolHas100E g a pa ta sa gs co fu la gy du re wm ac dug gr ir k hk) rfl rfl (Nat.le_of_ble_eq_true rfl) rfl (by decide) (by omega) (by omega) (fun E cs1 hx => ?_) (fun v cs1 hx => ?_)
  · obtain ⟨e1, rfl⟩ := hx
    cases e1
    refine ⟨rfl, "java/lang/IllegalArgumentException", [], [(0, 10, 17, 33)], (0, 10, 13, 13), rfl, (fun z hz => nomatch hz), by decide, by decide, lx_Lw_13, ce_13, fun qx => ?_⟩
    refine r_cs (cs2 := [(a, .inr (11, [.ref pa, .ref ta, .ref sa, .ref gs, .ref co, .ref fu, .ref la, .ref gy, .ref du, .ref re, .ref wm, .ref ac])), (du, .inr (6, [.ref dug, .int ir])), (dug, .inl (3, 4, .inr (.inl gr))), (ou, .inl (3, 1, .inr (.inl of)))]) rfl ?_
    refine r_astore (lv' := [(4, .ref qx), (0, .ref a), (1, .int 100), (2, .int k), (3, .ref ou)]) d_Lw_poolHas_13 (by decide) rfl ?_
    refine r_iconst d_Lw_poolHas_15 (v := 1) (by decide) ?_
    refine r_iret d_Lw_poolHas_16 rfl rfl ?_
    exact ⟨rfl, rfl⟩
  · exact absurd hx.1 (by simp)
set_option maxHeartbeats 4000000 in
set_option maxRecDepth 100000 in
theorem C_Lw_poolHas100F (g : zG) (a pa ta sa gs co fu la gy du re wm ac : Nat) (dug : Nat) (gr : Nat → Int64) (ir : Int32) (k : Int32) (e : Nat) (he : e < 4) (hk : z_ix 2 k = nI e) (hi : ir ≤ 0) (ou : Nat) (of : Nat → Int64) : CT g M_Lw_poolHas [.ref a, .int 100, .int k, .ref ou] [(a, .inr (11, [.ref pa, .ref ta, .ref sa, .ref gs, .ref co, .ref fu, .ref la, .ref gy, .ref du, .ref re, .ref wm, .ref ac])), (du, .inr (6, [.ref dug, .int ir])), (dug, .inl (3, 4, .inr (.inl gr))), (ou, .inl (3, 1, .inr (.inl of)))] (fun o cs1 => o = .inl (some (.int 2)) ∧ cs1 = [(a, .inr (11, [.ref pa, .ref ta, .ref sa, .ref gs, .ref co, .ref fu, .ref la, .ref gy, .ref du, .ref re, .ref wm, .ref ac])), (du, .inr (6, [.ref dug, .int ir])), (dug, .inl (3, 4, .inr (.inl gr))), (ou, .inl (3, 1, .inr (.inl of)))]) 2 12 := by
  refine z_ofH (by decide) (by decide) (Nat.le_of_ble_eq_true rfl) (fun w0 => ?_)
  refine r_lvE (lv2 := [(0, .ref a), (1, .int 100), (2, .int k), (3, .ref ou)]) rfl ?_
  refine r_aload_n d_Lw_poolHas_0 rfl 3 rfl ?_
  refine r_iconst d_Lw_poolHas_1 (v := 0) (by decide) ?_
  refine r_aload_n d_Lw_poolHas_2 rfl 0 rfl ?_
  refine r_iload_n d_Lw_poolHas_3 rfl 1 rfl ?_
  refine r_iload_n d_Lw_poolHas_4 rfl 2 rfl ?_
  refine r_callVH (As := [.int 100, .int k]) (rest := [.int 0, .ref ou]) (csC := [(a, .inr (11, [.ref pa, .ref ta, .ref sa, .ref gs, .ref co, .ref fu, .ref la, .ref gy, .ref du, .ref re, .ref wm, .ref ac])), (du, .inr (6, [.ref dug, .int ir])), (dug, .inl (3, 4, .inr (.inl gr)))]) (is := [0, 1, 2]) (q0 := 0) rfl rfl ln_Lw_104 w_im_Ip_poolHas w_se_Ip_poolHas ok_Lw_poolHas_Ip_poolHas d_Lw_poolHas_5 (C_Ip_poolHas100F g a pa ta sa gs co fu la gy du re wm ac dug gr ir k e he hk hi) rfl rfl (Nat.le_of_ble_eq_true rfl) rfl (by decide) (by omega) (by omega) (fun E cs1 hx => ?_) (fun v cs1 hx => ?_)
  · obtain ⟨e1, rfl⟩ := hx
    cases e1
    refine ⟨rfl, "java/util/NoSuchElementException", [(0, 10, 13, 13)], [], (0, 10, 17, 33), rfl, (fun z hz => by simp only [List.mem_cons, List.not_mem_nil, or_false] at hz; rcases hz with rfl; exact Or.inr ⟨by decide, _, lx_Lw_13, by decide⟩), by decide, by decide, lx_Lw_33, ce_33, fun qx => ?_⟩
    refine r_cs (cs2 := [(a, .inr (11, [.ref pa, .ref ta, .ref sa, .ref gs, .ref co, .ref fu, .ref la, .ref gy, .ref du, .ref re, .ref wm, .ref ac])), (du, .inr (6, [.ref dug, .int ir])), (dug, .inl (3, 4, .inr (.inl gr))), (ou, .inl (3, 1, .inr (.inl of)))]) rfl ?_
    refine r_astore (lv' := [(4, .ref qx), (0, .ref a), (1, .int 100), (2, .int k), (3, .ref ou)]) d_Lw_poolHas_17 (by decide) rfl ?_
    refine r_iconst d_Lw_poolHas_19 (v := 2) (by decide) ?_
    refine r_iret d_Lw_poolHas_20 rfl rfl ?_
    exact ⟨rfl, rfl⟩
  · exact absurd hx.1 (by simp)
abbrev M_Lw_leastCost : zM := (⟨"IronpourLaw", "leastCost", "(LIronpour;IIIIII[J)I"⟩, method_29_code, 9, (Option.some FieldType.int), 7, 127, [((0 : Nat), (18 : Nat), (21 : Nat), (13 : Nat)), ((0 : Nat), (18 : Nat), (25 : Nat), (33 : Nat))])
theorem d_Lw_leastCost_0 : decode method_29_code 0 = .ok (.aload 7, 2) := by decide +kernel
theorem d_Lw_leastCost_2 : decode method_29_code 2 = .ok (.iconst 0, 1) := by decide +kernel
theorem d_Lw_leastCost_3 : decode method_29_code 3 = .ok (.aload_n 0, 1) := by decide +kernel
theorem d_Lw_leastCost_4 : decode method_29_code 4 = .ok (.iload_n 1, 1) := by decide +kernel
theorem d_Lw_leastCost_5 : decode method_29_code 5 = .ok (.iload_n 2, 1) := by decide +kernel
theorem d_Lw_leastCost_6 : decode method_29_code 6 = .ok (.iload_n 3, 1) := by decide +kernel
theorem d_Lw_leastCost_7 : decode method_29_code 7 = .ok (.iload 4, 2) := by decide +kernel
theorem d_Lw_leastCost_9 : decode method_29_code 9 = .ok (.iload 5, 2) := by decide +kernel
theorem d_Lw_leastCost_11 : decode method_29_code 11 = .ok (.iload 6, 2) := by decide +kernel
theorem d_Lw_leastCost_13 : decode method_29_code 13 = .ok (.invokevirtual 108, 3) := by decide +kernel
theorem ok_Lw_leastCost_Ip_leastCost : z_okH M_Lw_leastCost M_Ip_leastCost 6 := ⟨z_mem (i := 1201) (by decide +kernel) (by decide +kernel), rfl, ⟨by decide +kernel, by decide +kernel, by decide +kernel⟩, ⟨by decide, by decide⟩, z_mem (i := 58) (by decide +kernel) (by decide +kernel)⟩
theorem ln_Lw_108 : Cond.methodLink "IronpourLaw" 108 M_Ip_leastCost.1 ∈ z_gw := z_mem (i := 1198) (by decide +kernel) (by decide +kernel)
theorem w_im_Ip_leastCost : Cond.instanceMethod M_Ip_leastCost.1 ∈ z_gw := z_mem (i := 1199) (by decide +kernel) (by decide +kernel)
theorem w_se_Ip_leastCost : Cond.selects M_Ip_leastCost.1.cls M_Ip_leastCost.1 M_Ip_leastCost.1 ∈ z_gw := z_mem (i := 1200) (by decide +kernel) (by decide +kernel)
theorem d_Lw_leastCost_21 : decode method_29_code 21 = .ok (.astore 8, 2) := by decide +kernel
theorem d_Lw_leastCost_23 : decode method_29_code 23 = .ok (.iconst 1, 1) := by decide +kernel
theorem d_Lw_leastCost_24 : decode method_29_code 24 = .ok (.ireturn, 1) := by decide +kernel
set_option maxHeartbeats 4000000 in
set_option maxRecDepth 100000 in
theorem C_Lw_leastCostE (g : zG) (a pa ta sa gs co fu la gy du re wm ac : Nat) (p0 a0 f0 : Int32) (le mo si pp ps pa_ : Int32) (hw : ¬ ((0 ≤ le ∧ le ≤ 450) ∧ (le ≤ mo ∧ mo ≤ 450) ∧ (0 ≤ si ∧ si ≤ 450) ∧ (1 ≤ pp ∧ pp ≤ 1000) ∧ (1 ≤ ps ∧ ps ≤ 1000) ∧ (1 ≤ pa_ ∧ pa_ ≤ 1000))) (ou : Nat) (of : Nat → Int64) : CT g M_Lw_leastCost [.ref a, .int le, .int mo, .int si, .int pp, .int ps, .int pa_, .ref ou] [(a, .inr (11, [.ref pa, .ref ta, .ref sa, .ref gs, .ref co, .ref fu, .ref la, .ref gy, .ref du, .ref re, .ref wm, .ref ac])), (re, .inr (9, [.int p0, .int a0, .int f0])), (ou, .inl (3, 1, .inr (.inl of)))] (fun o cs1 => o = .inl (some (.int 1)) ∧ cs1 = [(a, .inr (11, [.ref pa, .ref ta, .ref sa, .ref gs, .ref co, .ref fu, .ref la, .ref gy, .ref du, .ref re, .ref wm, .ref ac])), (re, .inr (9, [.int p0, .int a0, .int f0])), (ou, .inl (3, 1, .inr (.inl of)))]) 1 6 := by
  refine z_ofH (by decide) (by decide) (Nat.le_of_ble_eq_true rfl) (fun w0 => ?_)
  refine r_lvE (lv2 := [(0, .ref a), (1, .int le), (2, .int mo), (3, .int si), (4, .int pp), (5, .int ps), (6, .int pa_), (7, .ref ou)]) rfl ?_
  refine r_aload d_Lw_leastCost_0 7 rfl ?_
  refine r_iconst d_Lw_leastCost_2 (v := 0) (by decide) ?_
  refine r_aload_n d_Lw_leastCost_3 rfl 0 rfl ?_
  refine r_iload_n d_Lw_leastCost_4 rfl 1 rfl ?_
  refine r_iload_n d_Lw_leastCost_5 rfl 2 rfl ?_
  refine r_iload_n d_Lw_leastCost_6 rfl 3 rfl ?_
  refine r_iload d_Lw_leastCost_7 4 rfl ?_
  refine r_iload d_Lw_leastCost_9 5 rfl ?_
  refine r_iload d_Lw_leastCost_11 6 rfl ?_
  refine r_callVH (As := [.int le, .int mo, .int si, .int pp, .int ps, .int pa_]) (rest := [.int 0, .ref ou]) (csC := [(a, .inr (11, [.ref pa, .ref ta, .ref sa, .ref gs, .ref co, .ref fu, .ref la, .ref gy, .ref du, .ref re, .ref wm, .ref ac])), (re, .inr (9, [.int p0, .int a0, .int f0]))]) (is := [0, 1]) (q0 := 0) rfl rfl ln_Lw_108 w_im_Ip_leastCost w_se_Ip_leastCost ok_Lw_leastCost_Ip_leastCost d_Lw_leastCost_13 (C_Ip_leastCostE g a pa ta sa gs co fu la gy du re wm ac p0 a0 f0 le mo si pp ps pa_ hw) rfl rfl (Nat.le_of_ble_eq_true rfl) rfl (by decide) (by omega) (by omega) (fun E cs1 hx => ?_) (fun v cs1 hx => ?_)
  · obtain ⟨e1, rfl⟩ := hx
    cases e1
    refine ⟨rfl, "java/lang/IllegalArgumentException", [], [(0, 18, 25, 33)], (0, 18, 21, 13), rfl, (fun z hz => nomatch hz), by decide, by decide, lx_Lw_13, ce_13, fun qx => ?_⟩
    refine r_cs (cs2 := [(a, .inr (11, [.ref pa, .ref ta, .ref sa, .ref gs, .ref co, .ref fu, .ref la, .ref gy, .ref du, .ref re, .ref wm, .ref ac])), (re, .inr (9, [.int p0, .int a0, .int f0])), (ou, .inl (3, 1, .inr (.inl of)))]) rfl ?_
    refine r_astore (lv' := [(8, .ref qx), (0, .ref a), (1, .int le), (2, .int mo), (3, .int si), (4, .int pp), (5, .int ps), (6, .int pa_), (7, .ref ou)]) d_Lw_leastCost_21 (by decide) rfl ?_
    refine r_iconst d_Lw_leastCost_23 (v := 1) (by decide) ?_
    refine r_iret d_Lw_leastCost_24 rfl rfl ?_
    exact ⟨rfl, rfl⟩
  · exact absurd hx.1 (by simp)
theorem d_Lw_leastCost_25 : decode method_29_code 25 = .ok (.astore 8, 2) := by decide +kernel
theorem d_Lw_leastCost_27 : decode method_29_code 27 = .ok (.iconst 2, 1) := by decide +kernel
theorem d_Lw_leastCost_28 : decode method_29_code 28 = .ok (.ireturn, 1) := by decide +kernel
set_option maxHeartbeats 4000000 in
set_option maxRecDepth 100000 in
theorem C_Lw_leastCostF (g : zG) (a pa ta sa gs co fu la gy du re wm ac : Nat) (p0 a0 f0 : Int32) (le mo si pp ps pa_ : Int32) (hw : ((0 ≤ le ∧ le ≤ 450) ∧ (le ≤ mo ∧ mo ≤ 450) ∧ (0 ≤ si ∧ si ≤ 450) ∧ (1 ≤ pp ∧ pp ≤ 1000) ∧ (1 ≤ ps ∧ ps ≤ 1000) ∧ (1 ≤ pa_ ∧ pa_ ≤ 1000))) (hs : (rcO le mo si pp ps pa_ (-1, p0, a0, f0) 11).1 < 0) (ou : Nat) (of : Nat → Int64) : CT g M_Lw_leastCost [.ref a, .int le, .int mo, .int si, .int pp, .int ps, .int pa_, .ref ou] [(a, .inr (11, [.ref pa, .ref ta, .ref sa, .ref gs, .ref co, .ref fu, .ref la, .ref gy, .ref du, .ref re, .ref wm, .ref ac])), (re, .inr (9, [.int p0, .int a0, .int f0])), (ou, .inl (3, 1, .inr (.inl of)))] (fun o cs1 => o = .inl (some (.int 2)) ∧ cs1 = [(a, .inr (11, [.ref pa, .ref ta, .ref sa, .ref gs, .ref co, .ref fu, .ref la, .ref gy, .ref du, .ref re, .ref wm, .ref ac])), (re, .inr (9, [.int ((rcO le mo si pp ps pa_ (-1, p0, a0, f0) 11).2.1), .int ((rcO le mo si pp ps pa_ (-1, p0, a0, f0) 11).2.2.1), .int ((rcO le mo si pp ps pa_ (-1, p0, a0, f0) 11).2.2.2)])), (ou, .inl (3, 1, .inr (.inl of)))]) 2 12 := by
  refine z_ofH (by decide) (by decide) (Nat.le_of_ble_eq_true rfl) (fun w0 => ?_)
  refine r_lvE (lv2 := [(0, .ref a), (1, .int le), (2, .int mo), (3, .int si), (4, .int pp), (5, .int ps), (6, .int pa_), (7, .ref ou)]) rfl ?_
  refine r_aload d_Lw_leastCost_0 7 rfl ?_
  refine r_iconst d_Lw_leastCost_2 (v := 0) (by decide) ?_
  refine r_aload_n d_Lw_leastCost_3 rfl 0 rfl ?_
  refine r_iload_n d_Lw_leastCost_4 rfl 1 rfl ?_
  refine r_iload_n d_Lw_leastCost_5 rfl 2 rfl ?_
  refine r_iload_n d_Lw_leastCost_6 rfl 3 rfl ?_
  refine r_iload d_Lw_leastCost_7 4 rfl ?_
  refine r_iload d_Lw_leastCost_9 5 rfl ?_
  refine r_iload d_Lw_leastCost_11 6 rfl ?_
  refine r_callVH (As := [.int le, .int mo, .int si, .int pp, .int ps, .int pa_]) (rest := [.int 0, .ref ou]) (csC := [(a, .inr (11, [.ref pa, .ref ta, .ref sa, .ref gs, .ref co, .ref fu, .ref la, .ref gy, .ref du, .ref re, .ref wm, .ref ac])), (re, .inr (9, [.int p0, .int a0, .int f0]))]) (is := [0, 1]) (q0 := 0) rfl rfl ln_Lw_108 w_im_Ip_leastCost w_se_Ip_leastCost ok_Lw_leastCost_Ip_leastCost d_Lw_leastCost_13 (C_Ip_leastCostF g a pa ta sa gs co fu la gy du re wm ac p0 a0 f0 le mo si pp ps pa_ hw hs) rfl rfl (Nat.le_of_ble_eq_true rfl) rfl (by decide) (by omega) (by omega) (fun E cs1 hx => ?_) (fun v cs1 hx => ?_)
  · obtain ⟨e1, rfl⟩ := hx
    cases e1
    refine ⟨rfl, "java/util/NoSuchElementException", [(0, 18, 21, 13)], [], (0, 18, 25, 33), rfl, (fun z hz => by simp only [List.mem_cons, List.not_mem_nil, or_false] at hz; rcases hz with rfl; exact Or.inr ⟨by decide, _, lx_Lw_13, by decide⟩), by decide, by decide, lx_Lw_33, ce_33, fun qx => ?_⟩
    refine r_cs (cs2 := [(a, .inr (11, [.ref pa, .ref ta, .ref sa, .ref gs, .ref co, .ref fu, .ref la, .ref gy, .ref du, .ref re, .ref wm, .ref ac])), (re, .inr (9, [.int ((rcO le mo si pp ps pa_ (-1, p0, a0, f0) 11).2.1), .int ((rcO le mo si pp ps pa_ (-1, p0, a0, f0) 11).2.2.1), .int ((rcO le mo si pp ps pa_ (-1, p0, a0, f0) 11).2.2.2)])), (ou, .inl (3, 1, .inr (.inl of)))]) rfl ?_
    refine r_astore (lv' := [(8, .ref qx), (0, .ref a), (1, .int le), (2, .int mo), (3, .int si), (4, .int pp), (5, .int ps), (6, .int pa_), (7, .ref ou)]) d_Lw_leastCost_25 (by decide) rfl ?_
    refine r_iconst d_Lw_leastCost_27 (v := 2) (by decide) ?_
    refine r_iret d_Lw_leastCost_28 rfl rfl ?_
    exact ⟨rfl, rfl⟩
  · exact absurd hx.1 (by simp)
theorem d_Lw_leastCost_16 : decode method_29_code 16 = .ok (.i2l, 1) := by decide +kernel
theorem d_Lw_leastCost_17 : decode method_29_code 17 = .ok (.lastore, 1) := by decide +kernel
theorem d_Lw_leastCost_18 : decode method_29_code 18 = .ok (.goto 11, 3) := by decide +kernel
theorem d_Lw_leastCost_29 : decode method_29_code 29 = .ok (.iconst 0, 1) := by decide +kernel
theorem d_Lw_leastCost_30 : decode method_29_code 30 = .ok (.ireturn, 1) := by decide +kernel
set_option maxHeartbeats 4000000 in
set_option maxRecDepth 100000 in
theorem C_Lw_leastCostN (g : zG) (a pa ta sa gs co fu la gy du re wm ac : Nat) (p0 a0 f0 : Int32) (le mo si pp ps pa_ : Int32) (hw : ((0 ≤ le ∧ le ≤ 450) ∧ (le ≤ mo ∧ mo ≤ 450) ∧ (0 ≤ si ∧ si ≤ 450) ∧ (1 ≤ pp ∧ pp ≤ 1000) ∧ (1 ≤ ps ∧ ps ≤ 1000) ∧ (1 ≤ pa_ ∧ pa_ ≤ 1000))) (hs : ¬ (rcO le mo si pp ps pa_ (-1, p0, a0, f0) 11).1 < 0) (ou : Nat) (of : Nat → Int64) : CT g M_Lw_leastCost [.ref a, .int le, .int mo, .int si, .int pp, .int ps, .int pa_, .ref ou] [(a, .inr (11, [.ref pa, .ref ta, .ref sa, .ref gs, .ref co, .ref fu, .ref la, .ref gy, .ref du, .ref re, .ref wm, .ref ac])), (re, .inr (9, [.int p0, .int a0, .int f0])), (ou, .inl (3, 1, .inr (.inl of)))] (fun o cs1 => o = .inl (some (.int 0)) ∧ cs1 = [(a, .inr (11, [.ref pa, .ref ta, .ref sa, .ref gs, .ref co, .ref fu, .ref la, .ref gy, .ref du, .ref re, .ref wm, .ref ac])), (re, .inr (9, [.int ((rcO le mo si pp ps pa_ (-1, p0, a0, f0) 11).2.1), .int ((rcO le mo si pp ps pa_ (-1, p0, a0, f0) 11).2.2.1), .int ((rcO le mo si pp ps pa_ (-1, p0, a0, f0) 11).2.2.2)])), (ou, .inl (3, 1, .inr (.inl (vp_updL of 0 (((rcO le mo si pp ps pa_ (-1, p0, a0, f0) 11).1)).toInt64))))]) 2 12 := by
  refine z_ofH (by decide) (by decide) (Nat.le_of_ble_eq_true rfl) (fun w0 => ?_)
  refine r_lvE (lv2 := [(0, .ref a), (1, .int le), (2, .int mo), (3, .int si), (4, .int pp), (5, .int ps), (6, .int pa_), (7, .ref ou)]) rfl ?_
  refine r_aload d_Lw_leastCost_0 7 rfl ?_
  refine r_iconst d_Lw_leastCost_2 (v := 0) (by decide) ?_
  refine r_aload_n d_Lw_leastCost_3 rfl 0 rfl ?_
  refine r_iload_n d_Lw_leastCost_4 rfl 1 rfl ?_
  refine r_iload_n d_Lw_leastCost_5 rfl 2 rfl ?_
  refine r_iload_n d_Lw_leastCost_6 rfl 3 rfl ?_
  refine r_iload d_Lw_leastCost_7 4 rfl ?_
  refine r_iload d_Lw_leastCost_9 5 rfl ?_
  refine r_iload d_Lw_leastCost_11 6 rfl ?_
  refine r_callVH (As := [.int le, .int mo, .int si, .int pp, .int ps, .int pa_]) (rest := [.int 0, .ref ou]) (csC := [(a, .inr (11, [.ref pa, .ref ta, .ref sa, .ref gs, .ref co, .ref fu, .ref la, .ref gy, .ref du, .ref re, .ref wm, .ref ac])), (re, .inr (9, [.int p0, .int a0, .int f0]))]) (is := [0, 1]) (q0 := 0) rfl rfl ln_Lw_108 w_im_Ip_leastCost w_se_Ip_leastCost ok_Lw_leastCost_Ip_leastCost d_Lw_leastCost_13 (C_Ip_leastCostN g a pa ta sa gs co fu la gy du re wm ac p0 a0 f0 le mo si pp ps pa_ hw hs) rfl rfl (Nat.le_of_ble_eq_true rfl) rfl (by decide) (by omega) (by omega) (fun E cs1 hx => ?_) (fun v cs1 hx => ?_)
  · exact absurd hx.1 (by simp)
  · obtain ⟨e1, rfl⟩ := hx
    cases e1
    refine ⟨rfl, ?_⟩
    refine r_st (st2 := [.int ((rcO le mo si pp ps pa_ (-1, p0, a0, f0) 11).1), .int 0, .ref ou]) rfl ?_
    refine r_cs (cs2 := [(a, .inr (11, [.ref pa, .ref ta, .ref sa, .ref gs, .ref co, .ref fu, .ref la, .ref gy, .ref du, .ref re, .ref wm, .ref ac])), (re, .inr (9, [.int ((rcO le mo si pp ps pa_ (-1, p0, a0, f0) 11).2.1), .int ((rcO le mo si pp ps pa_ (-1, p0, a0, f0) 11).2.2.1), .int ((rcO le mo si pp ps pa_ (-1, p0, a0, f0) 11).2.2.2)])), (ou, .inl (3, 1, .inr (.inl of)))]) rfl ?_
    refine r_i2l d_Lw_leastCost_16 (v := ((rcO le mo si pp ps pa_ (-1, p0, a0, f0) 11).1).toInt64) rfl ?_
    refine r_last d_Lw_leastCost_17 (q0 := 2) rfl (fun q => q.elim (by decide) (by decide)) (f' := vp_updL of 0 (((rcO le mo si pp ps pa_ (-1, p0, a0, f0) 11).1).toInt64)) rfl (cs' := [(a, .inr (11, [.ref pa, .ref ta, .ref sa, .ref gs, .ref co, .ref fu, .ref la, .ref gy, .ref du, .ref re, .ref wm, .ref ac])), (re, .inr (9, [.int ((rcO le mo si pp ps pa_ (-1, p0, a0, f0) 11).2.1), .int ((rcO le mo si pp ps pa_ (-1, p0, a0, f0) 11).2.2.1), .int ((rcO le mo si pp ps pa_ (-1, p0, a0, f0) 11).2.2.2)])), (ou, .inl (3, 1, .inr (.inl (vp_updL of 0 (((rcO le mo si pp ps pa_ (-1, p0, a0, f0) 11).1).toInt64)))))]) rfl ?_
    refine r_goto (tgt := 29) d_Lw_leastCost_18 (by decide) ?_
    refine r_iconst d_Lw_leastCost_29 (v := 0) (by decide) ?_
    refine r_iret d_Lw_leastCost_30 rfl rfl ?_
    exact ⟨rfl, rfl⟩
abbrev M_Lw_cheapest : zM := (⟨"IronpourLaw", "cheapest", "(LIronpour;C[J)I"⟩, method_30_code, 4, (Option.some FieldType.int), 9, 200, [((0 : Nat), (9 : Nat), (12 : Nat), (13 : Nat)), ((0 : Nat), (9 : Nat), (15 : Nat), (69 : Nat))])
theorem d_Lw_cheapest_0 : decode method_30_code 0 = .ok (.aload_n 2, 1) := by decide +kernel
theorem d_Lw_cheapest_1 : decode method_30_code 1 = .ok (.iconst 0, 1) := by decide +kernel
theorem d_Lw_cheapest_2 : decode method_30_code 2 = .ok (.aload_n 0, 1) := by decide +kernel
theorem d_Lw_cheapest_3 : decode method_30_code 3 = .ok (.iload_n 1, 1) := by decide +kernel
theorem d_Lw_cheapest_4 : decode method_30_code 4 = .ok (.invokevirtual 112, 3) := by decide +kernel
theorem ok_Lw_cheapest_Ip_cheapest : z_okH M_Lw_cheapest M_Ip_cheapest 1 := ⟨z_mem (i := 1221) (by decide +kernel) (by decide +kernel), rfl, ⟨by decide +kernel, by decide +kernel, by decide +kernel⟩, ⟨by decide, by decide⟩, z_mem (i := 58) (by decide +kernel) (by decide +kernel)⟩
theorem ln_Lw_112 : Cond.methodLink "IronpourLaw" 112 M_Ip_cheapest.1 ∈ z_gw := z_mem (i := 1218) (by decide +kernel) (by decide +kernel)
theorem w_im_Ip_cheapest : Cond.instanceMethod M_Ip_cheapest.1 ∈ z_gw := z_mem (i := 1219) (by decide +kernel) (by decide +kernel)
theorem w_se_Ip_cheapest : Cond.selects M_Ip_cheapest.1.cls M_Ip_cheapest.1 M_Ip_cheapest.1 ∈ z_gw := z_mem (i := 1220) (by decide +kernel) (by decide +kernel)
theorem d_Lw_cheapest_12 : decode method_30_code 12 = .ok (.astore_n 3, 1) := by decide +kernel
theorem d_Lw_cheapest_13 : decode method_30_code 13 = .ok (.iconst 1, 1) := by decide +kernel
theorem d_Lw_cheapest_14 : decode method_30_code 14 = .ok (.ireturn, 1) := by decide +kernel
set_option maxHeartbeats 4000000 in
set_option maxRecDepth 100000 in
theorem C_Lw_cheapestE (g : zG) (a pa ta sa gs co fu la gy du re wm ac : Nat) (p0 a0 f0 : Int32) (w : Int32) (hw : z_ix 4 w < 0) (ou : Nat) (of : Nat → Int64) : CT g M_Lw_cheapest [.ref a, .int w, .ref ou] [(a, .inr (11, [.ref pa, .ref ta, .ref sa, .ref gs, .ref co, .ref fu, .ref la, .ref gy, .ref du, .ref re, .ref wm, .ref ac])), (re, .inr (9, [.int p0, .int a0, .int f0])), (ou, .inl (3, 1, .inr (.inl of)))] (fun o cs1 => o = .inl (some (.int 1)) ∧ cs1 = [(a, .inr (11, [.ref pa, .ref ta, .ref sa, .ref gs, .ref co, .ref fu, .ref la, .ref gy, .ref du, .ref re, .ref wm, .ref ac])), (re, .inr (9, [.int p0, .int a0, .int f0])), (ou, .inl (3, 1, .inr (.inl of)))]) 1 6 := by
  refine z_ofH (by decide) (by decide) (Nat.le_of_ble_eq_true rfl) (fun w0 => ?_)
  refine r_lvE (lv2 := [(0, .ref a), (1, .int w), (2, .ref ou)]) rfl ?_
  refine r_aload_n d_Lw_cheapest_0 rfl 2 rfl ?_
  refine r_iconst d_Lw_cheapest_1 (v := 0) (by decide) ?_
  refine r_aload_n d_Lw_cheapest_2 rfl 0 rfl ?_
  refine r_iload_n d_Lw_cheapest_3 rfl 1 rfl ?_
  refine r_callVH (As := [.int w]) (rest := [.int 0, .ref ou]) (csC := [(a, .inr (11, [.ref pa, .ref ta, .ref sa, .ref gs, .ref co, .ref fu, .ref la, .ref gy, .ref du, .ref re, .ref wm, .ref ac])), (re, .inr (9, [.int p0, .int a0, .int f0]))]) (is := [0, 1]) (q0 := 0) rfl rfl ln_Lw_112 w_im_Ip_cheapest w_se_Ip_cheapest ok_Lw_cheapest_Ip_cheapest d_Lw_cheapest_4 (C_Ip_cheapestE g a pa ta sa gs co fu la gy du re wm ac p0 a0 f0 w hw) rfl rfl (Nat.le_of_ble_eq_true rfl) rfl (by decide) (by omega) (by omega) (fun E cs1 hx => ?_) (fun v cs1 hx => ?_)
  · obtain ⟨e1, rfl⟩ := hx
    cases e1
    refine ⟨rfl, "java/lang/IllegalArgumentException", [], [(0, 9, 15, 69)], (0, 9, 12, 13), rfl, (fun z hz => nomatch hz), by decide, by decide, lx_Lw_13, ce_13, fun qx => ?_⟩
    refine r_cs (cs2 := [(a, .inr (11, [.ref pa, .ref ta, .ref sa, .ref gs, .ref co, .ref fu, .ref la, .ref gy, .ref du, .ref re, .ref wm, .ref ac])), (re, .inr (9, [.int p0, .int a0, .int f0])), (ou, .inl (3, 1, .inr (.inl of)))]) rfl ?_
    refine r_astore_n (lv' := [(3, .ref qx), (0, .ref a), (1, .int w), (2, .ref ou)]) d_Lw_cheapest_12 rfl (by decide) rfl ?_
    refine r_iconst d_Lw_cheapest_13 (v := 1) (by decide) ?_
    refine r_iret d_Lw_cheapest_14 rfl rfl ?_
    exact ⟨rfl, rfl⟩
  · exact absurd hx.1 (by simp)
theorem d_Lw_cheapest_15 : decode method_30_code 15 = .ok (.astore_n 3, 1) := by decide +kernel
theorem d_Lw_cheapest_16 : decode method_30_code 16 = .ok (.iconst 2, 1) := by decide +kernel
theorem d_Lw_cheapest_17 : decode method_30_code 17 = .ok (.ireturn, 1) := by decide +kernel
set_option maxHeartbeats 4000000 in
set_option maxRecDepth 100000 in
theorem C_Lw_cheapestF (g : zG) (a pa ta sa gs co fu la gy du re wm ac : Nat) (p0 a0 f0 : Int32) (w : Int32) (hw : ¬ z_ix 4 w < 0) (hf : f0 = 0) (ou : Nat) (of : Nat → Int64) : CT g M_Lw_cheapest [.ref a, .int w, .ref ou] [(a, .inr (11, [.ref pa, .ref ta, .ref sa, .ref gs, .ref co, .ref fu, .ref la, .ref gy, .ref du, .ref re, .ref wm, .ref ac])), (re, .inr (9, [.int p0, .int a0, .int f0])), (ou, .inl (3, 1, .inr (.inl of)))] (fun o cs1 => o = .inl (some (.int 2)) ∧ cs1 = [(a, .inr (11, [.ref pa, .ref ta, .ref sa, .ref gs, .ref co, .ref fu, .ref la, .ref gy, .ref du, .ref re, .ref wm, .ref ac])), (re, .inr (9, [.int p0, .int a0, .int f0])), (ou, .inl (3, 1, .inr (.inl of)))]) 1 6 := by
  refine z_ofH (by decide) (by decide) (Nat.le_of_ble_eq_true rfl) (fun w0 => ?_)
  refine r_lvE (lv2 := [(0, .ref a), (1, .int w), (2, .ref ou)]) rfl ?_
  refine r_aload_n d_Lw_cheapest_0 rfl 2 rfl ?_
  refine r_iconst d_Lw_cheapest_1 (v := 0) (by decide) ?_
  refine r_aload_n d_Lw_cheapest_2 rfl 0 rfl ?_
  refine r_iload_n d_Lw_cheapest_3 rfl 1 rfl ?_
  refine r_callVH (As := [.int w]) (rest := [.int 0, .ref ou]) (csC := [(a, .inr (11, [.ref pa, .ref ta, .ref sa, .ref gs, .ref co, .ref fu, .ref la, .ref gy, .ref du, .ref re, .ref wm, .ref ac])), (re, .inr (9, [.int p0, .int a0, .int f0]))]) (is := [0, 1]) (q0 := 0) rfl rfl ln_Lw_112 w_im_Ip_cheapest w_se_Ip_cheapest ok_Lw_cheapest_Ip_cheapest d_Lw_cheapest_4 (C_Ip_cheapestF g a pa ta sa gs co fu la gy du re wm ac p0 a0 f0 w hw hf) rfl rfl (Nat.le_of_ble_eq_true rfl) rfl (by decide) (by omega) (by omega) (fun E cs1 hx => ?_) (fun v cs1 hx => ?_)
  · obtain ⟨e1, rfl⟩ := hx
    cases e1
    refine ⟨rfl, "java/lang/IllegalStateException", [(0, 9, 12, 13)], [], (0, 9, 15, 69), rfl, (fun z hz => by simp only [List.mem_cons, List.not_mem_nil, or_false] at hz; rcases hz with rfl; exact Or.inr ⟨by decide, _, lx_Lw_13, by decide⟩), by decide, by decide, lx_Lw_69, ce_69, fun qx => ?_⟩
    refine r_cs (cs2 := [(a, .inr (11, [.ref pa, .ref ta, .ref sa, .ref gs, .ref co, .ref fu, .ref la, .ref gy, .ref du, .ref re, .ref wm, .ref ac])), (re, .inr (9, [.int p0, .int a0, .int f0])), (ou, .inl (3, 1, .inr (.inl of)))]) rfl ?_
    refine r_astore_n (lv' := [(3, .ref qx), (0, .ref a), (1, .int w), (2, .ref ou)]) d_Lw_cheapest_15 rfl (by decide) rfl ?_
    refine r_iconst d_Lw_cheapest_16 (v := 2) (by decide) ?_
    refine r_iret d_Lw_cheapest_17 rfl rfl ?_
    exact ⟨rfl, rfl⟩
  · exact absurd hx.1 (by simp)
abbrev M_Lw_mould : zM := (⟨"IronpourLaw", "mould", "(LIronpour;[J)I"⟩, method_31_code, 3, (Option.some FieldType.int), 9, 252, [((0 : Nat), (8 : Nat), (11 : Nat), (33 : Nat)), ((0 : Nat), (8 : Nat), (14 : Nat), (78 : Nat)), ((0 : Nat), (8 : Nat), (17 : Nat), (69 : Nat))])
theorem d_Lw_mould_0 : decode method_31_code 0 = .ok (.aload_n 1, 1) := by decide +kernel
theorem d_Lw_mould_1 : decode method_31_code 1 = .ok (.iconst 0, 1) := by decide +kernel
theorem d_Lw_mould_2 : decode method_31_code 2 = .ok (.aload_n 0, 1) := by decide +kernel
theorem d_Lw_mould_3 : decode method_31_code 3 = .ok (.invokevirtual 115, 3) := by decide +kernel
theorem ok_Lw_mould_Ip_mould : z_okH M_Lw_mould M_Ip_mould 0 := ⟨z_mem (i := 1235) (by decide +kernel) (by decide +kernel), rfl, ⟨by decide +kernel, by decide +kernel, by decide +kernel⟩, ⟨by decide, by decide⟩, z_mem (i := 58) (by decide +kernel) (by decide +kernel)⟩
theorem ln_Lw_115 : Cond.methodLink "IronpourLaw" 115 M_Ip_mould.1 ∈ z_gw := z_mem (i := 1232) (by decide +kernel) (by decide +kernel)
theorem w_im_Ip_mould : Cond.instanceMethod M_Ip_mould.1 ∈ z_gw := z_mem (i := 1233) (by decide +kernel) (by decide +kernel)
theorem w_se_Ip_mould : Cond.selects M_Ip_mould.1.cls M_Ip_mould.1 M_Ip_mould.1 ∈ z_gw := z_mem (i := 1234) (by decide +kernel) (by decide +kernel)
theorem d_Lw_mould_11 : decode method_31_code 11 = .ok (.astore_n 2, 1) := by decide +kernel
theorem d_Lw_mould_12 : decode method_31_code 12 = .ok (.iconst 1, 1) := by decide +kernel
theorem d_Lw_mould_13 : decode method_31_code 13 = .ok (.ireturn, 1) := by decide +kernel
set_option maxHeartbeats 4000000 in
set_option maxRecDepth 100000 in
theorem C_Lw_mouldE (g : zG) (a pa ta sa gs co fu la gy du re wm ac : Nat) (pa1 pa2 pa3 : Nat) (f sn : Nat → Int32) (qn : Nat → Nat) (p : Nat) (hE : fa_cnt (fun k => decide (f k = 103)) 12 = 0 ∨ anB (fun k => decide (f k = 99)) 108 = false) (ou : Nat) (of : Nat → Int64) : CT g M_Lw_mould [.ref a, .ref ou] [(a, .inr (11, [.ref pa, .ref ta, .ref sa, .ref gs, .ref co, .ref fu, .ref la, .ref gy, .ref du, .ref re, .ref wm, .ref ac])), (pa, .inr (8, [.ref pa1, .ref pa2, .ref pa3, .int (nI p)])), (pa1, .inl (1, 108, .inl f)), (pa2, .inl (2, 108, .inl sn)), (pa3, .inl (0, 108, .inl (fun k => nI (qn k)))), (ou, .inl (3, 1, .inr (.inl of)))] (fun o cs1 => o = .inl (some (.int 1)) ∧ cs1 = [(a, .inr (11, [.ref pa, .ref ta, .ref sa, .ref gs, .ref co, .ref fu, .ref la, .ref gy, .ref du, .ref re, .ref wm, .ref ac])), (pa, .inr (8, [.ref pa1, .ref pa2, .ref pa3, .int (nI p)])), (pa1, .inl (1, 108, .inl f)), (pa2, .inl (2, 108, .inl sn)), (pa3, .inl (0, 108, .inl (fun k => nI (qn k)))), (ou, .inl (3, 1, .inr (.inl of)))]) 1 6 := by
  refine z_ofH (by decide) (by decide) (Nat.le_of_ble_eq_true rfl) (fun w0 => ?_)
  refine r_lvE (lv2 := [(0, .ref a), (1, .ref ou)]) rfl ?_
  refine r_aload_n d_Lw_mould_0 rfl 1 rfl ?_
  refine r_iconst d_Lw_mould_1 (v := 0) (by decide) ?_
  refine r_aload_n d_Lw_mould_2 rfl 0 rfl ?_
  refine r_callVH (As := []) (rest := [.int 0, .ref ou]) (csC := [(a, .inr (11, [.ref pa, .ref ta, .ref sa, .ref gs, .ref co, .ref fu, .ref la, .ref gy, .ref du, .ref re, .ref wm, .ref ac])), (pa, .inr (8, [.ref pa1, .ref pa2, .ref pa3, .int (nI p)])), (pa1, .inl (1, 108, .inl f)), (pa2, .inl (2, 108, .inl sn)), (pa3, .inl (0, 108, .inl (fun k => nI (qn k))))]) (is := [0, 1, 2, 3, 4]) (q0 := 0) rfl rfl ln_Lw_115 w_im_Ip_mould w_se_Ip_mould ok_Lw_mould_Ip_mould d_Lw_mould_3 (C_Ip_mouldE g a pa ta sa gs co fu la gy du re wm ac pa1 pa2 pa3 f sn qn p hE) rfl rfl (Nat.le_of_ble_eq_true rfl) rfl (by decide) (by omega) (by omega) (fun E cs1 hx => ?_) (fun v cs1 hx => ?_)
  · obtain ⟨e1, rfl⟩ := hx
    cases e1
    refine ⟨rfl, "java/util/NoSuchElementException", [], [(0, 8, 14, 78), (0, 8, 17, 69)], (0, 8, 11, 33), rfl, (fun z hz => nomatch hz), by decide, by decide, lx_Lw_33, ce_33, fun qx => ?_⟩
    refine r_cs (cs2 := [(a, .inr (11, [.ref pa, .ref ta, .ref sa, .ref gs, .ref co, .ref fu, .ref la, .ref gy, .ref du, .ref re, .ref wm, .ref ac])), (pa, .inr (8, [.ref pa1, .ref pa2, .ref pa3, .int (nI p)])), (pa1, .inl (1, 108, .inl f)), (pa2, .inl (2, 108, .inl sn)), (pa3, .inl (0, 108, .inl (fun k => nI (qn k)))), (ou, .inl (3, 1, .inr (.inl of)))]) rfl ?_
    refine r_astore_n (lv' := [(2, .ref qx), (0, .ref a), (1, .ref ou)]) d_Lw_mould_11 rfl (by decide) rfl ?_
    refine r_iconst d_Lw_mould_12 (v := 1) (by decide) ?_
    refine r_iret d_Lw_mould_13 rfl rfl ?_
    exact ⟨rfl, rfl⟩
  · exact absurd hx.1 (by simp)
abbrev M_Lw_waiting : zM := (⟨"IronpourLaw", "waiting", "(LIronpour;I[J)I"⟩, method_32_code, 4, (Option.some FieldType.int), 7, 121, [((0 : Nat), (9 : Nat), (12 : Nat), (33 : Nat))])
theorem d_Lw_waiting_0 : decode method_32_code 0 = .ok (.aload_n 2, 1) := by decide +kernel
theorem d_Lw_waiting_1 : decode method_32_code 1 = .ok (.iconst 0, 1) := by decide +kernel
theorem d_Lw_waiting_2 : decode method_32_code 2 = .ok (.aload_n 0, 1) := by decide +kernel
theorem d_Lw_waiting_3 : decode method_32_code 3 = .ok (.iload_n 1, 1) := by decide +kernel
theorem d_Lw_waiting_4 : decode method_32_code 4 = .ok (.invokevirtual 118, 3) := by decide +kernel
theorem ok_Lw_waiting_Ip_waiting : z_okH M_Lw_waiting M_Ip_waiting 1 := ⟨z_mem (i := 1360) (by decide +kernel) (by decide +kernel), rfl, ⟨by decide +kernel, by decide +kernel, by decide +kernel⟩, ⟨by decide, by decide⟩, z_mem (i := 58) (by decide +kernel) (by decide +kernel)⟩
theorem ln_Lw_118 : Cond.methodLink "IronpourLaw" 118 M_Ip_waiting.1 ∈ z_gw := z_mem (i := 1357) (by decide +kernel) (by decide +kernel)
theorem w_im_Ip_waiting : Cond.instanceMethod M_Ip_waiting.1 ∈ z_gw := z_mem (i := 1358) (by decide +kernel) (by decide +kernel)
theorem w_se_Ip_waiting : Cond.selects M_Ip_waiting.1.cls M_Ip_waiting.1 M_Ip_waiting.1 ∈ z_gw := z_mem (i := 1359) (by decide +kernel) (by decide +kernel)
theorem d_Lw_waiting_12 : decode method_32_code 12 = .ok (.astore_n 3, 1) := by decide +kernel
theorem d_Lw_waiting_13 : decode method_32_code 13 = .ok (.iconst 1, 1) := by decide +kernel
theorem d_Lw_waiting_14 : decode method_32_code 14 = .ok (.ireturn, 1) := by decide +kernel
set_option maxHeartbeats 4000000 in
set_option maxRecDepth 100000 in
theorem C_Lw_waiting0 (g : zG) (a pa ta sa gs co fu la gy du re wm ac : Nat) (wmm : Int32) (wmd : Nat) (x : Int32) (ou : Nat) (of : Nat → Int64) : CT g M_Lw_waiting [.ref a, .int x, .ref ou] [(a, .inr (11, [.ref pa, .ref ta, .ref sa, .ref gs, .ref co, .ref fu, .ref la, .ref gy, .ref du, .ref re, .ref wm, .ref ac])), (wm, .inr (13, [.int wmm, .ref wmd, .int 0])), (ou, .inl (3, 1, .inr (.inl of)))] (fun o cs1 => o = .inl (some (.int 1)) ∧ cs1 = [(a, .inr (11, [.ref pa, .ref ta, .ref sa, .ref gs, .ref co, .ref fu, .ref la, .ref gy, .ref du, .ref re, .ref wm, .ref ac])), (wm, .inr (13, [.int wmm, .ref wmd, .int 0])), (ou, .inl (3, 1, .inr (.inl of)))]) 1 6 := by
  refine z_ofH (by decide) (by decide) (Nat.le_of_ble_eq_true rfl) (fun w0 => ?_)
  refine r_lvE (lv2 := [(0, .ref a), (1, .int x), (2, .ref ou)]) rfl ?_
  refine r_aload_n d_Lw_waiting_0 rfl 2 rfl ?_
  refine r_iconst d_Lw_waiting_1 (v := 0) (by decide) ?_
  refine r_aload_n d_Lw_waiting_2 rfl 0 rfl ?_
  refine r_iload_n d_Lw_waiting_3 rfl 1 rfl ?_
  refine r_callVH (As := [.int x]) (rest := [.int 0, .ref ou]) (csC := [(a, .inr (11, [.ref pa, .ref ta, .ref sa, .ref gs, .ref co, .ref fu, .ref la, .ref gy, .ref du, .ref re, .ref wm, .ref ac])), (wm, .inr (13, [.int wmm, .ref wmd, .int 0]))]) (is := [0, 1]) (q0 := 0) rfl rfl ln_Lw_118 w_im_Ip_waiting w_se_Ip_waiting ok_Lw_waiting_Ip_waiting d_Lw_waiting_4 (C_Ip_waiting0 g a pa ta sa gs co fu la gy du re wm ac wmm wmd x) rfl rfl (Nat.le_of_ble_eq_true rfl) rfl (by decide) (by omega) (by omega) (fun E cs1 hx => ?_) (fun v cs1 hx => ?_)
  · obtain ⟨e1, rfl⟩ := hx
    cases e1
    refine ⟨rfl, "java/util/NoSuchElementException", [], [], (0, 9, 12, 33), rfl, (fun z hz => nomatch hz), by decide, by decide, lx_Lw_33, ce_33, fun qx => ?_⟩
    refine r_cs (cs2 := [(a, .inr (11, [.ref pa, .ref ta, .ref sa, .ref gs, .ref co, .ref fu, .ref la, .ref gy, .ref du, .ref re, .ref wm, .ref ac])), (wm, .inr (13, [.int wmm, .ref wmd, .int 0])), (ou, .inl (3, 1, .inr (.inl of)))]) rfl ?_
    refine r_astore_n (lv' := [(3, .ref qx), (0, .ref a), (1, .int x), (2, .ref ou)]) d_Lw_waiting_12 rfl (by decide) rfl ?_
    refine r_iconst d_Lw_waiting_13 (v := 1) (by decide) ?_
    refine r_iret d_Lw_waiting_14 rfl rfl ?_
    exact ⟨rfl, rfl⟩
  · exact absurd hx.1 (by simp)
abbrev M_Lw_pour : zM := (⟨"IronpourLaw", "pour", "(LIronpour;[J)I"⟩, method_33_code, 3, (Option.some FieldType.int), 9, 251, [((0 : Nat), (8 : Nat), (11 : Nat), (33 : Nat)), ((0 : Nat), (8 : Nat), (14 : Nat), (69 : Nat)), ((0 : Nat), (8 : Nat), (17 : Nat), (78 : Nat))])
theorem d_Lw_pour_0 : decode method_33_code 0 = .ok (.aload_n 1, 1) := by decide +kernel
theorem d_Lw_pour_1 : decode method_33_code 1 = .ok (.iconst 0, 1) := by decide +kernel
theorem d_Lw_pour_2 : decode method_33_code 2 = .ok (.aload_n 0, 1) := by decide +kernel
theorem d_Lw_pour_3 : decode method_33_code 3 = .ok (.invokevirtual 121, 3) := by decide +kernel
theorem ok_Lw_pour_Ip_pour : z_okH M_Lw_pour M_Ip_pour 0 := ⟨z_mem (i := 1368) (by decide +kernel) (by decide +kernel), rfl, ⟨by decide +kernel, by decide +kernel, by decide +kernel⟩, ⟨by decide, by decide⟩, z_mem (i := 58) (by decide +kernel) (by decide +kernel)⟩
theorem ln_Lw_121 : Cond.methodLink "IronpourLaw" 121 M_Ip_pour.1 ∈ z_gw := z_mem (i := 1365) (by decide +kernel) (by decide +kernel)
theorem w_im_Ip_pour : Cond.instanceMethod M_Ip_pour.1 ∈ z_gw := z_mem (i := 1366) (by decide +kernel) (by decide +kernel)
theorem w_se_Ip_pour : Cond.selects M_Ip_pour.1.cls M_Ip_pour.1 M_Ip_pour.1 ∈ z_gw := z_mem (i := 1367) (by decide +kernel) (by decide +kernel)
theorem d_Lw_pour_11 : decode method_33_code 11 = .ok (.astore_n 2, 1) := by decide +kernel
theorem d_Lw_pour_12 : decode method_33_code 12 = .ok (.iconst 1, 1) := by decide +kernel
theorem d_Lw_pour_13 : decode method_33_code 13 = .ok (.ireturn, 1) := by decide +kernel
set_option maxHeartbeats 4000000 in
set_option maxRecDepth 100000 in
theorem C_Lw_pour0 (g : zG) (a pa ta sa gs co fu la gy du re wm ac : Nat) (wmm : Int32) (wmd : Nat) (ou : Nat) (of : Nat → Int64) : CT g M_Lw_pour [.ref a, .ref ou] [(a, .inr (11, [.ref pa, .ref ta, .ref sa, .ref gs, .ref co, .ref fu, .ref la, .ref gy, .ref du, .ref re, .ref wm, .ref ac])), (wm, .inr (13, [.int wmm, .ref wmd, .int 0])), (ou, .inl (3, 1, .inr (.inl of)))] (fun o cs1 => o = .inl (some (.int 1)) ∧ cs1 = [(a, .inr (11, [.ref pa, .ref ta, .ref sa, .ref gs, .ref co, .ref fu, .ref la, .ref gy, .ref du, .ref re, .ref wm, .ref ac])), (wm, .inr (13, [.int wmm, .ref wmd, .int 0])), (ou, .inl (3, 1, .inr (.inl of)))]) 1 6 := by
  refine z_ofH (by decide) (by decide) (Nat.le_of_ble_eq_true rfl) (fun w0 => ?_)
  refine r_lvE (lv2 := [(0, .ref a), (1, .ref ou)]) rfl ?_
  refine r_aload_n d_Lw_pour_0 rfl 1 rfl ?_
  refine r_iconst d_Lw_pour_1 (v := 0) (by decide) ?_
  refine r_aload_n d_Lw_pour_2 rfl 0 rfl ?_
  refine r_callVH (As := []) (rest := [.int 0, .ref ou]) (csC := [(a, .inr (11, [.ref pa, .ref ta, .ref sa, .ref gs, .ref co, .ref fu, .ref la, .ref gy, .ref du, .ref re, .ref wm, .ref ac])), (wm, .inr (13, [.int wmm, .ref wmd, .int 0]))]) (is := [0, 1]) (q0 := 0) rfl rfl ln_Lw_121 w_im_Ip_pour w_se_Ip_pour ok_Lw_pour_Ip_pour d_Lw_pour_3 (C_Ip_pour0 g a pa ta sa gs co fu la gy du re wm ac wmm wmd) rfl rfl (Nat.le_of_ble_eq_true rfl) rfl (by decide) (by omega) (by omega) (fun E cs1 hx => ?_) (fun v cs1 hx => ?_)
  · obtain ⟨e1, rfl⟩ := hx
    cases e1
    refine ⟨rfl, "java/util/NoSuchElementException", [], [(0, 8, 14, 69), (0, 8, 17, 78)], (0, 8, 11, 33), rfl, (fun z hz => nomatch hz), by decide, by decide, lx_Lw_33, ce_33, fun qx => ?_⟩
    refine r_cs (cs2 := [(a, .inr (11, [.ref pa, .ref ta, .ref sa, .ref gs, .ref co, .ref fu, .ref la, .ref gy, .ref du, .ref re, .ref wm, .ref ac])), (wm, .inr (13, [.int wmm, .ref wmd, .int 0])), (ou, .inl (3, 1, .inr (.inl of)))]) rfl ?_
    refine r_astore_n (lv' := [(2, .ref qx), (0, .ref a), (1, .ref ou)]) d_Lw_pour_11 rfl (by decide) rfl ?_
    refine r_iconst d_Lw_pour_12 (v := 1) (by decide) ?_
    refine r_iret d_Lw_pour_13 rfl rfl ?_
    exact ⟨rfl, rfl⟩
  · exact absurd hx.1 (by simp)
abbrev M_Lw_alloy : zM := (⟨"IronpourLaw", "alloy", "(LIronpour;I[J)I"⟩, method_34_code, 4, (Option.some FieldType.int), 8, 142, [((0 : Nat), (9 : Nat), (12 : Nat), (19 : Nat))])
theorem d_Lw_alloy_0 : decode method_34_code 0 = .ok (.aload_n 2, 1) := by decide +kernel
theorem d_Lw_alloy_1 : decode method_34_code 1 = .ok (.iconst 0, 1) := by decide +kernel
theorem d_Lw_alloy_2 : decode method_34_code 2 = .ok (.aload_n 0, 1) := by decide +kernel
theorem d_Lw_alloy_3 : decode method_34_code 3 = .ok (.iload_n 1, 1) := by decide +kernel
theorem d_Lw_alloy_4 : decode method_34_code 4 = .ok (.invokevirtual 124, 3) := by decide +kernel
theorem ok_Lw_alloy_Ip_alloy : z_okH M_Lw_alloy M_Ip_alloy 1 := ⟨z_mem (i := 1446) (by decide +kernel) (by decide +kernel), rfl, ⟨by decide +kernel, by decide +kernel, by decide +kernel⟩, ⟨by decide, by decide⟩, z_mem (i := 58) (by decide +kernel) (by decide +kernel)⟩
theorem ln_Lw_124 : Cond.methodLink "IronpourLaw" 124 M_Ip_alloy.1 ∈ z_gw := z_mem (i := 1443) (by decide +kernel) (by decide +kernel)
theorem w_im_Ip_alloy : Cond.instanceMethod M_Ip_alloy.1 ∈ z_gw := z_mem (i := 1444) (by decide +kernel) (by decide +kernel)
theorem w_se_Ip_alloy : Cond.selects M_Ip_alloy.1.cls M_Ip_alloy.1 M_Ip_alloy.1 ∈ z_gw := z_mem (i := 1445) (by decide +kernel) (by decide +kernel)
theorem d_Lw_alloy_12 : decode method_34_code 12 = .ok (.astore_n 3, 1) := by decide +kernel
theorem d_Lw_alloy_13 : decode method_34_code 13 = .ok (.iconst 1, 1) := by decide +kernel
theorem d_Lw_alloy_14 : decode method_34_code 14 = .ok (.ireturn, 1) := by decide +kernel
set_option maxHeartbeats 4000000 in
set_option maxRecDepth 100000 in
theorem C_Lw_alloyE (g : zG) (a pa ta sa gs co fu la gy du re wm ac : Nat) (acm : Int32) (acd : Nat) (sz : Int32) (x : Int32) (ho : x < 0 ∨ sz ≤ x) (ou : Nat) (of : Nat → Int64) : CT g M_Lw_alloy [.ref a, .int x, .ref ou] [(a, .inr (11, [.ref pa, .ref ta, .ref sa, .ref gs, .ref co, .ref fu, .ref la, .ref gy, .ref du, .ref re, .ref wm, .ref ac])), (ac, .inr (13, [.int acm, .ref acd, .int sz])), (ou, .inl (3, 1, .inr (.inl of)))] (fun o cs1 => o = .inl (some (.int 1)) ∧ cs1 = [(a, .inr (11, [.ref pa, .ref ta, .ref sa, .ref gs, .ref co, .ref fu, .ref la, .ref gy, .ref du, .ref re, .ref wm, .ref ac])), (ac, .inr (13, [.int acm, .ref acd, .int sz])), (ou, .inl (3, 1, .inr (.inl of)))]) 1 6 := by
  refine z_ofH (by decide) (by decide) (Nat.le_of_ble_eq_true rfl) (fun w0 => ?_)
  refine r_lvE (lv2 := [(0, .ref a), (1, .int x), (2, .ref ou)]) rfl ?_
  refine r_aload_n d_Lw_alloy_0 rfl 2 rfl ?_
  refine r_iconst d_Lw_alloy_1 (v := 0) (by decide) ?_
  refine r_aload_n d_Lw_alloy_2 rfl 0 rfl ?_
  refine r_iload_n d_Lw_alloy_3 rfl 1 rfl ?_
  refine r_callVH (As := [.int x]) (rest := [.int 0, .ref ou]) (csC := [(a, .inr (11, [.ref pa, .ref ta, .ref sa, .ref gs, .ref co, .ref fu, .ref la, .ref gy, .ref du, .ref re, .ref wm, .ref ac])), (ac, .inr (13, [.int acm, .ref acd, .int sz]))]) (is := [0, 1]) (q0 := 0) rfl rfl ln_Lw_124 w_im_Ip_alloy w_se_Ip_alloy ok_Lw_alloy_Ip_alloy d_Lw_alloy_4 (C_Ip_alloyE g a pa ta sa gs co fu la gy du re wm ac acm acd sz x ho) rfl rfl (Nat.le_of_ble_eq_true rfl) rfl (by decide) (by omega) (by omega) (fun E cs1 hx => ?_) (fun v cs1 hx => ?_)
  · obtain ⟨e1, rfl⟩ := hx
    cases e1
    refine ⟨rfl, "java/lang/IndexOutOfBoundsException", [], [], (0, 9, 12, 19), rfl, (fun z hz => nomatch hz), by decide, by decide, lx_Lw_19, ce_19, fun qx => ?_⟩
    refine r_cs (cs2 := [(a, .inr (11, [.ref pa, .ref ta, .ref sa, .ref gs, .ref co, .ref fu, .ref la, .ref gy, .ref du, .ref re, .ref wm, .ref ac])), (ac, .inr (13, [.int acm, .ref acd, .int sz])), (ou, .inl (3, 1, .inr (.inl of)))]) rfl ?_
    refine r_astore_n (lv' := [(3, .ref qx), (0, .ref a), (1, .int x), (2, .ref ou)]) d_Lw_alloy_12 rfl (by decide) rfl ?_
    refine r_iconst d_Lw_alloy_13 (v := 1) (by decide) ?_
    refine r_iret d_Lw_alloy_14 rfl rfl ?_
    exact ⟨rfl, rfl⟩
  · exact absurd hx.1 (by simp)
abbrev M_Lw_faults : zM := (⟨"IronpourLaw", "faults", "(LIronpour;I[J)I"⟩, method_35_code, 4, (Option.some FieldType.int), 8, 142, [((0 : Nat), (9 : Nat), (12 : Nat), (19 : Nat))])
theorem d_Lw_faults_0 : decode method_35_code 0 = .ok (.aload_n 2, 1) := by decide +kernel
theorem d_Lw_faults_1 : decode method_35_code 1 = .ok (.iconst 0, 1) := by decide +kernel
theorem d_Lw_faults_2 : decode method_35_code 2 = .ok (.aload_n 0, 1) := by decide +kernel
theorem d_Lw_faults_3 : decode method_35_code 3 = .ok (.iload_n 1, 1) := by decide +kernel
theorem d_Lw_faults_4 : decode method_35_code 4 = .ok (.invokevirtual 128, 3) := by decide +kernel
theorem ok_Lw_faults_Ip_faults : z_okH M_Lw_faults M_Ip_faults 1 := ⟨z_mem (i := 1459) (by decide +kernel) (by decide +kernel), rfl, ⟨by decide +kernel, by decide +kernel, by decide +kernel⟩, ⟨by decide, by decide⟩, z_mem (i := 58) (by decide +kernel) (by decide +kernel)⟩
theorem ln_Lw_128 : Cond.methodLink "IronpourLaw" 128 M_Ip_faults.1 ∈ z_gw := z_mem (i := 1456) (by decide +kernel) (by decide +kernel)
theorem w_im_Ip_faults : Cond.instanceMethod M_Ip_faults.1 ∈ z_gw := z_mem (i := 1457) (by decide +kernel) (by decide +kernel)
theorem w_se_Ip_faults : Cond.selects M_Ip_faults.1.cls M_Ip_faults.1 M_Ip_faults.1 ∈ z_gw := z_mem (i := 1458) (by decide +kernel) (by decide +kernel)
theorem d_Lw_faults_12 : decode method_35_code 12 = .ok (.astore_n 3, 1) := by decide +kernel
theorem d_Lw_faults_13 : decode method_35_code 13 = .ok (.iconst 1, 1) := by decide +kernel
theorem d_Lw_faults_14 : decode method_35_code 14 = .ok (.ireturn, 1) := by decide +kernel
set_option maxHeartbeats 4000000 in
set_option maxRecDepth 100000 in
theorem C_Lw_faultsE (g : zG) (a pa ta sa gs co fu la gy du re wm ac : Nat) (acm : Int32) (acd : Nat) (sz : Int32) (x : Int32) (ho : x < 0 ∨ sz ≤ x) (ou : Nat) (of : Nat → Int64) : CT g M_Lw_faults [.ref a, .int x, .ref ou] [(a, .inr (11, [.ref pa, .ref ta, .ref sa, .ref gs, .ref co, .ref fu, .ref la, .ref gy, .ref du, .ref re, .ref wm, .ref ac])), (ac, .inr (13, [.int acm, .ref acd, .int sz])), (ou, .inl (3, 1, .inr (.inl of)))] (fun o cs1 => o = .inl (some (.int 1)) ∧ cs1 = [(a, .inr (11, [.ref pa, .ref ta, .ref sa, .ref gs, .ref co, .ref fu, .ref la, .ref gy, .ref du, .ref re, .ref wm, .ref ac])), (ac, .inr (13, [.int acm, .ref acd, .int sz])), (ou, .inl (3, 1, .inr (.inl of)))]) 1 6 := by
  refine z_ofH (by decide) (by decide) (Nat.le_of_ble_eq_true rfl) (fun w0 => ?_)
  refine r_lvE (lv2 := [(0, .ref a), (1, .int x), (2, .ref ou)]) rfl ?_
  refine r_aload_n d_Lw_faults_0 rfl 2 rfl ?_
  refine r_iconst d_Lw_faults_1 (v := 0) (by decide) ?_
  refine r_aload_n d_Lw_faults_2 rfl 0 rfl ?_
  refine r_iload_n d_Lw_faults_3 rfl 1 rfl ?_
  refine r_callVH (As := [.int x]) (rest := [.int 0, .ref ou]) (csC := [(a, .inr (11, [.ref pa, .ref ta, .ref sa, .ref gs, .ref co, .ref fu, .ref la, .ref gy, .ref du, .ref re, .ref wm, .ref ac])), (ac, .inr (13, [.int acm, .ref acd, .int sz]))]) (is := [0, 1]) (q0 := 0) rfl rfl ln_Lw_128 w_im_Ip_faults w_se_Ip_faults ok_Lw_faults_Ip_faults d_Lw_faults_4 (C_Ip_faultsE g a pa ta sa gs co fu la gy du re wm ac acm acd sz x ho) rfl rfl (Nat.le_of_ble_eq_true rfl) rfl (by decide) (by omega) (by omega) (fun E cs1 hx => ?_) (fun v cs1 hx => ?_)
  · obtain ⟨e1, rfl⟩ := hx
    cases e1
    refine ⟨rfl, "java/lang/IndexOutOfBoundsException", [], [], (0, 9, 12, 19), rfl, (fun z hz => nomatch hz), by decide, by decide, lx_Lw_19, ce_19, fun qx => ?_⟩
    refine r_cs (cs2 := [(a, .inr (11, [.ref pa, .ref ta, .ref sa, .ref gs, .ref co, .ref fu, .ref la, .ref gy, .ref du, .ref re, .ref wm, .ref ac])), (ac, .inr (13, [.int acm, .ref acd, .int sz])), (ou, .inl (3, 1, .inr (.inl of)))]) rfl ?_
    refine r_astore_n (lv' := [(3, .ref qx), (0, .ref a), (1, .int x), (2, .ref ou)]) d_Lw_faults_12 rfl (by decide) rfl ?_
    refine r_iconst d_Lw_faults_13 (v := 1) (by decide) ?_
    refine r_iret d_Lw_faults_14 rfl rfl ?_
    exact ⟨rfl, rfl⟩
  · exact absurd hx.1 (by simp)
abbrev M_Lw_shrunkIn : zM := (⟨"IronpourLaw", "shrunkIn", "(LIronpour;I[J)I"⟩, method_36_code, 4, (Option.some FieldType.int), 8, 142, [((0 : Nat), (9 : Nat), (12 : Nat), (19 : Nat))])
theorem d_Lw_shrunkIn_0 : decode method_36_code 0 = .ok (.aload_n 2, 1) := by decide +kernel
theorem d_Lw_shrunkIn_1 : decode method_36_code 1 = .ok (.iconst 0, 1) := by decide +kernel
theorem d_Lw_shrunkIn_2 : decode method_36_code 2 = .ok (.aload_n 0, 1) := by decide +kernel
theorem d_Lw_shrunkIn_3 : decode method_36_code 3 = .ok (.iload_n 1, 1) := by decide +kernel
theorem d_Lw_shrunkIn_4 : decode method_36_code 4 = .ok (.invokevirtual 131, 3) := by decide +kernel
theorem ok_Lw_shrunkIn_Ip_shrunkIn : z_okH M_Lw_shrunkIn M_Ip_shrunkIn 1 := ⟨z_mem (i := 1466) (by decide +kernel) (by decide +kernel), rfl, ⟨by decide +kernel, by decide +kernel, by decide +kernel⟩, ⟨by decide, by decide⟩, z_mem (i := 58) (by decide +kernel) (by decide +kernel)⟩
theorem ln_Lw_131 : Cond.methodLink "IronpourLaw" 131 M_Ip_shrunkIn.1 ∈ z_gw := z_mem (i := 1463) (by decide +kernel) (by decide +kernel)
theorem w_im_Ip_shrunkIn : Cond.instanceMethod M_Ip_shrunkIn.1 ∈ z_gw := z_mem (i := 1464) (by decide +kernel) (by decide +kernel)
theorem w_se_Ip_shrunkIn : Cond.selects M_Ip_shrunkIn.1.cls M_Ip_shrunkIn.1 M_Ip_shrunkIn.1 ∈ z_gw := z_mem (i := 1465) (by decide +kernel) (by decide +kernel)
theorem d_Lw_shrunkIn_12 : decode method_36_code 12 = .ok (.astore_n 3, 1) := by decide +kernel
theorem d_Lw_shrunkIn_13 : decode method_36_code 13 = .ok (.iconst 1, 1) := by decide +kernel
theorem d_Lw_shrunkIn_14 : decode method_36_code 14 = .ok (.ireturn, 1) := by decide +kernel
set_option maxHeartbeats 4000000 in
set_option maxRecDepth 100000 in
theorem C_Lw_shrunkInE (g : zG) (a pa ta sa gs co fu la gy du re wm ac : Nat) (acm : Int32) (acd : Nat) (sz : Int32) (x : Int32) (ho : x < 0 ∨ sz ≤ x) (ou : Nat) (of : Nat → Int64) : CT g M_Lw_shrunkIn [.ref a, .int x, .ref ou] [(a, .inr (11, [.ref pa, .ref ta, .ref sa, .ref gs, .ref co, .ref fu, .ref la, .ref gy, .ref du, .ref re, .ref wm, .ref ac])), (ac, .inr (13, [.int acm, .ref acd, .int sz])), (ou, .inl (3, 1, .inr (.inl of)))] (fun o cs1 => o = .inl (some (.int 1)) ∧ cs1 = [(a, .inr (11, [.ref pa, .ref ta, .ref sa, .ref gs, .ref co, .ref fu, .ref la, .ref gy, .ref du, .ref re, .ref wm, .ref ac])), (ac, .inr (13, [.int acm, .ref acd, .int sz])), (ou, .inl (3, 1, .inr (.inl of)))]) 1 6 := by
  refine z_ofH (by decide) (by decide) (Nat.le_of_ble_eq_true rfl) (fun w0 => ?_)
  refine r_lvE (lv2 := [(0, .ref a), (1, .int x), (2, .ref ou)]) rfl ?_
  refine r_aload_n d_Lw_shrunkIn_0 rfl 2 rfl ?_
  refine r_iconst d_Lw_shrunkIn_1 (v := 0) (by decide) ?_
  refine r_aload_n d_Lw_shrunkIn_2 rfl 0 rfl ?_
  refine r_iload_n d_Lw_shrunkIn_3 rfl 1 rfl ?_
  refine r_callVH (As := [.int x]) (rest := [.int 0, .ref ou]) (csC := [(a, .inr (11, [.ref pa, .ref ta, .ref sa, .ref gs, .ref co, .ref fu, .ref la, .ref gy, .ref du, .ref re, .ref wm, .ref ac])), (ac, .inr (13, [.int acm, .ref acd, .int sz]))]) (is := [0, 1]) (q0 := 0) rfl rfl ln_Lw_131 w_im_Ip_shrunkIn w_se_Ip_shrunkIn ok_Lw_shrunkIn_Ip_shrunkIn d_Lw_shrunkIn_4 (C_Ip_shrunkInE g a pa ta sa gs co fu la gy du re wm ac acm acd sz x ho) rfl rfl (Nat.le_of_ble_eq_true rfl) rfl (by decide) (by omega) (by omega) (fun E cs1 hx => ?_) (fun v cs1 hx => ?_)
  · obtain ⟨e1, rfl⟩ := hx
    cases e1
    refine ⟨rfl, "java/lang/IndexOutOfBoundsException", [], [], (0, 9, 12, 19), rfl, (fun z hz => nomatch hz), by decide, by decide, lx_Lw_19, ce_19, fun qx => ?_⟩
    refine r_cs (cs2 := [(a, .inr (11, [.ref pa, .ref ta, .ref sa, .ref gs, .ref co, .ref fu, .ref la, .ref gy, .ref du, .ref re, .ref wm, .ref ac])), (ac, .inr (13, [.int acm, .ref acd, .int sz])), (ou, .inl (3, 1, .inr (.inl of)))]) rfl ?_
    refine r_astore_n (lv' := [(3, .ref qx), (0, .ref a), (1, .int x), (2, .ref ou)]) d_Lw_shrunkIn_12 rfl (by decide) rfl ?_
    refine r_iconst d_Lw_shrunkIn_13 (v := 1) (by decide) ?_
    refine r_iret d_Lw_shrunkIn_14 rfl rfl ?_
    exact ⟨rfl, rfl⟩
  · exact absurd hx.1 (by simp)
abbrev M_Lw_has : zM := (⟨"IronpourLaw", "has", "(LIronpour;IC[J)I"⟩, method_37_code, 5, (Option.some FieldType.int), 10, 223, [((0 : Nat), (10 : Nat), (13 : Nat), (19 : Nat)), ((0 : Nat), (10 : Nat), (17 : Nat), (13 : Nat))])
theorem d_Lw_has_0 : decode method_37_code 0 = .ok (.aload_n 3, 1) := by decide +kernel
theorem d_Lw_has_1 : decode method_37_code 1 = .ok (.iconst 0, 1) := by decide +kernel
theorem d_Lw_has_2 : decode method_37_code 2 = .ok (.aload_n 0, 1) := by decide +kernel
theorem d_Lw_has_3 : decode method_37_code 3 = .ok (.iload_n 1, 1) := by decide +kernel
theorem d_Lw_has_4 : decode method_37_code 4 = .ok (.iload_n 2, 1) := by decide +kernel
theorem d_Lw_has_5 : decode method_37_code 5 = .ok (.invokevirtual 134, 3) := by decide +kernel
theorem ok_Lw_has_Ip_has : z_okH M_Lw_has M_Ip_has 2 := ⟨z_mem (i := 1473) (by decide +kernel) (by decide +kernel), rfl, ⟨by decide +kernel, by decide +kernel, by decide +kernel⟩, ⟨by decide, by decide⟩, z_mem (i := 58) (by decide +kernel) (by decide +kernel)⟩
theorem ln_Lw_134 : Cond.methodLink "IronpourLaw" 134 M_Ip_has.1 ∈ z_gw := z_mem (i := 1470) (by decide +kernel) (by decide +kernel)
theorem w_im_Ip_has : Cond.instanceMethod M_Ip_has.1 ∈ z_gw := z_mem (i := 1471) (by decide +kernel) (by decide +kernel)
theorem w_se_Ip_has : Cond.selects M_Ip_has.1.cls M_Ip_has.1 M_Ip_has.1 ∈ z_gw := z_mem (i := 1472) (by decide +kernel) (by decide +kernel)
theorem d_Lw_has_13 : decode method_37_code 13 = .ok (.astore 4, 2) := by decide +kernel
theorem d_Lw_has_15 : decode method_37_code 15 = .ok (.iconst 1, 1) := by decide +kernel
theorem d_Lw_has_16 : decode method_37_code 16 = .ok (.ireturn, 1) := by decide +kernel
set_option maxHeartbeats 4000000 in
set_option maxRecDepth 100000 in
theorem C_Lw_hasE (g : zG) (a pa ta sa gs co fu la gy du re wm ac : Nat) (acm : Int32) (acd : Nat) (sz : Int32) (x : Int32) (ho : x < 0 ∨ sz ≤ x) (k : Int32) (ou : Nat) (of : Nat → Int64) : CT g M_Lw_has [.ref a, .int x, .int k, .ref ou] [(a, .inr (11, [.ref pa, .ref ta, .ref sa, .ref gs, .ref co, .ref fu, .ref la, .ref gy, .ref du, .ref re, .ref wm, .ref ac])), (ac, .inr (13, [.int acm, .ref acd, .int sz])), (ou, .inl (3, 1, .inr (.inl of)))] (fun o cs1 => o = .inl (some (.int 1)) ∧ cs1 = [(a, .inr (11, [.ref pa, .ref ta, .ref sa, .ref gs, .ref co, .ref fu, .ref la, .ref gy, .ref du, .ref re, .ref wm, .ref ac])), (ac, .inr (13, [.int acm, .ref acd, .int sz])), (ou, .inl (3, 1, .inr (.inl of)))]) 1 6 := by
  refine z_ofH (by decide) (by decide) (Nat.le_of_ble_eq_true rfl) (fun w0 => ?_)
  refine r_lvE (lv2 := [(0, .ref a), (1, .int x), (2, .int k), (3, .ref ou)]) rfl ?_
  refine r_aload_n d_Lw_has_0 rfl 3 rfl ?_
  refine r_iconst d_Lw_has_1 (v := 0) (by decide) ?_
  refine r_aload_n d_Lw_has_2 rfl 0 rfl ?_
  refine r_iload_n d_Lw_has_3 rfl 1 rfl ?_
  refine r_iload_n d_Lw_has_4 rfl 2 rfl ?_
  refine r_callVH (As := [.int x, .int k]) (rest := [.int 0, .ref ou]) (csC := [(a, .inr (11, [.ref pa, .ref ta, .ref sa, .ref gs, .ref co, .ref fu, .ref la, .ref gy, .ref du, .ref re, .ref wm, .ref ac])), (ac, .inr (13, [.int acm, .ref acd, .int sz]))]) (is := [0, 1]) (q0 := 0) rfl rfl ln_Lw_134 w_im_Ip_has w_se_Ip_has ok_Lw_has_Ip_has d_Lw_has_5 (C_Ip_hasE g a pa ta sa gs co fu la gy du re wm ac acm acd sz x ho k) rfl rfl (Nat.le_of_ble_eq_true rfl) rfl (by decide) (by omega) (by omega) (fun E cs1 hx => ?_) (fun v cs1 hx => ?_)
  · obtain ⟨e1, rfl⟩ := hx
    cases e1
    refine ⟨rfl, "java/lang/IndexOutOfBoundsException", [], [(0, 10, 17, 13)], (0, 10, 13, 19), rfl, (fun z hz => nomatch hz), by decide, by decide, lx_Lw_19, ce_19, fun qx => ?_⟩
    refine r_cs (cs2 := [(a, .inr (11, [.ref pa, .ref ta, .ref sa, .ref gs, .ref co, .ref fu, .ref la, .ref gy, .ref du, .ref re, .ref wm, .ref ac])), (ac, .inr (13, [.int acm, .ref acd, .int sz])), (ou, .inl (3, 1, .inr (.inl of)))]) rfl ?_
    refine r_astore (lv' := [(4, .ref qx), (0, .ref a), (1, .int x), (2, .int k), (3, .ref ou)]) d_Lw_has_13 (by decide) rfl ?_
    refine r_iconst d_Lw_has_15 (v := 1) (by decide) ?_
    refine r_iret d_Lw_has_16 rfl rfl ?_
    exact ⟨rfl, rfl⟩
  · exact absurd hx.1 (by simp)
abbrev M_Lw_bar : zM := (⟨"IronpourLaw", "bar", "(LIronpour;I[J)I"⟩, method_38_code, 4, (Option.some FieldType.int), 8, 142, [((0 : Nat), (9 : Nat), (12 : Nat), (19 : Nat))])
theorem d_Lw_bar_0 : decode method_38_code 0 = .ok (.aload_n 2, 1) := by decide +kernel
theorem d_Lw_bar_1 : decode method_38_code 1 = .ok (.iconst 0, 1) := by decide +kernel
theorem d_Lw_bar_2 : decode method_38_code 2 = .ok (.aload_n 0, 1) := by decide +kernel
theorem d_Lw_bar_3 : decode method_38_code 3 = .ok (.iload_n 1, 1) := by decide +kernel
theorem d_Lw_bar_4 : decode method_38_code 4 = .ok (.invokevirtual 138, 3) := by decide +kernel
theorem ok_Lw_bar_Ip_bar : z_okH M_Lw_bar M_Ip_bar 1 := ⟨z_mem (i := 1480) (by decide +kernel) (by decide +kernel), rfl, ⟨by decide +kernel, by decide +kernel, by decide +kernel⟩, ⟨by decide, by decide⟩, z_mem (i := 58) (by decide +kernel) (by decide +kernel)⟩
theorem ln_Lw_138 : Cond.methodLink "IronpourLaw" 138 M_Ip_bar.1 ∈ z_gw := z_mem (i := 1477) (by decide +kernel) (by decide +kernel)
theorem w_im_Ip_bar : Cond.instanceMethod M_Ip_bar.1 ∈ z_gw := z_mem (i := 1478) (by decide +kernel) (by decide +kernel)
theorem w_se_Ip_bar : Cond.selects M_Ip_bar.1.cls M_Ip_bar.1 M_Ip_bar.1 ∈ z_gw := z_mem (i := 1479) (by decide +kernel) (by decide +kernel)
theorem d_Lw_bar_12 : decode method_38_code 12 = .ok (.astore_n 3, 1) := by decide +kernel
theorem d_Lw_bar_13 : decode method_38_code 13 = .ok (.iconst 1, 1) := by decide +kernel
theorem d_Lw_bar_14 : decode method_38_code 14 = .ok (.ireturn, 1) := by decide +kernel
set_option maxHeartbeats 4000000 in
set_option maxRecDepth 100000 in
theorem C_Lw_barE (g : zG) (a pa ta sa gs co fu la gy du re wm ac : Nat) (acm : Int32) (acd : Nat) (sz : Int32) (x : Int32) (ho : x < 0 ∨ sz ≤ x) (ou : Nat) (of : Nat → Int64) : CT g M_Lw_bar [.ref a, .int x, .ref ou] [(a, .inr (11, [.ref pa, .ref ta, .ref sa, .ref gs, .ref co, .ref fu, .ref la, .ref gy, .ref du, .ref re, .ref wm, .ref ac])), (ac, .inr (13, [.int acm, .ref acd, .int sz])), (ou, .inl (3, 1, .inr (.inl of)))] (fun o cs1 => o = .inl (some (.int 1)) ∧ cs1 = [(a, .inr (11, [.ref pa, .ref ta, .ref sa, .ref gs, .ref co, .ref fu, .ref la, .ref gy, .ref du, .ref re, .ref wm, .ref ac])), (ac, .inr (13, [.int acm, .ref acd, .int sz])), (ou, .inl (3, 1, .inr (.inl of)))]) 1 6 := by
  refine z_ofH (by decide) (by decide) (Nat.le_of_ble_eq_true rfl) (fun w0 => ?_)
  refine r_lvE (lv2 := [(0, .ref a), (1, .int x), (2, .ref ou)]) rfl ?_
  refine r_aload_n d_Lw_bar_0 rfl 2 rfl ?_
  refine r_iconst d_Lw_bar_1 (v := 0) (by decide) ?_
  refine r_aload_n d_Lw_bar_2 rfl 0 rfl ?_
  refine r_iload_n d_Lw_bar_3 rfl 1 rfl ?_
  refine r_callVH (As := [.int x]) (rest := [.int 0, .ref ou]) (csC := [(a, .inr (11, [.ref pa, .ref ta, .ref sa, .ref gs, .ref co, .ref fu, .ref la, .ref gy, .ref du, .ref re, .ref wm, .ref ac])), (ac, .inr (13, [.int acm, .ref acd, .int sz]))]) (is := [0, 1]) (q0 := 0) rfl rfl ln_Lw_138 w_im_Ip_bar w_se_Ip_bar ok_Lw_bar_Ip_bar d_Lw_bar_4 (C_Ip_barE g a pa ta sa gs co fu la gy du re wm ac acm acd sz x ho) rfl rfl (Nat.le_of_ble_eq_true rfl) rfl (by decide) (by omega) (by omega) (fun E cs1 hx => ?_) (fun v cs1 hx => ?_)
  · obtain ⟨e1, rfl⟩ := hx
    cases e1
    refine ⟨rfl, "java/lang/IndexOutOfBoundsException", [], [], (0, 9, 12, 19), rfl, (fun z hz => nomatch hz), by decide, by decide, lx_Lw_19, ce_19, fun qx => ?_⟩
    refine r_cs (cs2 := [(a, .inr (11, [.ref pa, .ref ta, .ref sa, .ref gs, .ref co, .ref fu, .ref la, .ref gy, .ref du, .ref re, .ref wm, .ref ac])), (ac, .inr (13, [.int acm, .ref acd, .int sz])), (ou, .inl (3, 1, .inr (.inl of)))]) rfl ?_
    refine r_astore_n (lv' := [(3, .ref qx), (0, .ref a), (1, .int x), (2, .ref ou)]) d_Lw_bar_12 rfl (by decide) rfl ?_
    refine r_iconst d_Lw_bar_13 (v := 1) (by decide) ?_
    refine r_iret d_Lw_bar_14 rfl rfl ?_
    exact ⟨rfl, rfl⟩
  · exact absurd hx.1 (by simp)
abbrev M_Lw_weld : zM := (⟨"IronpourLaw", "weld", "(LIronpour;I[J)I"⟩, method_39_code, 4, (Option.some FieldType.int), 8, 144, [((0 : Nat), (16 : Nat), (19 : Nat), (19 : Nat)), ((0 : Nat), (16 : Nat), (22 : Nat), (78 : Nat)), ((0 : Nat), (16 : Nat), (25 : Nat), (69 : Nat))])
theorem d_Lw_weld_0 : decode method_39_code 0 = .ok (.aload_n 2, 1) := by decide +kernel
theorem d_Lw_weld_1 : decode method_39_code 1 = .ok (.iconst 0, 1) := by decide +kernel
theorem d_Lw_weld_2 : decode method_39_code 2 = .ok (.aload_n 0, 1) := by decide +kernel
theorem d_Lw_weld_3 : decode method_39_code 3 = .ok (.iload_n 1, 1) := by decide +kernel
theorem d_Lw_weld_4 : decode method_39_code 4 = .ok (.invokevirtual 141, 3) := by decide +kernel
theorem ok_Lw_weld_Ip_weld : z_okH M_Lw_weld M_Ip_weld 1 := ⟨z_mem (i := 1498) (by decide +kernel) (by decide +kernel), rfl, ⟨by decide +kernel, by decide +kernel, by decide +kernel⟩, ⟨by decide, by decide⟩, z_mem (i := 58) (by decide +kernel) (by decide +kernel)⟩
theorem ln_Lw_141 : Cond.methodLink "IronpourLaw" 141 M_Ip_weld.1 ∈ z_gw := z_mem (i := 1495) (by decide +kernel) (by decide +kernel)
theorem w_im_Ip_weld : Cond.instanceMethod M_Ip_weld.1 ∈ z_gw := z_mem (i := 1496) (by decide +kernel) (by decide +kernel)
theorem w_se_Ip_weld : Cond.selects M_Ip_weld.1.cls M_Ip_weld.1 M_Ip_weld.1 ∈ z_gw := z_mem (i := 1497) (by decide +kernel) (by decide +kernel)
theorem d_Lw_weld_19 : decode method_39_code 19 = .ok (.astore_n 3, 1) := by decide +kernel
theorem d_Lw_weld_20 : decode method_39_code 20 = .ok (.iconst 1, 1) := by decide +kernel
theorem d_Lw_weld_21 : decode method_39_code 21 = .ok (.ireturn, 1) := by decide +kernel
set_option maxHeartbeats 4000000 in
set_option maxRecDepth 100000 in
theorem C_Lw_weldE (g : zG) (a pa ta sa gs co fu la gy du re wm ac : Nat) (acm : Int32) (acd : Nat) (sz : Int32) (x : Int32) (ho : x < 0 ∨ sz ≤ x) (ou : Nat) (of : Nat → Int64) : CT g M_Lw_weld [.ref a, .int x, .ref ou] [(a, .inr (11, [.ref pa, .ref ta, .ref sa, .ref gs, .ref co, .ref fu, .ref la, .ref gy, .ref du, .ref re, .ref wm, .ref ac])), (ac, .inr (13, [.int acm, .ref acd, .int sz])), (ou, .inl (3, 1, .inr (.inl of)))] (fun o cs1 => o = .inl (some (.int 1)) ∧ cs1 = [(a, .inr (11, [.ref pa, .ref ta, .ref sa, .ref gs, .ref co, .ref fu, .ref la, .ref gy, .ref du, .ref re, .ref wm, .ref ac])), (ac, .inr (13, [.int acm, .ref acd, .int sz])), (ou, .inl (3, 1, .inr (.inl of)))]) 1 6 := by
  refine z_ofH (by decide) (by decide) (Nat.le_of_ble_eq_true rfl) (fun w0 => ?_)
  refine r_lvE (lv2 := [(0, .ref a), (1, .int x), (2, .ref ou)]) rfl ?_
  refine r_aload_n d_Lw_weld_0 rfl 2 rfl ?_
  refine r_iconst d_Lw_weld_1 (v := 0) (by decide) ?_
  refine r_aload_n d_Lw_weld_2 rfl 0 rfl ?_
  refine r_iload_n d_Lw_weld_3 rfl 1 rfl ?_
  refine r_callVH (As := [.int x]) (rest := [.int 0, .ref ou]) (csC := [(a, .inr (11, [.ref pa, .ref ta, .ref sa, .ref gs, .ref co, .ref fu, .ref la, .ref gy, .ref du, .ref re, .ref wm, .ref ac])), (ac, .inr (13, [.int acm, .ref acd, .int sz]))]) (is := [0, 1]) (q0 := 0) rfl rfl ln_Lw_141 w_im_Ip_weld w_se_Ip_weld ok_Lw_weld_Ip_weld d_Lw_weld_4 (C_Ip_weldE g a pa ta sa gs co fu la gy du re wm ac acm acd sz x ho) rfl rfl (Nat.le_of_ble_eq_true rfl) rfl (by decide) (by omega) (by omega) (fun E cs1 hx => ?_) (fun v cs1 hx => ?_)
  · obtain ⟨e1, rfl⟩ := hx
    cases e1
    refine ⟨rfl, "java/lang/IndexOutOfBoundsException", [], [(0, 16, 22, 78), (0, 16, 25, 69)], (0, 16, 19, 19), rfl, (fun z hz => nomatch hz), by decide, by decide, lx_Lw_19, ce_19, fun qx => ?_⟩
    refine r_cs (cs2 := [(a, .inr (11, [.ref pa, .ref ta, .ref sa, .ref gs, .ref co, .ref fu, .ref la, .ref gy, .ref du, .ref re, .ref wm, .ref ac])), (ac, .inr (13, [.int acm, .ref acd, .int sz])), (ou, .inl (3, 1, .inr (.inl of)))]) rfl ?_
    refine r_astore_n (lv' := [(3, .ref qx), (0, .ref a), (1, .int x), (2, .ref ou)]) d_Lw_weld_19 rfl (by decide) rfl ?_
    refine r_iconst d_Lw_weld_20 (v := 1) (by decide) ?_
    refine r_iret d_Lw_weld_21 rfl rfl ?_
    exact ⟨rfl, rfl⟩
  · exact absurd hx.1 (by simp)
abbrev M_Lw_deliver : zM := (⟨"IronpourLaw", "deliver", "(LIronpour;I[J)I"⟩, method_40_code, 4, (Option.some FieldType.int), 8, 143, [((0 : Nat), (16 : Nat), (19 : Nat), (19 : Nat)), ((0 : Nat), (16 : Nat), (22 : Nat), (69 : Nat))])
theorem d_Lw_deliver_0 : decode method_40_code 0 = .ok (.aload_n 2, 1) := by decide +kernel
theorem d_Lw_deliver_1 : decode method_40_code 1 = .ok (.iconst 0, 1) := by decide +kernel
theorem d_Lw_deliver_2 : decode method_40_code 2 = .ok (.aload_n 0, 1) := by decide +kernel
theorem d_Lw_deliver_3 : decode method_40_code 3 = .ok (.iload_n 1, 1) := by decide +kernel
theorem d_Lw_deliver_4 : decode method_40_code 4 = .ok (.invokevirtual 145, 3) := by decide +kernel
theorem ok_Lw_deliver_Ip_deliver : z_okH M_Lw_deliver M_Ip_deliver 1 := ⟨z_mem (i := 1514) (by decide +kernel) (by decide +kernel), rfl, ⟨by decide +kernel, by decide +kernel, by decide +kernel⟩, ⟨by decide, by decide⟩, z_mem (i := 58) (by decide +kernel) (by decide +kernel)⟩
theorem ln_Lw_145 : Cond.methodLink "IronpourLaw" 145 M_Ip_deliver.1 ∈ z_gw := z_mem (i := 1511) (by decide +kernel) (by decide +kernel)
theorem w_im_Ip_deliver : Cond.instanceMethod M_Ip_deliver.1 ∈ z_gw := z_mem (i := 1512) (by decide +kernel) (by decide +kernel)
theorem w_se_Ip_deliver : Cond.selects M_Ip_deliver.1.cls M_Ip_deliver.1 M_Ip_deliver.1 ∈ z_gw := z_mem (i := 1513) (by decide +kernel) (by decide +kernel)
theorem d_Lw_deliver_19 : decode method_40_code 19 = .ok (.astore_n 3, 1) := by decide +kernel
theorem d_Lw_deliver_20 : decode method_40_code 20 = .ok (.iconst 1, 1) := by decide +kernel
theorem d_Lw_deliver_21 : decode method_40_code 21 = .ok (.ireturn, 1) := by decide +kernel
set_option maxHeartbeats 4000000 in
set_option maxRecDepth 100000 in
theorem C_Lw_deliverE (g : zG) (a pa ta sa gs co fu la gy du re wm ac : Nat) (acm : Int32) (acd : Nat) (sz : Int32) (x : Int32) (ho : x < 0 ∨ sz ≤ x) (ou : Nat) (of : Nat → Int64) : CT g M_Lw_deliver [.ref a, .int x, .ref ou] [(a, .inr (11, [.ref pa, .ref ta, .ref sa, .ref gs, .ref co, .ref fu, .ref la, .ref gy, .ref du, .ref re, .ref wm, .ref ac])), (ac, .inr (13, [.int acm, .ref acd, .int sz])), (ou, .inl (3, 1, .inr (.inl of)))] (fun o cs1 => o = .inl (some (.int 1)) ∧ cs1 = [(a, .inr (11, [.ref pa, .ref ta, .ref sa, .ref gs, .ref co, .ref fu, .ref la, .ref gy, .ref du, .ref re, .ref wm, .ref ac])), (ac, .inr (13, [.int acm, .ref acd, .int sz])), (ou, .inl (3, 1, .inr (.inl of)))]) 1 6 := by
  refine z_ofH (by decide) (by decide) (Nat.le_of_ble_eq_true rfl) (fun w0 => ?_)
  refine r_lvE (lv2 := [(0, .ref a), (1, .int x), (2, .ref ou)]) rfl ?_
  refine r_aload_n d_Lw_deliver_0 rfl 2 rfl ?_
  refine r_iconst d_Lw_deliver_1 (v := 0) (by decide) ?_
  refine r_aload_n d_Lw_deliver_2 rfl 0 rfl ?_
  refine r_iload_n d_Lw_deliver_3 rfl 1 rfl ?_
  refine r_callVH (As := [.int x]) (rest := [.int 0, .ref ou]) (csC := [(a, .inr (11, [.ref pa, .ref ta, .ref sa, .ref gs, .ref co, .ref fu, .ref la, .ref gy, .ref du, .ref re, .ref wm, .ref ac])), (ac, .inr (13, [.int acm, .ref acd, .int sz]))]) (is := [0, 1]) (q0 := 0) rfl rfl ln_Lw_145 w_im_Ip_deliver w_se_Ip_deliver ok_Lw_deliver_Ip_deliver d_Lw_deliver_4 (C_Ip_deliverE g a pa ta sa gs co fu la gy du re wm ac acm acd sz x ho) rfl rfl (Nat.le_of_ble_eq_true rfl) rfl (by decide) (by omega) (by omega) (fun E cs1 hx => ?_) (fun v cs1 hx => ?_)
  · obtain ⟨e1, rfl⟩ := hx
    cases e1
    refine ⟨rfl, "java/lang/IndexOutOfBoundsException", [], [(0, 16, 22, 69)], (0, 16, 19, 19), rfl, (fun z hz => nomatch hz), by decide, by decide, lx_Lw_19, ce_19, fun qx => ?_⟩
    refine r_cs (cs2 := [(a, .inr (11, [.ref pa, .ref ta, .ref sa, .ref gs, .ref co, .ref fu, .ref la, .ref gy, .ref du, .ref re, .ref wm, .ref ac])), (ac, .inr (13, [.int acm, .ref acd, .int sz])), (ou, .inl (3, 1, .inr (.inl of)))]) rfl ?_
    refine r_astore_n (lv' := [(3, .ref qx), (0, .ref a), (1, .int x), (2, .ref ou)]) d_Lw_deliver_19 rfl (by decide) rfl ?_
    refine r_iconst d_Lw_deliver_20 (v := 1) (by decide) ?_
    refine r_iret d_Lw_deliver_21 rfl rfl ?_
    exact ⟨rfl, rfl⟩
  · exact absurd hx.1 (by simp)
abbrev M_Lw_breakUp : zM := (⟨"IronpourLaw", "breakUp", "(LIronpour;I[J)I"⟩, method_41_code, 4, (Option.some FieldType.int), 8, 144, [((0 : Nat), (9 : Nat), (12 : Nat), (19 : Nat)), ((0 : Nat), (9 : Nat), (15 : Nat), (69 : Nat))])
theorem d_Lw_breakUp_0 : decode method_41_code 0 = .ok (.aload_n 2, 1) := by decide +kernel
theorem d_Lw_breakUp_1 : decode method_41_code 1 = .ok (.iconst 0, 1) := by decide +kernel
theorem d_Lw_breakUp_2 : decode method_41_code 2 = .ok (.aload_n 0, 1) := by decide +kernel
theorem d_Lw_breakUp_3 : decode method_41_code 3 = .ok (.iload_n 1, 1) := by decide +kernel
theorem d_Lw_breakUp_4 : decode method_41_code 4 = .ok (.invokevirtual 148, 3) := by decide +kernel
theorem ok_Lw_breakUp_Ip_breakUp : z_okH M_Lw_breakUp M_Ip_breakUp 1 := ⟨z_mem (i := 1521) (by decide +kernel) (by decide +kernel), rfl, ⟨by decide +kernel, by decide +kernel, by decide +kernel⟩, ⟨by decide, by decide⟩, z_mem (i := 58) (by decide +kernel) (by decide +kernel)⟩
theorem ln_Lw_148 : Cond.methodLink "IronpourLaw" 148 M_Ip_breakUp.1 ∈ z_gw := z_mem (i := 1518) (by decide +kernel) (by decide +kernel)
theorem w_im_Ip_breakUp : Cond.instanceMethod M_Ip_breakUp.1 ∈ z_gw := z_mem (i := 1519) (by decide +kernel) (by decide +kernel)
theorem w_se_Ip_breakUp : Cond.selects M_Ip_breakUp.1.cls M_Ip_breakUp.1 M_Ip_breakUp.1 ∈ z_gw := z_mem (i := 1520) (by decide +kernel) (by decide +kernel)
theorem d_Lw_breakUp_12 : decode method_41_code 12 = .ok (.astore_n 3, 1) := by decide +kernel
theorem d_Lw_breakUp_13 : decode method_41_code 13 = .ok (.iconst 1, 1) := by decide +kernel
theorem d_Lw_breakUp_14 : decode method_41_code 14 = .ok (.ireturn, 1) := by decide +kernel
set_option maxHeartbeats 4000000 in
set_option maxRecDepth 100000 in
theorem C_Lw_breakUpE (g : zG) (a pa ta sa gs co fu la gy du re wm ac : Nat) (acm : Int32) (acd : Nat) (sz : Int32) (x : Int32) (ho : x < 0 ∨ sz ≤ x) (ou : Nat) (of : Nat → Int64) : CT g M_Lw_breakUp [.ref a, .int x, .ref ou] [(a, .inr (11, [.ref pa, .ref ta, .ref sa, .ref gs, .ref co, .ref fu, .ref la, .ref gy, .ref du, .ref re, .ref wm, .ref ac])), (ac, .inr (13, [.int acm, .ref acd, .int sz])), (ou, .inl (3, 1, .inr (.inl of)))] (fun o cs1 => o = .inl (some (.int 1)) ∧ cs1 = [(a, .inr (11, [.ref pa, .ref ta, .ref sa, .ref gs, .ref co, .ref fu, .ref la, .ref gy, .ref du, .ref re, .ref wm, .ref ac])), (ac, .inr (13, [.int acm, .ref acd, .int sz])), (ou, .inl (3, 1, .inr (.inl of)))]) 1 6 := by
  refine z_ofH (by decide) (by decide) (Nat.le_of_ble_eq_true rfl) (fun w0 => ?_)
  refine r_lvE (lv2 := [(0, .ref a), (1, .int x), (2, .ref ou)]) rfl ?_
  refine r_aload_n d_Lw_breakUp_0 rfl 2 rfl ?_
  refine r_iconst d_Lw_breakUp_1 (v := 0) (by decide) ?_
  refine r_aload_n d_Lw_breakUp_2 rfl 0 rfl ?_
  refine r_iload_n d_Lw_breakUp_3 rfl 1 rfl ?_
  refine r_callVH (As := [.int x]) (rest := [.int 0, .ref ou]) (csC := [(a, .inr (11, [.ref pa, .ref ta, .ref sa, .ref gs, .ref co, .ref fu, .ref la, .ref gy, .ref du, .ref re, .ref wm, .ref ac])), (ac, .inr (13, [.int acm, .ref acd, .int sz]))]) (is := [0, 1]) (q0 := 0) rfl rfl ln_Lw_148 w_im_Ip_breakUp w_se_Ip_breakUp ok_Lw_breakUp_Ip_breakUp d_Lw_breakUp_4 (C_Ip_breakUpE g a pa ta sa gs co fu la gy du re wm ac acm acd sz x ho) rfl rfl (Nat.le_of_ble_eq_true rfl) rfl (by decide) (by omega) (by omega) (fun E cs1 hx => ?_) (fun v cs1 hx => ?_)
  · obtain ⟨e1, rfl⟩ := hx
    cases e1
    refine ⟨rfl, "java/lang/IndexOutOfBoundsException", [], [(0, 9, 15, 69)], (0, 9, 12, 19), rfl, (fun z hz => nomatch hz), by decide, by decide, lx_Lw_19, ce_19, fun qx => ?_⟩
    refine r_cs (cs2 := [(a, .inr (11, [.ref pa, .ref ta, .ref sa, .ref gs, .ref co, .ref fu, .ref la, .ref gy, .ref du, .ref re, .ref wm, .ref ac])), (ac, .inr (13, [.int acm, .ref acd, .int sz])), (ou, .inl (3, 1, .inr (.inl of)))]) rfl ?_
    refine r_astore_n (lv' := [(3, .ref qx), (0, .ref a), (1, .int x), (2, .ref ou)]) d_Lw_breakUp_12 rfl (by decide) rfl ?_
    refine r_iconst d_Lw_breakUp_13 (v := 1) (by decide) ?_
    refine r_iret d_Lw_breakUp_14 rfl rfl ?_
    exact ⟨rfl, rfl⟩
  · exact absurd hx.1 (by simp)
abbrev M_Lw_worst : zM := (⟨"IronpourLaw", "worst", "(LIronpour;[J)I"⟩, method_42_code, 3, (Option.some FieldType.int), 7, 132, [((0 : Nat), (8 : Nat), (11 : Nat), (33 : Nat))])
theorem d_Lw_worst_0 : decode method_42_code 0 = .ok (.aload_n 1, 1) := by decide +kernel
theorem d_Lw_worst_1 : decode method_42_code 1 = .ok (.iconst 0, 1) := by decide +kernel
theorem d_Lw_worst_2 : decode method_42_code 2 = .ok (.aload_n 0, 1) := by decide +kernel
theorem d_Lw_worst_3 : decode method_42_code 3 = .ok (.invokevirtual 151, 3) := by decide +kernel
theorem ok_Lw_worst_Ip_worst : z_okH M_Lw_worst M_Ip_worst 0 := ⟨z_mem (i := 1532) (by decide +kernel) (by decide +kernel), rfl, ⟨by decide +kernel, by decide +kernel, by decide +kernel⟩, ⟨by decide, by decide⟩, z_mem (i := 58) (by decide +kernel) (by decide +kernel)⟩
theorem ln_Lw_151 : Cond.methodLink "IronpourLaw" 151 M_Ip_worst.1 ∈ z_gw := z_mem (i := 1529) (by decide +kernel) (by decide +kernel)
theorem w_im_Ip_worst : Cond.instanceMethod M_Ip_worst.1 ∈ z_gw := z_mem (i := 1530) (by decide +kernel) (by decide +kernel)
theorem w_se_Ip_worst : Cond.selects M_Ip_worst.1.cls M_Ip_worst.1 M_Ip_worst.1 ∈ z_gw := z_mem (i := 1531) (by decide +kernel) (by decide +kernel)
theorem d_Lw_worst_11 : decode method_42_code 11 = .ok (.astore_n 2, 1) := by decide +kernel
theorem d_Lw_worst_12 : decode method_42_code 12 = .ok (.iconst 1, 1) := by decide +kernel
theorem d_Lw_worst_13 : decode method_42_code 13 = .ok (.ireturn, 1) := by decide +kernel
set_option maxHeartbeats 4000000 in
set_option maxRecDepth 100000 in
theorem C_Lw_worst0 (g : zG) (a pa ta sa gs co fu la gy du re wm ac : Nat) (acm : Int32) (acd : Nat) (ou : Nat) (of : Nat → Int64) : CT g M_Lw_worst [.ref a, .ref ou] [(a, .inr (11, [.ref pa, .ref ta, .ref sa, .ref gs, .ref co, .ref fu, .ref la, .ref gy, .ref du, .ref re, .ref wm, .ref ac])), (ac, .inr (13, [.int acm, .ref acd, .int 0])), (ou, .inl (3, 1, .inr (.inl of)))] (fun o cs1 => o = .inl (some (.int 1)) ∧ cs1 = [(a, .inr (11, [.ref pa, .ref ta, .ref sa, .ref gs, .ref co, .ref fu, .ref la, .ref gy, .ref du, .ref re, .ref wm, .ref ac])), (ac, .inr (13, [.int acm, .ref acd, .int 0])), (ou, .inl (3, 1, .inr (.inl of)))]) 1 6 := by
  refine z_ofH (by decide) (by decide) (Nat.le_of_ble_eq_true rfl) (fun w0 => ?_)
  refine r_lvE (lv2 := [(0, .ref a), (1, .ref ou)]) rfl ?_
  refine r_aload_n d_Lw_worst_0 rfl 1 rfl ?_
  refine r_iconst d_Lw_worst_1 (v := 0) (by decide) ?_
  refine r_aload_n d_Lw_worst_2 rfl 0 rfl ?_
  refine r_callVH (As := []) (rest := [.int 0, .ref ou]) (csC := [(a, .inr (11, [.ref pa, .ref ta, .ref sa, .ref gs, .ref co, .ref fu, .ref la, .ref gy, .ref du, .ref re, .ref wm, .ref ac])), (ac, .inr (13, [.int acm, .ref acd, .int 0]))]) (is := [0, 1]) (q0 := 0) rfl rfl ln_Lw_151 w_im_Ip_worst w_se_Ip_worst ok_Lw_worst_Ip_worst d_Lw_worst_3 (C_Ip_worst0 g a pa ta sa gs co fu la gy du re wm ac acm acd) rfl rfl (Nat.le_of_ble_eq_true rfl) rfl (by decide) (by omega) (by omega) (fun E cs1 hx => ?_) (fun v cs1 hx => ?_)
  · obtain ⟨e1, rfl⟩ := hx
    cases e1
    refine ⟨rfl, "java/util/NoSuchElementException", [], [], (0, 8, 11, 33), rfl, (fun z hz => nomatch hz), by decide, by decide, lx_Lw_33, ce_33, fun qx => ?_⟩
    refine r_cs (cs2 := [(a, .inr (11, [.ref pa, .ref ta, .ref sa, .ref gs, .ref co, .ref fu, .ref la, .ref gy, .ref du, .ref re, .ref wm, .ref ac])), (ac, .inr (13, [.int acm, .ref acd, .int 0])), (ou, .inl (3, 1, .inr (.inl of)))]) rfl ?_
    refine r_astore_n (lv' := [(2, .ref qx), (0, .ref a), (1, .ref ou)]) d_Lw_worst_11 rfl (by decide) rfl ?_
    refine r_iconst d_Lw_worst_12 (v := 1) (by decide) ?_
    refine r_iret d_Lw_worst_13 rfl rfl ?_
    exact ⟨rfl, rfl⟩
  · exact absurd hx.1 (by simp)
abbrev M_Lw_goodShare : zM := (⟨"IronpourLaw", "goodShare", "(LIronpour;[D)I"⟩, method_43_code, 3, (Option.some FieldType.int), 7, 131, [((0 : Nat), (8 : Nat), (11 : Nat), (159 : Nat))])
theorem d_Lw_goodShare_0 : decode method_43_code 0 = .ok (.aload_n 1, 1) := by decide +kernel
theorem d_Lw_goodShare_1 : decode method_43_code 1 = .ok (.iconst 0, 1) := by decide +kernel
theorem d_Lw_goodShare_2 : decode method_43_code 2 = .ok (.aload_n 0, 1) := by decide +kernel
theorem d_Lw_goodShare_3 : decode method_43_code 3 = .ok (.invokevirtual 155, 3) := by decide +kernel
theorem ok_Lw_goodShare_Ip_goodShare : z_okH M_Lw_goodShare M_Ip_goodShare 0 := ⟨z_mem (i := 1559) (by decide +kernel) (by decide +kernel), rfl, ⟨by decide +kernel, by decide +kernel, by decide +kernel⟩, ⟨by decide, by decide⟩, z_mem (i := 58) (by decide +kernel) (by decide +kernel)⟩
theorem ln_Lw_155 : Cond.methodLink "IronpourLaw" 155 M_Ip_goodShare.1 ∈ z_gw := z_mem (i := 1556) (by decide +kernel) (by decide +kernel)
theorem w_im_Ip_goodShare : Cond.instanceMethod M_Ip_goodShare.1 ∈ z_gw := z_mem (i := 1557) (by decide +kernel) (by decide +kernel)
theorem w_se_Ip_goodShare : Cond.selects M_Ip_goodShare.1.cls M_Ip_goodShare.1 M_Ip_goodShare.1 ∈ z_gw := z_mem (i := 1558) (by decide +kernel) (by decide +kernel)
theorem ce_159 : Cond.castable "java/lang/ArithmeticException" "java/lang/ArithmeticException" ∈ z_nw := z_memN (i := 1554) (by decide +kernel) (by decide +kernel)
theorem lx_Lw_159 : Cond.classLink "IronpourLaw" 159 "java/lang/ArithmeticException" ∈ z_gw := z_mem (i := 1542) (by decide +kernel) (by decide +kernel)
theorem d_Lw_goodShare_11 : decode method_43_code 11 = .ok (.astore_n 2, 1) := by decide +kernel
theorem d_Lw_goodShare_12 : decode method_43_code 12 = .ok (.iconst 1, 1) := by decide +kernel
theorem d_Lw_goodShare_13 : decode method_43_code 13 = .ok (.ireturn, 1) := by decide +kernel
set_option maxHeartbeats 4000000 in
set_option maxRecDepth 100000 in
theorem C_Lw_goodShare0 (g : zG) (a pa ta sa gs co fu la gy du re wm ac : Nat) (acm : Int32) (acd : Nat) (ou : Nat) (od : Nat → UInt64) : CT g M_Lw_goodShare [.ref a, .ref ou] [(a, .inr (11, [.ref pa, .ref ta, .ref sa, .ref gs, .ref co, .ref fu, .ref la, .ref gy, .ref du, .ref re, .ref wm, .ref ac])), (ac, .inr (13, [.int acm, .ref acd, .int 0])), (ou, .inl (4, 1, .inr (.inr (.inr (.inl od)))))] (fun o cs1 => o = .inl (some (.int 1)) ∧ cs1 = [(a, .inr (11, [.ref pa, .ref ta, .ref sa, .ref gs, .ref co, .ref fu, .ref la, .ref gy, .ref du, .ref re, .ref wm, .ref ac])), (ac, .inr (13, [.int acm, .ref acd, .int 0])), (ou, .inl (4, 1, .inr (.inr (.inr (.inl od)))))]) 1 6 := by
  refine z_ofH (by decide) (by decide) (Nat.le_of_ble_eq_true rfl) (fun w0 => ?_)
  refine r_lvE (lv2 := [(0, .ref a), (1, .ref ou)]) rfl ?_
  refine r_aload_n d_Lw_goodShare_0 rfl 1 rfl ?_
  refine r_iconst d_Lw_goodShare_1 (v := 0) (by decide) ?_
  refine r_aload_n d_Lw_goodShare_2 rfl 0 rfl ?_
  refine r_callVH (As := []) (rest := [.int 0, .ref ou]) (csC := [(a, .inr (11, [.ref pa, .ref ta, .ref sa, .ref gs, .ref co, .ref fu, .ref la, .ref gy, .ref du, .ref re, .ref wm, .ref ac])), (ac, .inr (13, [.int acm, .ref acd, .int 0]))]) (is := [0, 1]) (q0 := 0) rfl rfl ln_Lw_155 w_im_Ip_goodShare w_se_Ip_goodShare ok_Lw_goodShare_Ip_goodShare d_Lw_goodShare_3 (C_Ip_goodShare0 g a pa ta sa gs co fu la gy du re wm ac acm acd) rfl rfl (Nat.le_of_ble_eq_true rfl) rfl (by decide) (by omega) (by omega) (fun E cs1 hx => ?_) (fun v cs1 hx => ?_)
  · obtain ⟨e1, rfl⟩ := hx
    cases e1
    refine ⟨rfl, "java/lang/ArithmeticException", [], [], (0, 8, 11, 159), rfl, (fun z hz => nomatch hz), by decide, by decide, lx_Lw_159, ce_159, fun qx => ?_⟩
    refine r_cs (cs2 := [(a, .inr (11, [.ref pa, .ref ta, .ref sa, .ref gs, .ref co, .ref fu, .ref la, .ref gy, .ref du, .ref re, .ref wm, .ref ac])), (ac, .inr (13, [.int acm, .ref acd, .int 0])), (ou, .inl (4, 1, .inr (.inr (.inr (.inl od)))))]) rfl ?_
    refine r_astore_n (lv' := [(2, .ref qx), (0, .ref a), (1, .ref ou)]) d_Lw_goodShare_11 rfl (by decide) rfl ?_
    refine r_iconst d_Lw_goodShare_12 (v := 1) (by decide) ?_
    refine r_iret d_Lw_goodShare_13 rfl rfl ?_
    exact ⟨rfl, rfl⟩
  · exact absurd hx.1 (by simp)
abbrev M_Lw_meanBar : zM := (⟨"IronpourLaw", "meanBar", "(LIronpour;[D)I"⟩, method_44_code, 3, (Option.some FieldType.int), 7, 124, [((0 : Nat), (7 : Nat), (10 : Nat), (159 : Nat))])
theorem d_Lw_meanBar_0 : decode method_44_code 0 = .ok (.aload_n 1, 1) := by decide +kernel
theorem d_Lw_meanBar_1 : decode method_44_code 1 = .ok (.iconst 0, 1) := by decide +kernel
theorem d_Lw_meanBar_2 : decode method_44_code 2 = .ok (.aload_n 0, 1) := by decide +kernel
theorem d_Lw_meanBar_3 : decode method_44_code 3 = .ok (.invokevirtual 161, 3) := by decide +kernel
theorem ok_Lw_meanBar_Ip_meanBar : z_okH M_Lw_meanBar M_Ip_meanBar 0 := ⟨z_mem (i := 1570) (by decide +kernel) (by decide +kernel), rfl, ⟨by decide +kernel, by decide +kernel, by decide +kernel⟩, ⟨by decide, by decide⟩, z_mem (i := 58) (by decide +kernel) (by decide +kernel)⟩
theorem ln_Lw_161 : Cond.methodLink "IronpourLaw" 161 M_Ip_meanBar.1 ∈ z_gw := z_mem (i := 1567) (by decide +kernel) (by decide +kernel)
theorem w_im_Ip_meanBar : Cond.instanceMethod M_Ip_meanBar.1 ∈ z_gw := z_mem (i := 1568) (by decide +kernel) (by decide +kernel)
theorem w_se_Ip_meanBar : Cond.selects M_Ip_meanBar.1.cls M_Ip_meanBar.1 M_Ip_meanBar.1 ∈ z_gw := z_mem (i := 1569) (by decide +kernel) (by decide +kernel)
theorem d_Lw_meanBar_10 : decode method_44_code 10 = .ok (.astore_n 2, 1) := by decide +kernel
theorem d_Lw_meanBar_11 : decode method_44_code 11 = .ok (.iconst 1, 1) := by decide +kernel
theorem d_Lw_meanBar_12 : decode method_44_code 12 = .ok (.ireturn, 1) := by decide +kernel
set_option maxHeartbeats 4000000 in
set_option maxRecDepth 100000 in
theorem C_Lw_meanBar0 (g : zG) (a pa ta sa gs co fu la gy du re wm ac : Nat) (acm : Int32) (acd : Nat) (ou : Nat) (od : Nat → UInt64) : CT g M_Lw_meanBar [.ref a, .ref ou] [(a, .inr (11, [.ref pa, .ref ta, .ref sa, .ref gs, .ref co, .ref fu, .ref la, .ref gy, .ref du, .ref re, .ref wm, .ref ac])), (ac, .inr (13, [.int acm, .ref acd, .int 0])), (ou, .inl (4, 1, .inr (.inr (.inr (.inl od)))))] (fun o cs1 => o = .inl (some (.int 1)) ∧ cs1 = [(a, .inr (11, [.ref pa, .ref ta, .ref sa, .ref gs, .ref co, .ref fu, .ref la, .ref gy, .ref du, .ref re, .ref wm, .ref ac])), (ac, .inr (13, [.int acm, .ref acd, .int 0])), (ou, .inl (4, 1, .inr (.inr (.inr (.inl od)))))]) 1 6 := by
  refine z_ofH (by decide) (by decide) (Nat.le_of_ble_eq_true rfl) (fun w0 => ?_)
  refine r_lvE (lv2 := [(0, .ref a), (1, .ref ou)]) rfl ?_
  refine r_aload_n d_Lw_meanBar_0 rfl 1 rfl ?_
  refine r_iconst d_Lw_meanBar_1 (v := 0) (by decide) ?_
  refine r_aload_n d_Lw_meanBar_2 rfl 0 rfl ?_
  refine r_callVH (As := []) (rest := [.int 0, .ref ou]) (csC := [(a, .inr (11, [.ref pa, .ref ta, .ref sa, .ref gs, .ref co, .ref fu, .ref la, .ref gy, .ref du, .ref re, .ref wm, .ref ac])), (ac, .inr (13, [.int acm, .ref acd, .int 0]))]) (is := [0, 1]) (q0 := 0) rfl rfl ln_Lw_161 w_im_Ip_meanBar w_se_Ip_meanBar ok_Lw_meanBar_Ip_meanBar d_Lw_meanBar_3 (C_Ip_meanBar0 g a pa ta sa gs co fu la gy du re wm ac acm acd) rfl rfl (Nat.le_of_ble_eq_true rfl) rfl (by decide) (by omega) (by omega) (fun E cs1 hx => ?_) (fun v cs1 hx => ?_)
  · obtain ⟨e1, rfl⟩ := hx
    cases e1
    refine ⟨rfl, "java/lang/ArithmeticException", [], [], (0, 7, 10, 159), rfl, (fun z hz => nomatch hz), by decide, by decide, lx_Lw_159, ce_159, fun qx => ?_⟩
    refine r_cs (cs2 := [(a, .inr (11, [.ref pa, .ref ta, .ref sa, .ref gs, .ref co, .ref fu, .ref la, .ref gy, .ref du, .ref re, .ref wm, .ref ac])), (ac, .inr (13, [.int acm, .ref acd, .int 0])), (ou, .inl (4, 1, .inr (.inr (.inr (.inl od)))))]) rfl ?_
    refine r_astore_n (lv' := [(2, .ref qx), (0, .ref a), (1, .ref ou)]) d_Lw_meanBar_10 rfl (by decide) rfl ?_
    refine r_iconst d_Lw_meanBar_11 (v := 1) (by decide) ?_
    refine r_iret d_Lw_meanBar_12 rfl rfl ?_
    exact ⟨rfl, rfl⟩
  · exact absurd hx.1 (by simp)
theorem d_Lw_isFed_10 : decode method_10_code 10 = .ok (.ifCond .eq 7, 3) := by decide +kernel
theorem d_Lw_isFed_17 : decode method_10_code 17 = .ok (.lconst 0, 1) := by decide +kernel
theorem d_Lw_isFed_18 : decode method_10_code 18 = .ok (.lastore, 1) := by decide +kernel
theorem d_Lw_isFed_19 : decode method_10_code 19 = .ok (.goto 11, 3) := by decide +kernel
theorem d_Lw_isFed_30 : decode method_10_code 30 = .ok (.iconst 0, 1) := by decide +kernel
theorem d_Lw_isFed_31 : decode method_10_code 31 = .ok (.ireturn, 1) := by decide +kernel
set_option maxHeartbeats 4000000 in
set_option maxRecDepth 100000 in
theorem C_Lw_isFedN (g : zG) (a pa ta sa gs co fu la gy du re wm ac : Nat) (ta1 ta2 taz taz1 taz2 taz3 taz4 taz5 taz6 ta4 ta5 ta6 : Nat) (X : zTr) (x y : Int32) (h : Int32) (c : Nat) (hz : z_cl x y = some c) (hh : 1200 ≤ h ∧ h ≤ 1500) (hb : (frT h X).2.2.1 c = 0 ∨ (frT h X).2.2.1 c = 1) (h0 : (frT h X).2.2.1 c = 0) (ou : Nat) (of : Nat → Int64) : CT g M_Lw_isFed [.ref a, .int x, .int y, .int h, .ref ou] [(a, .inr (11, [.ref pa, .ref ta, .ref sa, .ref gs, .ref co, .ref fu, .ref la, .ref gy, .ref du, .ref re, .ref wm, .ref ac])), (ta, .inr (10, [.ref ta1, .ref ta2, .ref taz, .ref ta4, .ref ta5, .ref ta6, .int X.1.2.2.1, .int X.1.2.2.2])), (ta1, .inl (1, 108, .inl X.1.1)), (ta2, .inl (0, 108, .inl X.1.2.1)), (taz, .inr (2, [.ref taz1, .ref taz2, .ref taz3, .ref taz4, .ref taz5, .ref taz6, .int X.2.1.1.1.2.2.2])), (taz1, .inl (0, 108, .inl X.2.1.1.1.1)), (taz2, .inl (0, 108, .inl X.2.1.1.2)), (taz3, .inl (0, 108, .inl X.2.1.1.1.2.1)), (taz4, .inl (0, 108, .inl X.2.1.1.1.2.2.1)), (taz5, .inl (0, 108, .inl X.2.1.2.1)), (taz6, .inl (0, 108, .inl X.2.1.2.2)), (ta4, .inl (2, 108, .inl X.2.2.1)), (ta5, .inl (2, 108, .inl X.2.2.2.1)), (ta6, .inl (0, 108, .inl (fun k => nI (X.2.2.2.2 k)))), (ou, .inl (3, 1, .inr (.inl of)))] (fun o cs1 => o = .inl (some (.int 0)) ∧ cs1 = [(a, .inr (11, [.ref pa, .ref ta, .ref sa, .ref gs, .ref co, .ref fu, .ref la, .ref gy, .ref du, .ref re, .ref wm, .ref ac])), (ta, .inr (10, [.ref ta1, .ref ta2, .ref taz, .ref ta4, .ref ta5, .ref ta6, .int ((frT h X).1.2.2.1), .int ((frT h X).1.2.2.2)])), (ta1, .inl (1, 108, .inl ((frT h X).1.1))), (ta2, .inl (0, 108, .inl ((frT h X).1.2.1))), (taz, .inr (2, [.ref taz1, .ref taz2, .ref taz3, .ref taz4, .ref taz5, .ref taz6, .int ((frT h X).2.1.1.1.2.2.2)])), (taz1, .inl (0, 108, .inl ((frT h X).2.1.1.1.1))), (taz2, .inl (0, 108, .inl ((frT h X).2.1.1.2))), (taz3, .inl (0, 108, .inl ((frT h X).2.1.1.1.2.1))), (taz4, .inl (0, 108, .inl ((frT h X).2.1.1.1.2.2.1))), (taz5, .inl (0, 108, .inl ((frT h X).2.1.2.1))), (taz6, .inl (0, 108, .inl ((frT h X).2.1.2.2))), (ta4, .inl (2, 108, .inl ((frT h X).2.2.1))), (ta5, .inl (2, 108, .inl ((frT h X).2.2.2.1))), (ta6, .inl (0, 108, .inl (fun k => nI ((frT h X).2.2.2.2 k)))), (ou, .inl (3, 1, .inr (.inl (vp_updL of 0 0))))]) 2 12 := by
  refine z_ofH (by decide) (by decide) (Nat.le_of_ble_eq_true rfl) (fun w0 => ?_)
  refine r_lvE (lv2 := [(0, .ref a), (1, .int x), (2, .int y), (3, .int h), (4, .ref ou)]) rfl ?_
  refine r_aload d_Lw_isFed_0 4 rfl ?_
  refine r_iconst d_Lw_isFed_2 (v := 0) (by decide) ?_
  refine r_aload_n d_Lw_isFed_3 rfl 0 rfl ?_
  refine r_iload_n d_Lw_isFed_4 rfl 1 rfl ?_
  refine r_iload_n d_Lw_isFed_5 rfl 2 rfl ?_
  refine r_iload_n d_Lw_isFed_6 rfl 3 rfl ?_
  refine r_callVH (As := [.int x, .int y, .int h]) (rest := [.int 0, .ref ou]) (csC := [(a, .inr (11, [.ref pa, .ref ta, .ref sa, .ref gs, .ref co, .ref fu, .ref la, .ref gy, .ref du, .ref re, .ref wm, .ref ac])), (ta, .inr (10, [.ref ta1, .ref ta2, .ref taz, .ref ta4, .ref ta5, .ref ta6, .int X.1.2.2.1, .int X.1.2.2.2])), (ta1, .inl (1, 108, .inl X.1.1)), (ta2, .inl (0, 108, .inl X.1.2.1)), (taz, .inr (2, [.ref taz1, .ref taz2, .ref taz3, .ref taz4, .ref taz5, .ref taz6, .int X.2.1.1.1.2.2.2])), (taz1, .inl (0, 108, .inl X.2.1.1.1.1)), (taz2, .inl (0, 108, .inl X.2.1.1.2)), (taz3, .inl (0, 108, .inl X.2.1.1.1.2.1)), (taz4, .inl (0, 108, .inl X.2.1.1.1.2.2.1)), (taz5, .inl (0, 108, .inl X.2.1.2.1)), (taz6, .inl (0, 108, .inl X.2.1.2.2)), (ta4, .inl (2, 108, .inl X.2.2.1)), (ta5, .inl (2, 108, .inl X.2.2.2.1)), (ta6, .inl (0, 108, .inl (fun k => nI (X.2.2.2.2 k))))]) (is := [0, 1, 2, 3, 4, 5, 6, 7, 8, 9, 10, 11, 12, 13]) (q0 := 0) rfl rfl ln_Lw_43 w_im_Ip_isFed w_se_Ip_isFed ok_Lw_isFed_Ip_isFed d_Lw_isFed_7 (C_Ip_isFedN g a pa ta sa gs co fu la gy du re wm ac ta1 ta2 taz taz1 taz2 taz3 taz4 taz5 taz6 ta4 ta5 ta6 X x y h c hz hh hb) rfl rfl (Nat.le_of_ble_eq_true rfl) rfl (by decide) (by omega) (by omega) (fun E cs1 hx => ?_) (fun v cs1 hx => ?_)
  · exact absurd hx.1 (by simp)
  · obtain ⟨e1, rfl⟩ := hx
    rw [h0] at e1
    cases e1
    refine ⟨rfl, ?_⟩
    refine r_st (st2 := [.int 0, .int 0, .ref ou]) rfl ?_
    refine r_cs (cs2 := [(a, .inr (11, [.ref pa, .ref ta, .ref sa, .ref gs, .ref co, .ref fu, .ref la, .ref gy, .ref du, .ref re, .ref wm, .ref ac])), (ta, .inr (10, [.ref ta1, .ref ta2, .ref taz, .ref ta4, .ref ta5, .ref ta6, .int ((frT h X).1.2.2.1), .int ((frT h X).1.2.2.2)])), (ta1, .inl (1, 108, .inl ((frT h X).1.1))), (ta2, .inl (0, 108, .inl ((frT h X).1.2.1))), (taz, .inr (2, [.ref taz1, .ref taz2, .ref taz3, .ref taz4, .ref taz5, .ref taz6, .int ((frT h X).2.1.1.1.2.2.2)])), (taz1, .inl (0, 108, .inl ((frT h X).2.1.1.1.1))), (taz2, .inl (0, 108, .inl ((frT h X).2.1.1.2))), (taz3, .inl (0, 108, .inl ((frT h X).2.1.1.1.2.1))), (taz4, .inl (0, 108, .inl ((frT h X).2.1.1.1.2.2.1))), (taz5, .inl (0, 108, .inl ((frT h X).2.1.2.1))), (taz6, .inl (0, 108, .inl ((frT h X).2.1.2.2))), (ta4, .inl (2, 108, .inl ((frT h X).2.2.1))), (ta5, .inl (2, 108, .inl ((frT h X).2.2.2.1))), (ta6, .inl (0, 108, .inl (fun k => nI ((frT h X).2.2.2.2 k)))), (ou, .inl (3, 1, .inr (.inl of)))]) rfl ?_
    refine r_if_eq (tgt := 17) d_Lw_isFed_10 (by decide) (fun c_10 => ?_) (fun c_10 => ?_)
    · refine r_lconst d_Lw_isFed_17 (v := 0) (by decide) ?_
      refine r_last d_Lw_isFed_18 (q0 := 14) rfl (fun q => q.elim (by decide) (by decide)) (f' := vp_updL of 0 0) rfl (cs' := [(a, .inr (11, [.ref pa, .ref ta, .ref sa, .ref gs, .ref co, .ref fu, .ref la, .ref gy, .ref du, .ref re, .ref wm, .ref ac])), (ta, .inr (10, [.ref ta1, .ref ta2, .ref taz, .ref ta4, .ref ta5, .ref ta6, .int ((frT h X).1.2.2.1), .int ((frT h X).1.2.2.2)])), (ta1, .inl (1, 108, .inl ((frT h X).1.1))), (ta2, .inl (0, 108, .inl ((frT h X).1.2.1))), (taz, .inr (2, [.ref taz1, .ref taz2, .ref taz3, .ref taz4, .ref taz5, .ref taz6, .int ((frT h X).2.1.1.1.2.2.2)])), (taz1, .inl (0, 108, .inl ((frT h X).2.1.1.1.1))), (taz2, .inl (0, 108, .inl ((frT h X).2.1.1.2))), (taz3, .inl (0, 108, .inl ((frT h X).2.1.1.1.2.1))), (taz4, .inl (0, 108, .inl ((frT h X).2.1.1.1.2.2.1))), (taz5, .inl (0, 108, .inl ((frT h X).2.1.2.1))), (taz6, .inl (0, 108, .inl ((frT h X).2.1.2.2))), (ta4, .inl (2, 108, .inl ((frT h X).2.2.1))), (ta5, .inl (2, 108, .inl ((frT h X).2.2.2.1))), (ta6, .inl (0, 108, .inl (fun k => nI ((frT h X).2.2.2.2 k)))), (ou, .inl (3, 1, .inr (.inl (vp_updL of 0 0))))]) rfl ?_
      refine r_goto (tgt := 30) d_Lw_isFed_19 (by decide) ?_
      refine r_iconst d_Lw_isFed_30 (v := 0) (by decide) ?_
      refine r_iret d_Lw_isFed_31 rfl rfl ?_
      exact ⟨rfl, rfl⟩
    · exact absurd c_10 (by decide)
