theorem z_cellN {x y : Nat} (hx : x < 12) (hy : y < 9) : 0 ≤ nI x ∧ nI x < 12 ∧ 0 ≤ nI y ∧ nI y < 9 :=
  ⟨Int32.not_lt.mp (nI_nneg (by omega)), (nI_ltI (b := 12) (by omega) (by decide)).mpr hx, Int32.not_lt.mp (nI_nneg (by omega)), (nI_ltI (b := 9) (by omega) (by decide)).mpr hy⟩
theorem d_Ip_draw_67 : decode prog_1_method_2_code 67 = .ok (.aload_n 0, 1) := zo_42 (zd_b zq_prog_1_method_2_code_2 3 rfl rfl rfl)
theorem d_Ip_draw_68 : decode prog_1_method_2_code 68 = .ok (.getfield 10, 3) := zo_180 (d := 0) (e := 10) (zd_b zq_prog_1_method_2_code_2 4 rfl rfl rfl) (zd_b zq_prog_1_method_2_code_2 5 rfl rfl rfl) (zd_b zq_prog_1_method_2_code_2 6 rfl rfl rfl)
theorem d_Ip_draw_71 : decode prog_1_method_2_code 71 = .ok (.iload_n 1, 1) := zo_27 (zd_b zq_prog_1_method_2_code_2 7 rfl rfl rfl)
theorem d_Ip_draw_72 : decode prog_1_method_2_code 72 = .ok (.iload_n 2, 1) := zo_28 (zd_b zq_prog_1_method_2_code_2 8 rfl rfl rfl)
theorem d_Ip_draw_73 : decode prog_1_method_2_code 73 = .ok (.iload_n 3, 1) := zo_29 (zd_b zq_prog_1_method_2_code_2 9 rfl rfl rfl)
theorem d_Ip_draw_74 : decode prog_1_method_2_code 74 = .ok (.iload 4, 2) := zo_21 (d := 4) (zd_b zq_prog_1_method_2_code_2 10 rfl rfl rfl) (zd_b zq_prog_1_method_2_code_2 11 rfl rfl rfl)
theorem d_Ip_draw_76 : decode prog_1_method_2_code 76 = .ok (.iload 5, 2) := zo_21 (d := 5) (zd_b zq_prog_1_method_2_code_2 12 rfl rfl rfl) (zd_b zq_prog_1_method_2_code_2 13 rfl rfl rfl)
theorem d_Ip_draw_78 : decode prog_1_method_2_code 78 = .ok (.invokevirtual 102, 3) := zo_182 (d := 0) (e := 102) (zd_b zq_prog_1_method_2_code_2 14 rfl rfl rfl) (zd_b zq_prog_1_method_2_code_2 15 rfl rfl rfl) (zd_b zq_prog_1_method_2_code_2 16 rfl rfl rfl)
theorem ok_Ip_draw_Pa_paint : z_ok M_Ip_draw M_Pa_paint 5 := ⟨z_mj3 (i := 220) rfl (by decide +kernel), rfl, ⟨by decide +kernel, by decide +kernel, by decide +kernel⟩, ⟨by decide, by decide⟩, z_mj1 (i := 2) rfl (by decide +kernel), rfl⟩
theorem ln_Ip_102 : Cond.methodLink "Ironpour" 102 M_Pa_paint.1 ∈ z_gw := z_mj3 (i := 217) rfl (by decide +kernel)
theorem w_im_Pa_paint : Cond.instanceMethod M_Pa_paint.1 ∈ z_gw := z_mj3 (i := 218) rfl (by decide +kernel)
theorem w_se_Pa_paint : Cond.selects M_Pa_paint.1.cls M_Pa_paint.1 M_Pa_paint.1 ∈ z_gw := z_mj3 (i := 219) rfl (by decide +kernel)
theorem d_Ip_draw_81 : decode prog_1_method_2_code 81 = .ok (.istore 6, 2) := zo_54 (d := 6) (zd_b zq_prog_1_method_2_code_2 17 rfl rfl rfl) (zd_b zq_prog_1_method_2_code_2 18 rfl rfl rfl)
theorem d_Ip_draw_83 : decode prog_1_method_2_code 83 = .ok (.iload 6, 2) := zo_21 (d := 6) (zd_b zq_prog_1_method_2_code_2 19 rfl rfl rfl) (zd_b zq_prog_1_method_2_code_2 20 rfl rfl rfl)
theorem d_Ip_draw_85 : decode prog_1_method_2_code 85 = .ok (.ifCond .le 17, 3) := zo_158 (d := 0) (e := 17) (zd_b zq_prog_1_method_2_code_2 21 rfl rfl rfl) (zd_b zq_prog_1_method_2_code_2 22 rfl rfl rfl) (zd_b zq_prog_1_method_2_code_2 23 rfl rfl rfl) (by decide +kernel)
theorem d_Ip_draw_102 : decode prog_1_method_2_code 102 = .ok (.iload 6, 2) := zo_21 (d := 6) (zd_b zq_prog_1_method_2_code_3 6 rfl rfl rfl) (zd_b zq_prog_1_method_2_code_3 7 rfl rfl rfl)
theorem d_Ip_draw_104 : decode prog_1_method_2_code 104 = .ok (.ireturn, 1) := zo_172 (zd_b zq_prog_1_method_2_code_3 8 rfl rfl rfl)
set_option maxHeartbeats 4000000 in
set_option maxRecDepth 100000 in
theorem C_Ip_drawZ (g : zG) (a pa ta sa gs co fu la gy du re wm ac : Nat) (pa1 pa2 pa3 : Nat) (f sn : Nat → Int32) (qn : Nat → Nat) (p : Nat) (ta1 ta2 taz taz1 taz2 taz3 taz4 taz5 taz6 ta4 ta5 ta6 : Nat) (X : zTr) (kd : Int32) (hk : z_kind kd) (hki : 0 ≤ z_ix 0 kd) (x y u v : Nat) (hx : x + u ≤ 12) (hy : y + v ≤ 9) (hu : 1 ≤ u) (hv : 1 ≤ v) (hz : (prect kd x y u (f, 0) v).2 = 0) : CT g M_Ip_draw [.ref a, .int kd, .int (nI x), .int (nI y), .int (nI u), .int (nI v)] [(a, .inr (11, [.ref pa, .ref ta, .ref sa, .ref gs, .ref co, .ref fu, .ref la, .ref gy, .ref du, .ref re, .ref wm, .ref ac])), (pa, .inr (8, [.ref pa1, .ref pa2, .ref pa3, .int (nI p)])), (pa1, .inl (1, 108, .inl f)), (pa2, .inl (2, 108, .inl sn)), (pa3, .inl (0, 108, .inl (fun k => nI (qn k)))), (ta, .inr (10, [.ref ta1, .ref ta2, .ref taz, .ref ta4, .ref ta5, .ref ta6, .int X.1.2.2.1, .int X.1.2.2.2])), (ta1, .inl (1, 108, .inl X.1.1)), (ta2, .inl (0, 108, .inl X.1.2.1)), (taz, .inr (2, [.ref taz1, .ref taz2, .ref taz3, .ref taz4, .ref taz5, .ref taz6, .int X.2.1.1.1.2.2.2])), (taz1, .inl (0, 108, .inl X.2.1.1.1.1)), (taz2, .inl (0, 108, .inl X.2.1.1.2)), (taz3, .inl (0, 108, .inl X.2.1.1.1.2.1)), (taz4, .inl (0, 108, .inl X.2.1.1.1.2.2.1)), (taz5, .inl (0, 108, .inl X.2.1.2.1)), (taz6, .inl (0, 108, .inl X.2.1.2.2)), (ta4, .inl (2, 108, .inl X.2.2.1)), (ta5, .inl (2, 108, .inl X.2.2.2.1)), (ta6, .inl (0, 108, .inl (fun k => nI (X.2.2.2.2 k))))] (fun o cs1 => o = .inl (some (.int (nI (prect kd x y u (f, 0) v).2))) ∧ cs1 = [(a, .inr (11, [.ref pa, .ref ta, .ref sa, .ref gs, .ref co, .ref fu, .ref la, .ref gy, .ref du, .ref re, .ref wm, .ref ac])), (pa, .inr (8, [.ref pa1, .ref pa2, .ref pa3, .int (nI p)])), (pa1, .inl (1, 108, .inl ((prect kd x y u (f, 0) v).1))), (pa2, .inl (2, 108, .inl sn)), (pa3, .inl (0, 108, .inl (fun k => nI (qn k)))), (ta, .inr (10, [.ref ta1, .ref ta2, .ref taz, .ref ta4, .ref ta5, .ref ta6, .int X.1.2.2.1, .int X.1.2.2.2])), (ta1, .inl (1, 108, .inl X.1.1)), (ta2, .inl (0, 108, .inl X.1.2.1)), (taz, .inr (2, [.ref taz1, .ref taz2, .ref taz3, .ref taz4, .ref taz5, .ref taz6, .int X.2.1.1.1.2.2.2])), (taz1, .inl (0, 108, .inl X.2.1.1.1.1)), (taz2, .inl (0, 108, .inl X.2.1.1.2)), (taz3, .inl (0, 108, .inl X.2.1.1.1.2.1)), (taz4, .inl (0, 108, .inl X.2.1.1.1.2.2.1)), (taz5, .inl (0, 108, .inl X.2.1.2.1)), (taz6, .inl (0, 108, .inl X.2.1.2.2)), (ta4, .inl (2, 108, .inl X.2.2.1)), (ta5, .inl (2, 108, .inl X.2.2.2.1)), (ta6, .inl (0, 108, .inl (fun k => nI (X.2.2.2.2 k))))]) 1 6 := by
  refine z_of (by decide) rfl (Nat.le_of_ble_eq_true rfl) (fun w0 => ?_)
  refine r_lvE (lv2 := [(0, .ref a), (1, .int kd), (2, .int (nI x)), (3, .int (nI y)), (4, .int (nI u)), (5, .int (nI v))]) rfl ?_
  refine r_ldcS (own := "Ironpour") (i := 0) (by decide) d_Ip_draw_0 ?_
  refine r_iload_n d_Ip_draw_2 rfl 1 rfl ?_
  refine r_callVS (As := [.int kd]) (rest := []) (csC := []) (is := []) (i := 0) (by first | assumption | decide) rfl ln_Ip_83 w_im_String_indexOf_0 w_se_String_indexOf_0 ok_Ip_draw_String_indexOf_0 d_Ip_draw_3 (C_St_indexOf g 0 (by decide) kd) rfl rfl (Nat.le_of_ble_eq_true rfl) rfl (by decide) (by omega) (by omega) (fun E cs1 hx => ?_) (fun v cs1 hx => ?_)
  · exact absurd hx.1 (by simp)
  · obtain ⟨e1, rfl⟩ := hx
    cases e1
    refine ⟨rfl, ?_⟩
    refine r_st (st2 := [.int (z_ix 0 kd)]) rfl ?_
    refine r_cs (cs2 := [(a, .inr (11, [.ref pa, .ref ta, .ref sa, .ref gs, .ref co, .ref fu, .ref la, .ref gy, .ref du, .ref re, .ref wm, .ref ac])), (pa, .inr (8, [.ref pa1, .ref pa2, .ref pa3, .int (nI p)])), (pa1, .inl (1, 108, .inl f)), (pa2, .inl (2, 108, .inl sn)), (pa3, .inl (0, 108, .inl (fun k => nI (qn k)))), (ta, .inr (10, [.ref ta1, .ref ta2, .ref taz, .ref ta4, .ref ta5, .ref ta6, .int X.1.2.2.1, .int X.1.2.2.2])), (ta1, .inl (1, 108, .inl X.1.1)), (ta2, .inl (0, 108, .inl X.1.2.1)), (taz, .inr (2, [.ref taz1, .ref taz2, .ref taz3, .ref taz4, .ref taz5, .ref taz6, .int X.2.1.1.1.2.2.2])), (taz1, .inl (0, 108, .inl X.2.1.1.1.1)), (taz2, .inl (0, 108, .inl X.2.1.1.2)), (taz3, .inl (0, 108, .inl X.2.1.1.1.2.1)), (taz4, .inl (0, 108, .inl X.2.1.1.1.2.2.1)), (taz5, .inl (0, 108, .inl X.2.1.2.1)), (taz6, .inl (0, 108, .inl X.2.1.2.2)), (ta4, .inl (2, 108, .inl X.2.2.1)), (ta5, .inl (2, 108, .inl X.2.2.2.1)), (ta6, .inl (0, 108, .inl (fun k => nI (X.2.2.2.2 k))))]) rfl ?_
    refine r_if_ge (tgt := 19) d_Ip_draw_6 (by decide) (fun c_6 => ?_) (fun c_6 => ?_)
    · refine r_iload_n d_Ip_draw_19 rfl 2 rfl ?_
      refine r_iload_n d_Ip_draw_20 rfl 3 rfl ?_
      refine r_callS (As := [.int (nI x), .int (nI y)]) (rest := []) (csC := []) (is := []) ln_Ip_96 w_st_Ip_isCell ok_Ip_draw_Ip_isCell d_Ip_draw_21 (C_Ip_isCell g (nI x) (nI y)) rfl rfl (Nat.le_of_ble_eq_true rfl) rfl (by decide) (by omega) (by omega) (fun E cs1 hx => ?_) (fun v cs1 hx => ?_)
      · exact absurd hx.1 (by simp)
      · obtain ⟨e1, rfl⟩ := hx
        cases e1
        refine ⟨rfl, ?_⟩
        refine r_st (st2 := [.int (if 0 ≤ nI x ∧ nI x < 12 ∧ 0 ≤ nI y ∧ nI y < 9 then 1 else 0)]) rfl ?_
        refine r_cs (cs2 := [(a, .inr (11, [.ref pa, .ref ta, .ref sa, .ref gs, .ref co, .ref fu, .ref la, .ref gy, .ref du, .ref re, .ref wm, .ref ac])), (pa, .inr (8, [.ref pa1, .ref pa2, .ref pa3, .int (nI p)])), (pa1, .inl (1, 108, .inl f)), (pa2, .inl (2, 108, .inl sn)), (pa3, .inl (0, 108, .inl (fun k => nI (qn k)))), (ta, .inr (10, [.ref ta1, .ref ta2, .ref taz, .ref ta4, .ref ta5, .ref ta6, .int X.1.2.2.1, .int X.1.2.2.2])), (ta1, .inl (1, 108, .inl X.1.1)), (ta2, .inl (0, 108, .inl X.1.2.1)), (taz, .inr (2, [.ref taz1, .ref taz2, .ref taz3, .ref taz4, .ref taz5, .ref taz6, .int X.2.1.1.1.2.2.2])), (taz1, .inl (0, 108, .inl X.2.1.1.1.1)), (taz2, .inl (0, 108, .inl X.2.1.1.2)), (taz3, .inl (0, 108, .inl X.2.1.1.1.2.1)), (taz4, .inl (0, 108, .inl X.2.1.1.1.2.2.1)), (taz5, .inl (0, 108, .inl X.2.1.2.1)), (taz6, .inl (0, 108, .inl X.2.1.2.2)), (ta4, .inl (2, 108, .inl X.2.2.1)), (ta5, .inl (2, 108, .inl X.2.2.2.1)), (ta6, .inl (0, 108, .inl (fun k => nI (X.2.2.2.2 k))))]) rfl ?_
        refine r_if_eq (tgt := 57) d_Ip_draw_24 (by decide) (fun c_24 => ?_) (fun c_24 => ?_)
        · exact absurd (z_cellN (by omega) (by omega)) (z_b0 c_24)
        · refine r_iload d_Ip_draw_27 4 rfl ?_
          refine r_iconst d_Ip_draw_29 (v := 1) (by decide) ?_
          refine r_icmp_lt (tgt := 57) d_Ip_draw_30 (by decide) (fun c_30 => ?_) (fun c_30 => ?_)
          · exact absurd (z_lt (b := 1) (by decide) (by omega) c_30) (by omega)
          · refine r_iload d_Ip_draw_33 4 rfl ?_
            refine r_bipush d_Ip_draw_35 (v := 12) (by decide) ?_
            refine r_iload_n d_Ip_draw_37 rfl 2 rfl ?_
            refine r_isub d_Ip_draw_38 (v := nI (12 - x)) (pk_sub (a := 12) (by omega)) ?_
            refine r_icmp_gt (tgt := 57) d_Ip_draw_39 (by decide) (fun c_39 => ?_) (fun c_39 => ?_)
            · exact absurd (z_lt (by omega) (by omega) c_39) (by omega)
            · refine r_iload d_Ip_draw_42 5 rfl ?_
              refine r_iconst d_Ip_draw_44 (v := 1) (by decide) ?_
              refine r_icmp_lt (tgt := 57) d_Ip_draw_45 (by decide) (fun c_45 => ?_) (fun c_45 => ?_)
              · exact absurd (z_lt (b := 1) (by decide) (by omega) c_45) (by omega)
              · refine r_iload d_Ip_draw_48 5 rfl ?_
                refine r_bipush d_Ip_draw_50 (v := 9) (by decide) ?_
                refine r_iload_n d_Ip_draw_52 rfl 3 rfl ?_
                refine r_isub d_Ip_draw_53 (v := nI (9 - y)) (pk_sub (a := 9) (by omega)) ?_
                refine r_icmp_le (tgt := 67) d_Ip_draw_54 (by decide) (fun c_54 => ?_) (fun c_54 => ?_)
                · refine r_aload_n d_Ip_draw_67 rfl 0 rfl ?_
                  refine r_get fs_Ip_10 d_Ip_draw_68 (q0 := 0) rfl rfl ?_
                  refine r_iload_n d_Ip_draw_71 rfl 1 rfl ?_
                  refine r_iload_n d_Ip_draw_72 rfl 2 rfl ?_
                  refine r_iload_n d_Ip_draw_73 rfl 3 rfl ?_
                  refine r_iload d_Ip_draw_74 4 rfl ?_
                  refine r_iload d_Ip_draw_76 5 rfl ?_
                  refine r_callV (As := [.int kd, .int (nI x), .int (nI y), .int (nI u), .int (nI v)]) (rest := []) (csC := [(pa, .inr (8, [.ref pa1, .ref pa2, .ref pa3, .int (nI p)])), (pa1, .inl (1, 108, .inl f)), (pa2, .inl (2, 108, .inl sn)), (pa3, .inl (0, 108, .inl (fun k => nI (qn k))))]) (is := [1, 2, 3, 4]) (q0 := 1) rfl rfl ln_Ip_102 w_im_Pa_paint w_se_Pa_paint ok_Ip_draw_Pa_paint d_Ip_draw_78 (C_Pa_paint g pa pa1 pa2 pa3 f sn (fun k => nI (qn k)) (nI p) kd hk x y u v hx hy) rfl rfl (Nat.le_of_ble_eq_true rfl) rfl (by decide) (by omega) (by omega) (fun E cs1 hx => ?_) (fun v cs1 hx => ?_)
                  · exact absurd hx.1 (by simp)
                  · obtain ⟨e1, rfl⟩ := hx
                    cases e1
                    refine ⟨rfl, ?_⟩
                    refine r_st (st2 := [.int (nI (prect kd x y u (f, 0) v).2)]) rfl ?_
                    refine r_cs (cs2 := [(a, .inr (11, [.ref pa, .ref ta, .ref sa, .ref gs, .ref co, .ref fu, .ref la, .ref gy, .ref du, .ref re, .ref wm, .ref ac])), (pa, .inr (8, [.ref pa1, .ref pa2, .ref pa3, .int (nI p)])), (pa1, .inl (1, 108, .inl ((prect kd x y u (f, 0) v).1))), (pa2, .inl (2, 108, .inl sn)), (pa3, .inl (0, 108, .inl (fun k => nI (qn k)))), (ta, .inr (10, [.ref ta1, .ref ta2, .ref taz, .ref ta4, .ref ta5, .ref ta6, .int X.1.2.2.1, .int X.1.2.2.2])), (ta1, .inl (1, 108, .inl X.1.1)), (ta2, .inl (0, 108, .inl X.1.2.1)), (taz, .inr (2, [.ref taz1, .ref taz2, .ref taz3, .ref taz4, .ref taz5, .ref taz6, .int X.2.1.1.1.2.2.2])), (taz1, .inl (0, 108, .inl X.2.1.1.1.1)), (taz2, .inl (0, 108, .inl X.2.1.1.2)), (taz3, .inl (0, 108, .inl X.2.1.1.1.2.1)), (taz4, .inl (0, 108, .inl X.2.1.1.1.2.2.1)), (taz5, .inl (0, 108, .inl X.2.1.2.1)), (taz6, .inl (0, 108, .inl X.2.1.2.2)), (ta4, .inl (2, 108, .inl X.2.2.1)), (ta5, .inl (2, 108, .inl X.2.2.2.1)), (ta6, .inl (0, 108, .inl (fun k => nI (X.2.2.2.2 k))))]) rfl ?_
                    refine r_istore (lv' := [(6, .int (nI (prect kd x y u (f, 0) v).2)), (0, .ref a), (1, .int kd), (2, .int (nI x)), (3, .int (nI y)), (4, .int (nI u)), (5, .int (nI v))]) d_Ip_draw_81 (by decide) rfl ?_
                    refine r_iload d_Ip_draw_83 0 rfl ?_
                    refine r_if_le (tgt := 102) d_Ip_draw_85 (by decide) (fun c_85 => ?_) (fun c_85 => ?_)
                    · refine r_iload d_Ip_draw_102 0 rfl ?_
                      refine r_iret d_Ip_draw_104 rfl rfl ?_
                      exact ⟨rfl, rfl⟩
                    · exact absurd (by rw [hz]; decide) c_85
                · exact absurd (z_nle (by omega) (by omega) c_54) (by omega)
    · exact absurd hki c_6
theorem d_Ip_draw_88 : decode prog_1_method_2_code 88 = .ok (.aload_n 0, 1) := zo_42 (zd_b zq_prog_1_method_2_code_2 24 rfl rfl rfl)
theorem d_Ip_draw_89 : decode prog_1_method_2_code 89 = .ok (.getfield 19, 3) := zo_180 (d := 0) (e := 19) (zd_b zq_prog_1_method_2_code_2 25 rfl rfl rfl) (zd_b zq_prog_1_method_2_code_2 26 rfl rfl rfl) (zd_b zq_prog_1_method_2_code_2 27 rfl rfl rfl)
theorem d_Ip_draw_92 : decode prog_1_method_2_code 92 = .ok (.aload_n 0, 1) := zo_42 (zd_b zq_prog_1_method_2_code_2 28 rfl rfl rfl)
theorem d_Ip_draw_93 : decode prog_1_method_2_code 93 = .ok (.getfield 10, 3) := zo_180 (d := 0) (e := 10) (zd_b zq_prog_1_method_2_code_2 29 rfl rfl rfl) (zd_b zq_prog_1_method_2_code_2 30 rfl rfl rfl) (zd_b zq_prog_1_method_2_code_2 31 rfl rfl rfl)
theorem d_Ip_draw_96 : decode prog_1_method_2_code 96 = .ok (.getfield 106, 3) := zo_180 (d := 0) (e := 106) (zd_b zq_prog_1_method_2_code_3 0 rfl rfl rfl) (zd_b zq_prog_1_method_2_code_3 1 rfl rfl rfl) (zd_b zq_prog_1_method_2_code_3 2 rfl rfl rfl)
theorem d_Ip_draw_99 : decode prog_1_method_2_code 99 = .ok (.invokevirtual 110, 3) := zo_182 (d := 0) (e := 110) (zd_b zq_prog_1_method_2_code_3 3 rfl rfl rfl) (zd_b zq_prog_1_method_2_code_3 4 rfl rfl rfl) (zd_b zq_prog_1_method_2_code_3 5 rfl rfl rfl)
theorem ok_Ip_draw_Tr_take : z_ok M_Ip_draw M_Tr_take 1 := ⟨z_mj3 (i := 225) rfl (by decide +kernel), rfl, ⟨by decide +kernel, by decide +kernel, by decide +kernel⟩, ⟨by decide, by decide⟩, z_mj1 (i := 3) rfl (by decide +kernel), rfl⟩
theorem ln_Ip_110 : Cond.methodLink "Ironpour" 110 M_Tr_take.1 ∈ z_gw := z_mj3 (i := 222) rfl (by decide +kernel)
theorem w_im_Tr_take : Cond.instanceMethod M_Tr_take.1 ∈ z_gw := z_mj3 (i := 223) rfl (by decide +kernel)
theorem w_se_Tr_take : Cond.selects M_Tr_take.1.cls M_Tr_take.1 M_Tr_take.1 ∈ z_gw := z_mj3 (i := 224) rfl (by decide +kernel)
