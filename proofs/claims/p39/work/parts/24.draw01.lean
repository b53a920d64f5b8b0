set_option maxHeartbeats 4000000 in
set_option maxRecDepth 100000 in
theorem C_Ip_drawN (g : zG) (a pa ta sa gs co fu la gy du re wm ac : Nat) (pa1 pa2 pa3 : Nat) (f sn : Nat → Int32) (qn : Nat → Nat) (p : Nat) (ta1 ta2 taz taz1 taz2 taz3 taz4 taz5 taz6 ta4 ta5 ta6 : Nat) (X : zTr) (kd : Int32) (hk : z_kind kd) (hki : 0 ≤ z_ix 0 kd) (x y u v : Nat) (hx : x + u ≤ 12) (hy : y + v ≤ 9) (hu : 1 ≤ u) (hv : 1 ≤ v) (hz : ¬ (prect kd x y u (f, 0) v).2 = 0) (hf : z_ch (prect kd x y u (f, 0) v).1) : CT g M_Ip_draw [.ref a, .int kd, .int (nI x), .int (nI y), .int (nI u), .int (nI v)] [(a, .inr (11, [.ref pa, .ref ta, .ref sa, .ref gs, .ref co, .ref fu, .ref la, .ref gy, .ref du, .ref re, .ref wm, .ref ac])), (pa, .inr (8, [.ref pa1, .ref pa2, .ref pa3, .int (nI p)])), (pa1, .inl (1, 108, .inl f)), (pa2, .inl (2, 108, .inl sn)), (pa3, .inl (0, 108, .inl (fun k => nI (qn k)))), (ta, .inr (10, [.ref ta1, .ref ta2, .ref taz, .ref ta4, .ref ta5, .ref ta6, .int X.1.2.2.1, .int X.1.2.2.2])), (ta1, .inl (1, 108, .inl X.1.1)), (ta2, .inl (0, 108, .inl X.1.2.1)), (taz, .inr (2, [.ref taz1, .ref taz2, .ref taz3, .ref taz4, .ref taz5, .ref taz6, .int X.2.1.1.1.2.2.2])), (taz1, .inl (0, 108, .inl X.2.1.1.1.1)), (taz2, .inl (0, 108, .inl X.2.1.1.2)), (taz3, .inl (0, 108, .inl X.2.1.1.1.2.1)), (taz4, .inl (0, 108, .inl X.2.1.1.1.2.2.1)), (taz5, .inl (0, 108, .inl X.2.1.2.1)), (taz6, .inl (0, 108, .inl X.2.1.2.2)), (ta4, .inl (2, 108, .inl X.2.2.1)), (ta5, .inl (2, 108, .inl X.2.2.2.1)), (ta6, .inl (0, 108, .inl (fun k => nI (X.2.2.2.2 k))))] (fun o cs1 => o = .inl (some (.int (nI (prect kd x y u (f, 0) v).2))) ∧ cs1 = [(a, .inr (11, [.ref pa, .ref ta, .ref sa, .ref gs, .ref co, .ref fu, .ref la, .ref gy, .ref du, .ref re, .ref wm, .ref ac])), (pa, .inr (8, [.ref pa1, .ref pa2, .ref pa3, .int (nI p)])), (pa1, .inl (1, 108, .inl ((prect kd x y u (f, 0) v).1))), (pa2, .inl (2, 108, .inl sn)), (pa3, .inl (0, 108, .inl (fun k => nI (qn k)))), (ta, .inr (10, [.ref ta1, .ref ta2, .ref taz, .ref ta4, .ref ta5, .ref ta6, .int ((tkT (prect kd x y u (f, 0) v).1 X).1.2.2.1), .int ((tkT (prect kd x y u (f, 0) v).1 X).1.2.2.2)])), (ta1, .inl (1, 108, .inl ((tkT (prect kd x y u (f, 0) v).1 X).1.1))), (ta2, .inl (0, 108, .inl ((tkT (prect kd x y u (f, 0) v).1 X).1.2.1))), (taz, .inr (2, [.ref taz1, .ref taz2, .ref taz3, .ref taz4, .ref taz5, .ref taz6, .int ((tkT (prect kd x y u (f, 0) v).1 X).2.1.1.1.2.2.2)])), (taz1, .inl (0, 108, .inl ((tkT (prect kd x y u (f, 0) v).1 X).2.1.1.1.1))), (taz2, .inl (0, 108, .inl ((tkT (prect kd x y u (f, 0) v).1 X).2.1.1.2))), (taz3, .inl (0, 108, .inl ((tkT (prect kd x y u (f, 0) v).1 X).2.1.1.1.2.1))), (taz4, .inl (0, 108, .inl ((tkT (prect kd x y u (f, 0) v).1 X).2.1.1.1.2.2.1))), (taz5, .inl (0, 108, .inl ((tkT (prect kd x y u (f, 0) v).1 X).2.1.2.1))), (taz6, .inl (0, 108, .inl ((tkT (prect kd x y u (f, 0) v).1 X).2.1.2.2))), (ta4, .inl (2, 108, .inl ((tkT (prect kd x y u (f, 0) v).1 X).2.2.1))), (ta5, .inl (2, 108, .inl ((tkT (prect kd x y u (f, 0) v).1 X).2.2.2.1))), (ta6, .inl (0, 108, .inl (fun k => nI ((tkT (prect kd x y u (f, 0) v).1 X).2.2.2.2 k))))]) 1 6 := by
  refine z_of (by decide) rfl (Nat.le_of_ble_eq_true rfl) (fun w0 => ?_)
  refine r_lvE (lv2 := [(0, .ref a), (1, .int kd), (2, .int (nI x)), (3, .int (nI y)), (4, .int (nI u)), (5, .int (nI v))]) rfl ?_
  have hle := prect_le kd x y u (f, 0) v
  have hle2 : v * u ≤ 9 * 12 := Nat.mul_le_mul (by omega) (by omega)
  have hle3 : (prect kd x y u (f, 0) v).2 ≤ 0 + v * u := hle
  refine r_ldcS (own := "Ironpour") (i := 0) (by decide) d_Ip_draw_0 ?_
  refine r_iload_n d_Ip_draw_2 rfl 1 rfl ?_
  refine r_callVS (As := [.int kd]) (rest := []) (csC := []) (is := []) (i := 0) (by first | assumption | decide) rfl ln_Ip_83 w_im_String_indexOf_0 w_se_String_indexOf_0 ok_Ip_draw_String_indexOf_0 d_Ip_draw_3 (C_St_indexOf g 0 (by decide) kd) rfl rfl (Nat.le_of_ble_eq_true rfl) rfl (by decide) (by omega) (by omega) (fun E cs1 hx => ?_) (fun v cs1 hx => ?_)
  · exact absurd hx.1 (by simp)
  · obtain ⟨e1, rfl⟩ := hx
    cases e1
    refine ⟨rfl, ?_⟩
    refine r_st (st2 := [.int (z_ix 0 kd)]) rfl ?_
    refine r_cs (cs2 := [(a, .inr (11, [.ref pa, .ref ta, .ref sa, .ref gs, .ref co, .ref fu, .ref la, .ref gy, .ref du, .ref re, .ref wm, .ref ac])), (pa, .inr (8, [.ref pa1, .ref pa2, .ref pa3, .int (nI p)])), (pa1, .inl (1, 108, .inl f)), (pa2, .inl (2, 108, .inl sn)), (pa3, .inl (0, 108, .inl (fun k => nI (qn k)))), (ta, .inr (10, [.ref ta1, .ref ta2, .ref taz, .ref ta4, .ref ta5, .ref ta6, .int X.1.2.2.1, .int X.1.2.2.2])), (ta1, .inl (1, 108, .inl X.1.1)), (ta2, .inl (0, 108, .inl X.1.2.1)), (taz, .inr (2, [.ref taz1, .ref taz2, .ref taz3, .ref taz4, .ref taz5, .ref taz6, .int X.2.1.1.1.2.2.2])), (taz1, .inl (0, 108, .inl X.2.1.1.1.1)), (taz2, .inl (0, 108, .inl X.2.1.1.2)), (taz3, .inl (0, 108, .inl X.2.1.1.1.2.1)), (taz4, .inl (0, 108, .inl X.2.1.1.1.2.2.1)), (taz5, .inl (0, 108, .inl X.2.1.2.1)), (taz6, .inl (0, 108, .inl X.2.1.2.2)), (ta4, .inl (2, 108, .inl X.2.2.1)), (ta5, .inl (2, 108, .inl X.2.2.2.1)), (ta6, .inl (0, 108, .inl (fun k => nI (X.2.2.2.2 k))))]) rfl ?_
    refine r_if_ge (tgt := 19) d_Ip_draw_6 (by decide) (fun c_6 => ?_) (fun c_6 => ?_)
    · refine r_iload_n d_Ip_draw_19 rfl 2 rfl ?_
      refine r_iload_n d_Ip_draw_20 rfl 3 rfl ?_
      refine r_callS (As := [.int (nI x), .int (nI y)]) (rest := []) (csC := []) (is := []) ln_Ip_96 w_st_Ip_isCell ok_Ip_draw_Ip_isCell d_Ip_draw_21 (C_Ip_isCell g (nI x) (nI y)) rfl rfl (Nat.le_of_ble_eq_true rfl) rfl (by decide) (by omega) (by omega) (fun E cs1 hx => ?_) (fun v cs1 hx => ?_)
      · exact absurd hx.1 (by simp)
      · obtain ⟨e1, rfl⟩ := hx
        cases e1
        refine ⟨rfl, ?_⟩
        refine r_st (st2 := [.int (if 0 ≤ nI x ∧ nI x < 12 ∧ 0 ≤ nI y ∧ nI y < 9 then 1 else 0)]) rfl ?_
        refine r_cs (cs2 := [(a, .inr (11, [.ref pa, .ref ta, .ref sa, .ref gs, .ref co, .ref fu, .ref la, .ref gy, .ref du, .ref re, .ref wm, .ref ac])), (pa, .inr (8, [.ref pa1, .ref pa2, .ref pa3, .int (nI p)])), (pa1, .inl (1, 108, .inl f)), (pa2, .inl (2, 108, .inl sn)), (pa3, .inl (0, 108, .inl (fun k => nI (qn k)))), (ta, .inr (10, [.ref ta1, .ref ta2, .ref taz, .ref ta4, .ref ta5, .ref ta6, .int X.1.2.2.1, .int X.1.2.2.2])), (ta1, .inl (1, 108, .inl X.1.1)), (ta2, .inl (0, 108, .inl X.1.2.1)), (taz, .inr (2, [.ref taz1, .ref taz2, .ref taz3, .ref taz4, .ref taz5, .ref taz6, .int X.2.1.1.1.2.2.2])), (taz1, .inl (0, 108, .inl X.2.1.1.1.1)), (taz2, .inl (0, 108, .inl X.2.1.1.2)), (taz3, .inl (0, 108, .inl X.2.1.1.1.2.1)), (taz4, .inl (0, 108, .inl X.2.1.1.1.2.2.1)), (taz5, .inl (0, 108, .inl X.2.1.2.1)), (taz6, .inl (0, 108, .inl X.2.1.2.2)), (ta4, .inl (2, 108, .inl X.2.2.1)), (ta5, .inl (2, 108, .inl X.2.2.2.1)), (ta6, .inl (0, 108, .inl (fun k => nI (X.2.2.2.2 k))))]) rfl ?_
        refine r_if_eq (tgt := 57) d_Ip_draw_24 (by decide) (fun c_24 => ?_) (fun c_24 => ?_)
        · exact absurd (z_cellN (by omega) (by omega)) (z_b0 c_24)
        · refine r_iload d_Ip_draw_27 4 rfl ?_
          refine r_iconst d_Ip_draw_29 (v := 1) (by decide) ?_
          refine r_icmp_lt (tgt := 57) d_Ip_draw_30 (by decide) (fun c_30 => ?_) (fun c_30 => ?_)
          · exact absurd (z_lt (b := 1) (by decide) (by omega) c_30) (by omega)
          · refine r_iload d_Ip_draw_33 4 rfl ?_
            refine r_bipush d_Ip_draw_35 (v := 12) (by decide) ?_
            refine r_iload_n d_Ip_draw_37 rfl 2 rfl ?_
            refine r_isub d_Ip_draw_38 (v := nI (12 - x)) (pk_sub (a := 12) (by omega)) ?_
            refine r_icmp_gt (tgt := 57) d_Ip_draw_39 (by decide) (fun c_39 => ?_) (fun c_39 => ?_)
            · exact absurd (z_lt (by omega) (by omega) c_39) (by omega)
            · refine r_iload d_Ip_draw_42 5 rfl ?_
              refine r_iconst d_Ip_draw_44 (v := 1) (by decide) ?_
              refine r_icmp_lt (tgt := 57) d_Ip_draw_45 (by decide) (fun c_45 => ?_) (fun c_45 => ?_)
              · exact absurd (z_lt (b := 1) (by decide) (by omega) c_45) (by omega)
              · refine r_iload d_Ip_draw_48 5 rfl ?_
                refine r_bipush d_Ip_draw_50 (v := 9) (by decide) ?_
                refine r_iload_n d_Ip_draw_52 rfl 3 rfl ?_
                refine r_isub d_Ip_draw_53 (v := nI (9 - y)) (pk_sub (a := 9) (by omega)) ?_
                refine r_icmp_le (tgt := 67) d_Ip_draw_54 (by decide) (fun c_54 => ?_) (fun c_54 => ?_)
                · refine r_aload_n d_Ip_draw_67 rfl 0 rfl ?_
                  refine r_get fs_Ip_10 d_Ip_draw_68 (q0 := 0) rfl rfl ?_
                  refine r_iload_n d_Ip_draw_71 rfl 1 rfl ?_
                  refine r_iload_n d_Ip_draw_72 rfl 2 rfl ?_
                  refine r_iload_n d_Ip_draw_73 rfl 3 rfl ?_
                  refine r_iload d_Ip_draw_74 4 rfl ?_
                  refine r_iload d_Ip_draw_76 5 rfl ?_
                  refine r_callV (As := [.int kd, .int (nI x), .int (nI y), .int (nI u), .int (nI v)]) (rest := []) (csC := [(pa, .inr (8, [.ref pa1, .ref pa2, .ref pa3, .int (nI p)])), (pa1, .inl (1, 108, .inl f)), (pa2, .inl (2, 108, .inl sn)), (pa3, .inl (0, 108, .inl (fun k => nI (qn k))))]) (is := [1, 2, 3, 4]) (q0 := 1) rfl rfl ln_Ip_102 w_im_Pa_paint w_se_Pa_paint ok_Ip_draw_Pa_paint d_Ip_draw_78 (C_Pa_paint g pa pa1 pa2 pa3 f sn (fun k => nI (qn k)) (nI p) kd hk x y u v hx hy) rfl rfl (Nat.le_of_ble_eq_true rfl) rfl (by decide) (by omega) (by omega) (fun E cs1 hx => ?_) (fun v cs1 hx => ?_)
                  · exact absurd hx.1 (by simp)
                  · obtain ⟨e1, rfl⟩ := hx
                    cases e1
                    refine ⟨rfl, ?_⟩
                    refine r_st (st2 := [.int (nI (prect kd x y u (f, 0) v).2)]) rfl ?_
                    refine r_cs (cs2 := [(a, .inr (11, [.ref pa, .ref ta, .ref sa, .ref gs, .ref co, .ref fu, .ref la, .ref gy, .ref du, .ref re, .ref wm, .ref ac])), (pa, .inr (8, [.ref pa1, .ref pa2, .ref pa3, .int (nI p)])), (pa1, .inl (1, 108, .inl ((prect kd x y u (f, 0) v).1))), (pa2, .inl (2, 108, .inl sn)), (pa3, .inl (0, 108, .inl (fun k => nI (qn k)))), (ta, .inr (10, [.ref ta1, .ref ta2, .ref taz, .ref ta4, .ref ta5, .ref ta6, .int X.1.2.2.1, .int X.1.2.2.2])), (ta1, .inl (1, 108, .inl X.1.1)), (ta2, .inl (0, 108, .inl X.1.2.1)), (taz, .inr (2, [.ref taz1, .ref taz2, .ref taz3, .ref taz4, .ref taz5, .ref taz6, .int X.2.1.1.1.2.2.2])), (taz1, .inl (0, 108, .inl X.2.1.1.1.1)), (taz2, .inl (0, 108, .inl X.2.1.1.2)), (taz3, .inl (0, 108, .inl X.2.1.1.1.2.1)), (taz4, .inl (0, 108, .inl X.2.1.1.1.2.2.1)), (taz5, .inl (0, 108, .inl X.2.1.2.1)), (taz6, .inl (0, 108, .inl X.2.1.2.2)), (ta4, .inl (2, 108, .inl X.2.2.1)), (ta5, .inl (2, 108, .inl X.2.2.2.1)), (ta6, .inl (0, 108, .inl (fun k => nI (X.2.2.2.2 k))))]) rfl ?_
                    refine r_istore (lv' := [(6, .int (nI (prect kd x y u (f, 0) v).2)), (0, .ref a), (1, .int kd), (2, .int (nI x)), (3, .int (nI y)), (4, .int (nI u)), (5, .int (nI v))]) d_Ip_draw_81 (by decide) rfl ?_
                    refine r_iload d_Ip_draw_83 0 rfl ?_
                    refine r_if_le (tgt := 102) d_Ip_draw_85 (by decide) (fun c_85 => ?_) (fun c_85 => ?_)
                    · exact absurd (Nat.le_zero.mp (z_le (b := 0) (by decide) (by omega) c_85)) hz
                    · refine r_aload_n d_Ip_draw_88 rfl 1 rfl ?_
                      refine r_get fs_Ip_19 d_Ip_draw_89 (q0 := 0) rfl rfl ?_
                      refine r_aload_n d_Ip_draw_92 rfl 1 rfl ?_
                      refine r_get fs_Ip_10 d_Ip_draw_93 (q0 := 0) rfl rfl ?_
                      refine r_get fs_Ip_106 d_Ip_draw_96 (q0 := 1) rfl rfl ?_
                      refine r_callV (As := [.ref pa1]) (rest := []) (csC := [(ta, .inr (10, [.ref ta1, .ref ta2, .ref taz, .ref ta4, .ref ta5, .ref ta6, .int X.1.2.2.1, .int X.1.2.2.2])), (ta1, .inl (1, 108, .inl X.1.1)), (pa1, .inl (1, 108, .inl ((prect kd x y u (f, 0) v).1)))]) (is := [5, 6, 2]) (q0 := 5) rfl rfl ln_Ip_110 w_im_Tr_take w_se_Tr_take ok_Ip_draw_Tr_take d_Ip_draw_99 (C_Tr_take g ta ta1 ta2 taz ta4 ta5 ta6 X.1.2.2.1 X.1.2.2.2 pa1 (prect kd x y u (f, 0) v).1 X.1.1 hf) rfl rfl (Nat.le_of_ble_eq_true rfl) rfl (by decide) (by omega) (by omega) (fun E cs1 hx => ?_) (fun v cs1 hx => ?_)
                      · exact absurd hx.1 (by simp)
                      · obtain ⟨e1, rfl⟩ := hx
                        cases e1
                        refine ⟨rfl, ?_⟩
                        refine r_st (st2 := []) rfl ?_
                        refine r_cs (cs2 := [(a, .inr (11, [.ref pa, .ref ta, .ref sa, .ref gs, .ref co, .ref fu, .ref la, .ref gy, .ref du, .ref re, .ref wm, .ref ac])), (pa, .inr (8, [.ref pa1, .ref pa2, .ref pa3, .int (nI p)])), (pa1, .inl (1, 108, .inl ((prect kd x y u (f, 0) v).1))), (pa2, .inl (2, 108, .inl sn)), (pa3, .inl (0, 108, .inl (fun k => nI (qn k)))), (ta, .inr (10, [.ref ta1, .ref ta2, .ref taz, .ref ta4, .ref ta5, .ref ta6, .int ((tkT (prect kd x y u (f, 0) v).1 X).1.2.2.1), .int ((tkT (prect kd x y u (f, 0) v).1 X).1.2.2.2)])), (ta1, .inl (1, 108, .inl ((tkT (prect kd x y u (f, 0) v).1 X).1.1))), (ta2, .inl (0, 108, .inl X.1.2.1)), (taz, .inr (2, [.ref taz1, .ref taz2, .ref taz3, .ref taz4, .ref taz5, .ref taz6, .int X.2.1.1.1.2.2.2])), (taz1, .inl (0, 108, .inl X.2.1.1.1.1)), (taz2, .inl (0, 108, .inl X.2.1.1.2)), (taz3, .inl (0, 108, .inl X.2.1.1.1.2.1)), (taz4, .inl (0, 108, .inl X.2.1.1.1.2.2.1)), (taz5, .inl (0, 108, .inl X.2.1.2.1)), (taz6, .inl (0, 108, .inl X.2.1.2.2)), (ta4, .inl (2, 108, .inl X.2.2.1)), (ta5, .inl (2, 108, .inl X.2.2.2.1)), (ta6, .inl (0, 108, .inl (fun k => nI (X.2.2.2.2 k))))]) rfl ?_
                        refine r_iload d_Ip_draw_102 0 rfl ?_
                        refine r_iret d_Ip_draw_104 rfl rfl ?_
                        exact ⟨rfl, rfl⟩
                · exact absurd (z_nle (by omega) (by omega) c_54) (by omega)
    · exact absurd hki c_6

