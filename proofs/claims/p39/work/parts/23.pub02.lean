set_option maxHeartbeats 4000000 in
set_option maxRecDepth 100000 in
theorem C_Ip_drawE (g : zG) (a pa ta sa gs co fu la gy du re wm ac : Nat) (pa1 pa2 pa3 : Nat) (f sn : Nat → Int32) (qn : Nat → Nat) (p : Nat) (k x y w v : Int32) (hd : ¬ (0 ≤ z_ix 0 k ∧ (0 ≤ x ∧ x < 12 ∧ 0 ≤ y ∧ y < 9) ∧ 1 ≤ w ∧ w ≤ 12 - x ∧ 1 ≤ v ∧ v ≤ 9 - y)) : CT g M_Ip_draw [.ref a, .int k, .int x, .int y, .int w, .int v] [(a, .inr (11, [.ref pa, .ref ta, .ref sa, .ref gs, .ref co, .ref fu, .ref la, .ref gy, .ref du, .ref re, .ref wm, .ref ac])), (pa, .inr (8, [.ref pa1, .ref pa2, .ref pa3, .int (nI p)])), (pa1, .inl (1, 108, .inl f)), (pa2, .inl (2, 108, .inl sn)), (pa3, .inl (0, 108, .inl (fun k => nI (qn k))))] (fun o cs1 => o = .inr "java/lang/IllegalArgumentException" ∧ cs1 = [(a, .inr (11, [.ref pa, .ref ta, .ref sa, .ref gs, .ref co, .ref fu, .ref la, .ref gy, .ref du, .ref re, .ref wm, .ref ac])), (pa, .inr (8, [.ref pa1, .ref pa2, .ref pa3, .int (nI p)])), (pa1, .inl (1, 108, .inl f)), (pa2, .inl (2, 108, .inl sn)), (pa3, .inl (0, 108, .inl (fun k => nI (qn k))))]) 1 6 := by
  refine z_of (by decide) rfl (Nat.le_of_ble_eq_true rfl) (fun w0 => ?_)
  refine r_lvE (lv2 := [(0, .ref a), (1, .int k), (2, .int x), (3, .int y), (4, .int w), (5, .int v)]) rfl ?_
  refine r_ldcS (own := "Ironpour") (i := 0) (by decide) d_Ip_draw_0 ?_
  refine r_iload_n d_Ip_draw_2 rfl 1 rfl ?_
  refine r_callVS (As := [.int k]) (rest := []) (csC := []) (is := []) (i := 0) (by first | assumption | decide) rfl ln_Ip_83 w_im_String_indexOf_0 w_se_String_indexOf_0 ok_Ip_draw_String_indexOf_0 d_Ip_draw_3 (C_St_indexOf g 0 (by decide) k) rfl rfl (Nat.le_of_ble_eq_true rfl) rfl (by decide) (by omega) (by omega) (fun E cs1 hx => ?_) (fun v cs1 hx => ?_)
  · exact absurd hx.1 (by simp)
  · obtain ⟨e1, rfl⟩ := hx
    cases e1
    refine ⟨rfl, ?_⟩
    refine r_st (st2 := [.int (z_ix 0 k)]) rfl ?_
    refine r_cs (cs2 := [(a, .inr (11, [.ref pa, .ref ta, .ref sa, .ref gs, .ref co, .ref fu, .ref la, .ref gy, .ref du, .ref re, .ref wm, .ref ac])), (pa, .inr (8, [.ref pa1, .ref pa2, .ref pa3, .int (nI p)])), (pa1, .inl (1, 108, .inl f)), (pa2, .inl (2, 108, .inl sn)), (pa3, .inl (0, 108, .inl (fun k => nI (qn k))))]) rfl ?_
    refine r_if_ge (tgt := 19) d_Ip_draw_6 (by decide) (fun c_6 => ?_) (fun c_6 => ?_)
    · refine r_iload_n d_Ip_draw_19 rfl 2 rfl ?_
      refine r_iload_n d_Ip_draw_20 rfl 3 rfl ?_
      refine r_callS (As := [.int x, .int y]) (rest := []) (csC := []) (is := []) ln_Ip_96 w_st_Ip_isCell ok_Ip_draw_Ip_isCell d_Ip_draw_21 (C_Ip_isCell g x y) rfl rfl (Nat.le_of_ble_eq_true rfl) rfl (by decide) (by omega) (by omega) (fun E cs1 hx => ?_) (fun v cs1 hx => ?_)
      · exact absurd hx.1 (by simp)
      · obtain ⟨e1, rfl⟩ := hx
        cases e1
        refine ⟨rfl, ?_⟩
        refine r_st (st2 := [.int (if 0 ≤ x ∧ x < 12 ∧ 0 ≤ y ∧ y < 9 then 1 else 0)]) rfl ?_
        refine r_cs (cs2 := [(a, .inr (11, [.ref pa, .ref ta, .ref sa, .ref gs, .ref co, .ref fu, .ref la, .ref gy, .ref du, .ref re, .ref wm, .ref ac])), (pa, .inr (8, [.ref pa1, .ref pa2, .ref pa3, .int (nI p)])), (pa1, .inl (1, 108, .inl f)), (pa2, .inl (2, 108, .inl sn)), (pa3, .inl (0, 108, .inl (fun k => nI (qn k))))]) rfl ?_
        refine r_if_eq (tgt := 57) d_Ip_draw_24 (by decide) (fun c_24 => ?_) (fun c_24 => ?_)
        · refine r_throw tb_Ip_89_93 sr_Ip_100 d_Ip_draw_57 d_Ip_draw_60 d_Ip_draw_61 d_Ip_draw_63 d_Ip_draw_66 rfl (by decide) (by decide) (Nat.le_of_ble_eq_true rfl) (by omega) (by omega) ?_
          exact ⟨rfl, rfl⟩
        · refine r_iload d_Ip_draw_27 4 rfl ?_
          refine r_iconst d_Ip_draw_29 (v := 1) (by decide) ?_
          refine r_icmp_lt (tgt := 57) d_Ip_draw_30 (by decide) (fun c_30 => ?_) (fun c_30 => ?_)
          · refine r_throw tb_Ip_89_93 sr_Ip_100 d_Ip_draw_57 d_Ip_draw_60 d_Ip_draw_61 d_Ip_draw_63 d_Ip_draw_66 rfl (by decide) (by decide) (Nat.le_of_ble_eq_true rfl) (by omega) (by omega) ?_
            exact ⟨rfl, rfl⟩
          · refine r_iload d_Ip_draw_33 4 rfl ?_
            refine r_bipush d_Ip_draw_35 (v := 12) (by decide) ?_
            refine r_iload_n d_Ip_draw_37 rfl 2 rfl ?_
            refine r_isub d_Ip_draw_38 (v := 12 - x) rfl ?_
            refine r_icmp_gt (tgt := 57) d_Ip_draw_39 (by decide) (fun c_39 => ?_) (fun c_39 => ?_)
            · refine r_throw tb_Ip_89_93 sr_Ip_100 d_Ip_draw_57 d_Ip_draw_60 d_Ip_draw_61 d_Ip_draw_63 d_Ip_draw_66 rfl (by decide) (by decide) (Nat.le_of_ble_eq_true rfl) (by omega) (by omega) ?_
              exact ⟨rfl, rfl⟩
            · refine r_iload d_Ip_draw_42 5 rfl ?_
              refine r_iconst d_Ip_draw_44 (v := 1) (by decide) ?_
              refine r_icmp_lt (tgt := 57) d_Ip_draw_45 (by decide) (fun c_45 => ?_) (fun c_45 => ?_)
              · refine r_throw tb_Ip_89_93 sr_Ip_100 d_Ip_draw_57 d_Ip_draw_60 d_Ip_draw_61 d_Ip_draw_63 d_Ip_draw_66 rfl (by decide) (by decide) (Nat.le_of_ble_eq_true rfl) (by omega) (by omega) ?_
                exact ⟨rfl, rfl⟩
              · refine r_iload d_Ip_draw_48 5 rfl ?_
                refine r_bipush d_Ip_draw_50 (v := 9) (by decide) ?_
                refine r_iload_n d_Ip_draw_52 rfl 3 rfl ?_
                refine r_isub d_Ip_draw_53 (v := 9 - y) rfl ?_
                refine r_icmp_le (tgt := 67) d_Ip_draw_54 (by decide) (fun c_54 => ?_) (fun c_54 => ?_)
                · exact absurd ⟨c_6, z_b1 c_24, Int32.not_lt.mp c_30, Int32.not_lt.mp c_39, Int32.not_lt.mp c_45, c_54⟩ hd
                · refine r_throw tb_Ip_89_93 sr_Ip_100 d_Ip_draw_57 d_Ip_draw_60 d_Ip_draw_61 d_Ip_draw_63 d_Ip_draw_66 rfl (by decide) (by decide) (Nat.le_of_ble_eq_true rfl) (by omega) (by omega) ?_
                  exact ⟨rfl, rfl⟩
    · refine r_throw tb_Ip_89_93 sr_Ip_91 d_Ip_draw_9 d_Ip_draw_12 d_Ip_draw_13 d_Ip_draw_15 d_Ip_draw_18 rfl (by decide) (by decide) (Nat.le_of_ble_eq_true rfl) (by omega) (by omega) ?_
      exact ⟨rfl, rfl⟩

