theorem i32_a (a b c : Int32) : a - c + (b + c) = a + b := by rw [Int32.add_comm b c, ← Int32.add_assoc, Int32.sub_add_cancel]
theorem i32_c (a c m : Int32) : a + m + (c - m) = a + c := by
  have e : c - m + m = c := Int32.sub_add_cancel c m
  calc a + m + (c - m) = a + (c - m + m) := by ac_rfl
    _ = a + c := by rw [e]
theorem i32_q (X Y go : Int32) : X + (go - (X - Y)) = Y + go := by
  have e1 : X - Y + Y = X := Int32.sub_add_cancel X Y
  have e2 : go - (X - Y) + (X - Y) = go := Int32.sub_add_cancel go (X - Y)
  calc X + (go - (X - Y)) = (X - Y + Y) + (go - (X - Y)) := by rw [e1]
    _ = Y + (go - (X - Y) + (X - Y)) := by ac_rfl
    _ = Y + go := by rw [e2]
theorem hb_in (fu la gy du go m : Int32) : fu + la + gy + du + go + m = fu + m + la + gy + du + go := by ac_rfl
theorem hb_tap (fu la gy du go m : Int32) : fu + la + gy + du + go = fu - m + (la + m) + gy + du + go := by rw [i32_a]
theorem hb_pg (fu la gy du go : Int32) : fu + la + gy + du + go = fu + (la - la) + (gy + la) + du + go := by
  rw [Int32.sub_self, Int32.add_zero]
  ac_rfl
theorem hb_pd (fu la gy du go : Int32) : fu + la + gy + du + go = fu + (la - la) + gy + (du + la) + go := by
  rw [Int32.sub_self, Int32.add_zero]
  ac_rfl
theorem hb_po (fu la x gy du go : Int32) : fu + la + gy + du + go = fu + x + gy + du + (go + (la - x)) := by
  have e : la - x + x = la := Int32.sub_add_cancel la x
  calc fu + la + gy + du + go = fu + (la - x + x) + gy + du + go := by rw [e]
    _ = fu + x + gy + du + (go + (la - x)) := by ac_rfl
theorem hb_br (fu la gy du g2 d2 go : Int32) : fu + la + gy + du + go = fu + la + g2 + d2 + (go - (g2 + d2 - (gy + du))) := by
  have e := i32_q (g2 + d2) (gy + du) go
  calc fu + la + gy + du + go = fu + la + ((gy + du) + go) := by ac_rfl
    _ = fu + la + ((g2 + d2) + (go - (g2 + d2 - (gy + du)))) := by rw [e]
    _ = fu + la + g2 + d2 + (go - (g2 + d2 - (gy + du))) := by ac_rfl
theorem hb_re (fu la gy du go m : Int32) : fu + la + gy + du + go = fu + m + la + (gy - m) + du + go := by
  have e := i32_c fu gy m
  calc fu + la + gy + du + go = (fu + gy) + la + du + go := by ac_rfl
    _ = (fu + m + (gy - m)) + la + du + go := by rw [e]
    _ = fu + m + la + (gy - m) + du + go := by ac_rfl
theorem ne_st {x : Int32} (h : 0 ≤ x.toInt) : ¬ x = -200003 := fun e => by
  rw [e] at h
  exact absurd h (by decide)
theorem le_0 {x : Int32} (h : 0 ≤ x.toInt) (h2 : x ≤ 0) : x = 0 := by
  have h3 := Int32.le_iff_toInt_le.mp h2
  have z0 : (0 : Int32).toInt = 0 := rfl
  rw [z0] at h3
  exact Int32.toInt_inj.mp (by rw [z0]; omega)
theorem pk1 {p m : Nat} (h : p < m) (hm : m < 1000) : 1 ≤ nI (1 + p) ∧ nI (1 + p) ≤ nI m := ⟨(nI_leI (a := 1) (by decide) (by omega)).mpr (by omega), (nI_leI (by omega) (by omega)).mpr (by omega)⟩
theorem B_ch {g : zG} {ad : Nat → Nat} {f : Nat → Int32} {k : Nat} {fu la gy du : Int32} {w : zW} {m : Int32} {p : Nat} (hp : p < 3) (hW : Wq g ad f k fu la gy du w) (hm : 1 ≤ m ∧ m ≤ 600) : zMB g M_Lw_ask [.ref (ad 0), .int 5, .int ((z_by 4).getD p 0), .int m] w (fun o w1 => ∃ v : Int32, o = .inl (some (.int v)) ∧ ((3000 < fu + m ∧ v = -200003 ∧ Wq g ad f k fu la gy du w1) ∨ (¬ 3000 < fu + m ∧ v = fu + m ∧ Wq g ad f k (fu + m) la gy du w1))) 1 6 := by
  have h3 : p = 0 ∨ p = 1 ∨ p = 2 := by omega
  rcases h3 with rfl | rfl | rfl
  · exact B_ch112 hW hm
  · exact B_ch115 hW hm
  · exact B_ch102 hW hm
abbrev M_Lw_isBalanced : zM := (⟨"IronpourLaw", "isBalanced", "(LIronpour;[II)Z"⟩, method_22_code, 20, (Option.some FieldType.boolean), 13, 328, [])
theorem d_Lw_isBalanced_693 : decode method_22_code 693 = .ok (.iload 6, 2) := zo_21 (d := 6) (zd_b zq_method_22_code_21 21 rfl rfl rfl) (zd_b zq_method_22_code_21 22 rfl rfl rfl)
theorem d_Lw_isBalanced_695 : decode method_22_code 695 = .ok (.ifCond .eq 46, 3) := zo_153 (d := 0) (e := 46) (zd_b zq_method_22_code_21 23 rfl rfl rfl) (zd_b zq_method_22_code_21 24 rfl rfl rfl) (zd_b zq_method_22_code_21 25 rfl rfl rfl) (by decide +kernel)
theorem d_Lw_isBalanced_698 : decode method_22_code 698 = .ok (.iload_n 3, 1) := zo_29 (zd_b zq_method_22_code_21 26 rfl rfl rfl)
theorem d_Lw_isBalanced_699 : decode method_22_code 699 = .ok (.iload 4, 2) := zo_21 (d := 4) (zd_b zq_method_22_code_21 27 rfl rfl rfl) (zd_b zq_method_22_code_21 28 rfl rfl rfl)
theorem d_Lw_isBalanced_701 : decode method_22_code 701 = .ok (.aload_n 0, 1) := zo_42 (zd_b zq_method_22_code_21 29 rfl rfl rfl)
theorem d_Lw_isBalanced_702 : decode method_22_code 702 = .ok (.bipush 32, 2) := zo_16 (d := 32) (zd_b zq_method_22_code_21 30 rfl rfl rfl) (zd_b zq_method_22_code_21 31 rfl rfl rfl) (by decide +kernel)
theorem d_Lw_isBalanced_704 : decode method_22_code 704 = .ok (.bipush 119, 2) := zo_16 (d := 119) (zd_b zq_method_22_code_22 0 rfl rfl rfl) (zd_b zq_method_22_code_22 1 rfl rfl rfl) (by decide +kernel)
theorem d_Lw_isBalanced_706 : decode method_22_code 706 = .ok (.iconst 0, 1) := zo_3 (zd_b zq_method_22_code_22 2 rfl rfl rfl)
theorem d_Lw_isBalanced_707 : decode method_22_code 707 = .ok (.invokestatic 193, 3) := zo_184 (d := 0) (e := 193) (zd_b zq_method_22_code_22 3 rfl rfl rfl) (zd_b zq_method_22_code_22 4 rfl rfl rfl) (zd_b zq_method_22_code_22 5 rfl rfl rfl)
theorem ok_Lw_isBalanced_Lw_ask : z_ok M_Lw_isBalanced M_Lw_ask 4 := ⟨z_mj6 (i := 177) rfl (by decide +kernel), rfl, ⟨by decide +kernel, by decide +kernel, by decide +kernel⟩, ⟨by decide, by decide⟩, z_mj1 (i := 0) rfl (by decide +kernel), rfl⟩
theorem d_Lw_isBalanced_710 : decode method_22_code 710 = .ok (.iadd, 1) := zo_96 (zd_b zq_method_22_code_22 6 rfl rfl rfl)
theorem d_Lw_isBalanced_711 : decode method_22_code 711 = .ok (.aload_n 0, 1) := zo_42 (zd_b zq_method_22_code_22 7 rfl rfl rfl)
theorem d_Lw_isBalanced_712 : decode method_22_code 712 = .ok (.bipush 33, 2) := zo_16 (d := 33) (zd_b zq_method_22_code_22 8 rfl rfl rfl) (zd_b zq_method_22_code_22 9 rfl rfl rfl) (by decide +kernel)
theorem d_Lw_isBalanced_714 : decode method_22_code 714 = .ok (.bipush 103, 2) := zo_16 (d := 103) (zd_b zq_method_22_code_22 10 rfl rfl rfl) (zd_b zq_method_22_code_22 11 rfl rfl rfl) (by decide +kernel)
theorem d_Lw_isBalanced_716 : decode method_22_code 716 = .ok (.iconst 0, 1) := zo_3 (zd_b zq_method_22_code_22 12 rfl rfl rfl)
theorem d_Lw_isBalanced_717 : decode method_22_code 717 = .ok (.invokestatic 193, 3) := zo_184 (d := 0) (e := 193) (zd_b zq_method_22_code_22 13 rfl rfl rfl) (zd_b zq_method_22_code_22 14 rfl rfl rfl) (zd_b zq_method_22_code_22 15 rfl rfl rfl)
theorem d_Lw_isBalanced_720 : decode method_22_code 720 = .ok (.iadd, 1) := zo_96 (zd_b zq_method_22_code_22 16 rfl rfl rfl)
theorem d_Lw_isBalanced_721 : decode method_22_code 721 = .ok (.aload_n 0, 1) := zo_42 (zd_b zq_method_22_code_22 17 rfl rfl rfl)
theorem d_Lw_isBalanced_722 : decode method_22_code 722 = .ok (.bipush 33, 2) := zo_16 (d := 33) (zd_b zq_method_22_code_22 18 rfl rfl rfl) (zd_b zq_method_22_code_22 19 rfl rfl rfl) (by decide +kernel)
theorem d_Lw_isBalanced_724 : decode method_22_code 724 = .ok (.bipush 100, 2) := zo_16 (d := 100) (zd_b zq_method_22_code_22 20 rfl rfl rfl) (zd_b zq_method_22_code_22 21 rfl rfl rfl) (by decide +kernel)
theorem d_Lw_isBalanced_726 : decode method_22_code 726 = .ok (.iconst 0, 1) := zo_3 (zd_b zq_method_22_code_22 22 rfl rfl rfl)
theorem d_Lw_isBalanced_727 : decode method_22_code 727 = .ok (.invokestatic 193, 3) := zo_184 (d := 0) (e := 193) (zd_b zq_method_22_code_22 23 rfl rfl rfl) (zd_b zq_method_22_code_22 24 rfl rfl rfl) (zd_b zq_method_22_code_22 25 rfl rfl rfl)
theorem d_Lw_isBalanced_730 : decode method_22_code 730 = .ok (.iadd, 1) := zo_96 (zd_b zq_method_22_code_22 26 rfl rfl rfl)
theorem d_Lw_isBalanced_731 : decode method_22_code 731 = .ok (.iload 5, 2) := zo_21 (d := 5) (zd_b zq_method_22_code_22 27 rfl rfl rfl) (zd_b zq_method_22_code_22 28 rfl rfl rfl)
theorem d_Lw_isBalanced_733 : decode method_22_code 733 = .ok (.iadd, 1) := zo_96 (zd_b zq_method_22_code_22 29 rfl rfl rfl)
theorem d_Lw_isBalanced_734 : decode method_22_code 734 = .ok (.if_icmp .ne 7, 3) := zo_160 (d := 0) (e := 7) (zd_b zq_method_22_code_22 30 rfl rfl rfl) (zd_b zq_method_22_code_22 31 rfl rfl rfl) (zd_b zq_method_22_code_23 0 rfl rfl rfl) (by decide +kernel)
theorem d_Lw_isBalanced_737 : decode method_22_code 737 = .ok (.iconst 1, 1) := zo_4 (zd_b zq_method_22_code_23 1 rfl rfl rfl)
theorem d_Lw_isBalanced_738 : decode method_22_code 738 = .ok (.goto 4, 3) := zo_167 (d := 0) (e := 4) (zd_b zq_method_22_code_23 2 rfl rfl rfl) (zd_b zq_method_22_code_23 3 rfl rfl rfl) (zd_b zq_method_22_code_23 4 rfl rfl rfl) (by decide +kernel)
theorem d_Lw_isBalanced_742 : decode method_22_code 742 = .ok (.istore 6, 2) := zo_54 (d := 6) (zd_b zq_method_22_code_23 6 rfl rfl rfl) (zd_b zq_method_22_code_23 7 rfl rfl rfl)
theorem d_Lw_isBalanced_744 : decode method_22_code 744 = .ok (.iinc 7 1, 3) := by decide +kernel
theorem d_Lw_isBalanced_747 : decode method_22_code 747 = .ok (.goto (-733), 3) := zo_167 (d := 253) (e := 35) (zd_b zq_method_22_code_23 11 rfl rfl rfl) (zd_b zq_method_22_code_23 12 rfl rfl rfl) (zd_b zq_method_22_code_23 13 rfl rfl rfl) (by decide +kernel)
set_option maxHeartbeats 4000000 in
set_option maxRecDepth 100000 in
theorem I_end (g : zG) {ad : Nat → Nat} {f : Nat → Int32} {kk : Nat} {b fu la gy du go : Int32} {w : zW} {kc ks : Nat} {k2 : Nat} (hW : Wq g ad f k2 fu la gy du w) (hb : b = fu + la + gy + du + go) (N : ∀ w1 : zW, Wq g ad f k2 fu la gy du w1 → DW g M_Lw_isBalanced (fun o w1 => o = .inl (some (.int 1)) ∧ ∃ k9 fu9 la9 gy9 du9, Wq g ad f k9 fu9 la9 gy9 du9 w1) w1 14 [(7, .int (nI (kk + 1))), (6, .int 1), (5, .int go), (4, .int fu), (3, .int b), (2, .int 30), (1, .ref (g.2.2 40)), (0, .ref (ad 0))] [] (kc) (ks)) : DW g M_Lw_isBalanced (fun o w1 => o = .inl (some (.int 1)) ∧ ∃ k9 fu9 la9 gy9 du9, Wq g ad f k9 fu9 la9 gy9 du9 w1) w 693 [(7, .int (nI kk)), (6, .int 1), (5, .int go), (4, .int fu), (3, .int b), (2, .int 30), (1, .ref (g.2.2 40)), (0, .ref (ad 0))] [] (kc + 3) (ks + 18) := by
  refine y_base (cs := []) (z_I.nil w) ?_
  refine y_iload d_Lw_isBalanced_693 1 rfl ?_
  refine y_if_eq (tgt := 741) d_Lw_isBalanced_695 (by decide) (fun c_695 => ?_) (fun c_695 => ?_)
  · exact absurd c_695 (by decide)
  · refine y_iload_n d_Lw_isBalanced_698 rfl 4 rfl ?_
    refine y_iload d_Lw_isBalanced_699 3 rfl ?_
    refine y_aload_n d_Lw_isBalanced_701 rfl 7 rfl ?_
    refine y_bipush d_Lw_isBalanced_702 (v := 32) (by decide) ?_
    refine y_bipush d_Lw_isBalanced_704 (v := 119) (by decide) ?_
    refine y_iconst d_Lw_isBalanced_706 (v := 0) (by decide) ?_
    refine yw_callS (As := [.ref (ad 0), .int 32, .int 119, .int 0]) (rest := [.int fu, .int b]) ln_Lw_193 w_st_Lw_ask ok_Lw_isBalanced_Lw_ask d_Lw_isBalanced_707 (fun wA hA => B_ladle (hW.e (z_I.same (z_I.nil _) hA))) rfl rfl (Nat.le_of_ble_eq_true rfl) (by omega) (by omega) (fun wA707 hA707 E wB707 hx => ?_) (fun wA707 hA707 v wB707 hx => ?_)
    · exact absurd hx.1 (by simp)
    · obtain ⟨e1, e2⟩ := hx
      cases e1
      refine yw_st (st2 := [.int la, .int fu, .int b]) rfl ?_
      subst e2
      refine y_go hA707 ?_
      refine y_iadd d_Lw_isBalanced_710 (v := fu + la) rfl ?_
      refine y_aload_n d_Lw_isBalanced_711 rfl 7 rfl ?_
      refine y_bipush d_Lw_isBalanced_712 (v := 33) (by decide) ?_
      refine y_bipush d_Lw_isBalanced_714 (v := 103) (by decide) ?_
      refine y_iconst d_Lw_isBalanced_716 (v := 0) (by decide) ?_
      refine yw_callS (As := [.ref (ad 0), .int 33, .int 103, .int 0]) (rest := [.int (fu + la), .int b]) ln_Lw_193 w_st_Lw_ask ok_Lw_isBalanced_Lw_ask d_Lw_isBalanced_717 (fun wA hA => B_pool103 (hW.e (z_I.same (z_I.nil _) hA))) rfl rfl (Nat.le_of_ble_eq_true rfl) (by omega) (by omega) (fun wA717 hA717 E wB717 hx => ?_) (fun wA717 hA717 v wB717 hx => ?_)
      · exact absurd hx.1 (by simp)
      · obtain ⟨e1, e2⟩ := hx
        cases e1
        refine yw_st (st2 := [.int gy, .int (fu + la), .int b]) rfl ?_
        subst e2
        refine y_go hA717 ?_
        refine y_iadd d_Lw_isBalanced_720 (v := (fu + la) + gy) rfl ?_
        refine y_aload_n d_Lw_isBalanced_721 rfl 7 rfl ?_
        refine y_bipush d_Lw_isBalanced_722 (v := 33) (by decide) ?_
        refine y_bipush d_Lw_isBalanced_724 (v := 100) (by decide) ?_
        refine y_iconst d_Lw_isBalanced_726 (v := 0) (by decide) ?_
        refine yw_callS (As := [.ref (ad 0), .int 33, .int 100, .int 0]) (rest := [.int ((fu + la) + gy), .int b]) ln_Lw_193 w_st_Lw_ask ok_Lw_isBalanced_Lw_ask d_Lw_isBalanced_727 (fun wA hA => B_pool100 (hW.e (z_I.same (z_I.nil _) hA))) rfl rfl (Nat.le_of_ble_eq_true rfl) (by omega) (by omega) (fun wA727 hA727 E wB727 hx => ?_) (fun wA727 hA727 v wB727 hx => ?_)
        · exact absurd hx.1 (by simp)
        · obtain ⟨e1, e2⟩ := hx
          cases e1
          refine yw_st (st2 := [.int du, .int ((fu + la) + gy), .int b]) rfl ?_
          subst e2
          refine y_go hA727 ?_
          refine y_iadd d_Lw_isBalanced_730 (v := ((fu + la) + gy) + du) rfl ?_
          refine y_iload d_Lw_isBalanced_731 2 rfl ?_
          refine y_iadd d_Lw_isBalanced_733 (v := (((fu + la) + gy) + du) + go) rfl ?_
          refine y_icmp_ne (tgt := 741) d_Lw_isBalanced_734 (by decide) (fun c_734 => ?_) (fun c_734 => ?_)
          · exact absurd hb c_734
          · refine y_iconst d_Lw_isBalanced_737 (v := 1) (by decide) ?_
            refine y_goto (tgt := 742) d_Lw_isBalanced_738 (by decide) ?_
            refine y_istore (lv' := [(6, .int 1), (7, .int (nI kk)), (5, .int go), (4, .int fu), (3, .int b), (2, .int 30), (1, .ref (g.2.2 40)), (0, .ref (ad 0))]) d_Lw_isBalanced_742 (by decide) rfl ?_
            refine y_iinc (lv' := [(7, .int (nI (kk + 1))), (6, .int 1), (5, .int go), (4, .int fu), (3, .int b), (2, .int 30), (1, .ref (g.2.2 40)), (0, .ref (ad 0))]) (v := nI (kk + 1)) d_Lw_isBalanced_744 (j := 1) rfl (nI_add _ _) (by decide) rfl ?_
            refine y_goto (tgt := 14) d_Lw_isBalanced_747 (by decide) ?_
            refine y_lv (lv' := [(7, .int (nI (kk + 1))), (6, .int 1), (5, .int go), (4, .int fu), (3, .int b), (2, .int 30), (1, .ref (g.2.2 40)), (0, .ref (ad 0))]) [0, 1, 2, 3, 4, 5, 6, 7] rfl ?_
            refine y_end (fun wC hC => ?_)
            exact yw_bud (by omega) (by omega) (N wC (hW.e (z_I.same (z_I.nil _) hC)))
theorem d_Lw_isBalanced_96 : decode method_22_code 96 = .ok (.iconst 1, 1) := zo_4 (zd_b zq_method_22_code_3 0 rfl rfl rfl)
theorem d_Lw_isBalanced_97 : decode method_22_code 97 = .ok (.aload_n 1, 1) := zo_43 (zd_b zq_method_22_code_3 1 rfl rfl rfl)
theorem d_Lw_isBalanced_98 : decode method_22_code 98 = .ok (.iload 8, 2) := zo_21 (d := 8) (zd_b zq_method_22_code_3 2 rfl rfl rfl) (zd_b zq_method_22_code_3 3 rfl rfl rfl)
theorem d_Lw_isBalanced_100 : decode method_22_code 100 = .ok (.iconst 1, 1) := zo_4 (zd_b zq_method_22_code_3 4 rfl rfl rfl)
theorem d_Lw_isBalanced_101 : decode method_22_code 101 = .ok (.iadd, 1) := zo_96 (zd_b zq_method_22_code_3 5 rfl rfl rfl)
theorem d_Lw_isBalanced_102 : decode method_22_code 102 = .ok (.sipush 600, 3) := zo_17 (d := 2) (e := 88) (zd_b zq_method_22_code_3 6 rfl rfl rfl) (zd_b zq_method_22_code_3 7 rfl rfl rfl) (zd_b zq_method_22_code_3 8 rfl rfl rfl) (by decide +kernel)
theorem d_Lw_isBalanced_105 : decode method_22_code 105 = .ok (.invokestatic 182, 3) := zo_184 (d := 0) (e := 182) (zd_b zq_method_22_code_3 9 rfl rfl rfl) (zd_b zq_method_22_code_3 10 rfl rfl rfl) (zd_b zq_method_22_code_3 11 rfl rfl rfl)
theorem ok_Lw_isBalanced_Lw_pick : z_ok M_Lw_isBalanced M_Lw_pick 3 := ⟨z_mj2 (i := 216) rfl (by decide +kernel), rfl, ⟨by decide +kernel, by decide +kernel, by decide +kernel⟩, ⟨by decide, by decide⟩, z_mj1 (i := 0) rfl (by decide +kernel), rfl⟩
theorem d_Lw_isBalanced_108 : decode method_22_code 108 = .ok (.iadd, 1) := zo_96 (zd_b zq_method_22_code_3 12 rfl rfl rfl)
theorem d_Lw_isBalanced_109 : decode method_22_code 109 = .ok (.istore 10, 2) := zo_54 (d := 10) (zd_b zq_method_22_code_3 13 rfl rfl rfl) (zd_b zq_method_22_code_3 14 rfl rfl rfl)
theorem d_Lw_isBalanced_111 : decode method_22_code 111 = .ok (.aload_n 0, 1) := zo_42 (zd_b zq_method_22_code_3 15 rfl rfl rfl)
theorem d_Lw_isBalanced_112 : decode method_22_code 112 = .ok (.iconst 5, 1) := zo_8 (zd_b zq_method_22_code_3 16 rfl rfl rfl)
theorem d_Lw_isBalanced_113 : decode method_22_code 113 = .ok (.ldc 239, 2) := zo_18 (d := 239) (zd_b zq_method_22_code_3 17 rfl rfl rfl) (zd_b zq_method_22_code_3 18 rfl rfl rfl)
theorem d_Lw_isBalanced_115 : decode method_22_code 115 = .ok (.aload_n 1, 1) := zo_43 (zd_b zq_method_22_code_3 19 rfl rfl rfl)
theorem d_Lw_isBalanced_116 : decode method_22_code 116 = .ok (.iload 8, 2) := zo_21 (d := 8) (zd_b zq_method_22_code_3 20 rfl rfl rfl) (zd_b zq_method_22_code_3 21 rfl rfl rfl)
theorem d_Lw_isBalanced_118 : decode method_22_code 118 = .ok (.iconst 2, 1) := zo_5 (zd_b zq_method_22_code_3 22 rfl rfl rfl)
theorem d_Lw_isBalanced_119 : decode method_22_code 119 = .ok (.iadd, 1) := zo_96 (zd_b zq_method_22_code_3 23 rfl rfl rfl)
theorem d_Lw_isBalanced_120 : decode method_22_code 120 = .ok (.iconst 3, 1) := zo_6 (zd_b zq_method_22_code_3 24 rfl rfl rfl)
theorem d_Lw_isBalanced_121 : decode method_22_code 121 = .ok (.invokestatic 182, 3) := zo_184 (d := 0) (e := 182) (zd_b zq_method_22_code_3 25 rfl rfl rfl) (zd_b zq_method_22_code_3 26 rfl rfl rfl) (zd_b zq_method_22_code_3 27 rfl rfl rfl)
theorem d_Lw_isBalanced_124 : decode method_22_code 124 = .ok (.invokevirtual 188, 3) := zo_182 (d := 0) (e := 188) (zd_b zq_method_22_code_3 28 rfl rfl rfl) (zd_b zq_method_22_code_3 29 rfl rfl rfl) (zd_b zq_method_22_code_3 30 rfl rfl rfl)
theorem ok_Lw_isBalanced_String_charAt : z_ok M_Lw_isBalanced M_String_charAt 1 := ⟨z_mj6 (i := 141) rfl (by decide +kernel), rfl, ⟨by decide +kernel, by decide +kernel, by decide +kernel⟩, ⟨by decide, by decide⟩, z_mj1 (i := 19) rfl (by decide +kernel), rfl⟩
theorem d_Lw_isBalanced_127 : decode method_22_code 127 = .ok (.iload 10, 2) := zo_21 (d := 10) (zd_b zq_method_22_code_3 31 rfl rfl rfl) (zd_b zq_method_22_code_4 0 rfl rfl rfl)
theorem d_Lw_isBalanced_129 : decode method_22_code 129 = .ok (.invokestatic 193, 3) := zo_184 (d := 0) (e := 193) (zd_b zq_method_22_code_4 1 rfl rfl rfl) (zd_b zq_method_22_code_4 2 rfl rfl rfl) (zd_b zq_method_22_code_4 3 rfl rfl rfl)
theorem d_Lw_isBalanced_132 : decode method_22_code 132 = .ok (.istore 11, 2) := zo_54 (d := 11) (zd_b zq_method_22_code_4 4 rfl rfl rfl) (zd_b zq_method_22_code_4 5 rfl rfl rfl)
theorem d_Lw_isBalanced_134 : decode method_22_code 134 = .ok (.iload 11, 2) := zo_21 (d := 11) (zd_b zq_method_22_code_4 6 rfl rfl rfl) (zd_b zq_method_22_code_4 7 rfl rfl rfl)
theorem d_Lw_isBalanced_136 : decode method_22_code 136 = .ok (.ldc 174, 2) := zo_18 (d := 174) (zd_b zq_method_22_code_4 8 rfl rfl rfl) (zd_b zq_method_22_code_4 9 rfl rfl rfl)
theorem d_Lw_isBalanced_138 : decode method_22_code 138 = .ok (.if_icmp .ne 22, 3) := zo_160 (d := 0) (e := 22) (zd_b zq_method_22_code_4 10 rfl rfl rfl) (zd_b zq_method_22_code_4 11 rfl rfl rfl) (zd_b zq_method_22_code_4 12 rfl rfl rfl) (by decide +kernel)
theorem d_Lw_isBalanced_160 : decode method_22_code 160 = .ok (.iload 11, 2) := zo_21 (d := 11) (zd_b zq_method_22_code_5 0 rfl rfl rfl) (zd_b zq_method_22_code_5 1 rfl rfl rfl)
theorem d_Lw_isBalanced_162 : decode method_22_code 162 = .ok (.iload 4, 2) := zo_21 (d := 4) (zd_b zq_method_22_code_5 2 rfl rfl rfl) (zd_b zq_method_22_code_5 3 rfl rfl rfl)
theorem d_Lw_isBalanced_164 : decode method_22_code 164 = .ok (.iload 10, 2) := zo_21 (d := 10) (zd_b zq_method_22_code_5 4 rfl rfl rfl) (zd_b zq_method_22_code_5 5 rfl rfl rfl)
theorem d_Lw_isBalanced_166 : decode method_22_code 166 = .ok (.iadd, 1) := zo_96 (zd_b zq_method_22_code_5 6 rfl rfl rfl)
theorem d_Lw_isBalanced_167 : decode method_22_code 167 = .ok (.if_icmp .ne 7, 3) := zo_160 (d := 0) (e := 7) (zd_b zq_method_22_code_5 7 rfl rfl rfl) (zd_b zq_method_22_code_5 8 rfl rfl rfl) (zd_b zq_method_22_code_5 9 rfl rfl rfl) (by decide +kernel)
theorem d_Lw_isBalanced_170 : decode method_22_code 170 = .ok (.iconst 1, 1) := zo_4 (zd_b zq_method_22_code_5 10 rfl rfl rfl)
theorem d_Lw_isBalanced_171 : decode method_22_code 171 = .ok (.goto 4, 3) := zo_167 (d := 0) (e := 4) (zd_b zq_method_22_code_5 11 rfl rfl rfl) (zd_b zq_method_22_code_5 12 rfl rfl rfl) (zd_b zq_method_22_code_5 13 rfl rfl rfl) (by decide +kernel)
theorem d_Lw_isBalanced_175 : decode method_22_code 175 = .ok (.istore 6, 2) := zo_54 (d := 6) (zd_b zq_method_22_code_5 15 rfl rfl rfl) (zd_b zq_method_22_code_5 16 rfl rfl rfl)
theorem d_Lw_isBalanced_177 : decode method_22_code 177 = .ok (.iload_n 3, 1) := zo_29 (zd_b zq_method_22_code_5 17 rfl rfl rfl)
theorem d_Lw_isBalanced_178 : decode method_22_code 178 = .ok (.iload 11, 2) := zo_21 (d := 11) (zd_b zq_method_22_code_5 18 rfl rfl rfl) (zd_b zq_method_22_code_5 19 rfl rfl rfl)
theorem d_Lw_isBalanced_180 : decode method_22_code 180 = .ok (.ldc 174, 2) := zo_18 (d := 174) (zd_b zq_method_22_code_5 20 rfl rfl rfl) (zd_b zq_method_22_code_5 21 rfl rfl rfl)
theorem d_Lw_isBalanced_182 : decode method_22_code 182 = .ok (.if_icmp .ne 7, 3) := zo_160 (d := 0) (e := 7) (zd_b zq_method_22_code_5 22 rfl rfl rfl) (zd_b zq_method_22_code_5 23 rfl rfl rfl) (zd_b zq_method_22_code_5 24 rfl rfl rfl) (by decide +kernel)
theorem d_Lw_isBalanced_189 : decode method_22_code 189 = .ok (.iload 10, 2) := zo_21 (d := 10) (zd_b zq_method_22_code_5 29 rfl rfl rfl) (zd_b zq_method_22_code_5 30 rfl rfl rfl)
theorem d_Lw_isBalanced_191 : decode method_22_code 191 = .ok (.iadd, 1) := zo_96 (zd_b zq_method_22_code_5 31 rfl rfl rfl)
theorem d_Lw_isBalanced_192 : decode method_22_code 192 = .ok (.istore_n 3, 1) := zo_62 (zd_b zq_method_22_code_6 0 rfl rfl rfl)
theorem d_Lw_isBalanced_193 : decode method_22_code 193 = .ok (.iload 11, 2) := zo_21 (d := 11) (zd_b zq_method_22_code_6 1 rfl rfl rfl) (zd_b zq_method_22_code_6 2 rfl rfl rfl)
theorem d_Lw_isBalanced_195 : decode method_22_code 195 = .ok (.ldc 174, 2) := zo_18 (d := 174) (zd_b zq_method_22_code_6 3 rfl rfl rfl) (zd_b zq_method_22_code_6 4 rfl rfl rfl)
theorem d_Lw_isBalanced_197 : decode method_22_code 197 = .ok (.if_icmp .ne 8, 3) := zo_160 (d := 0) (e := 8) (zd_b zq_method_22_code_6 5 rfl rfl rfl) (zd_b zq_method_22_code_6 6 rfl rfl rfl) (zd_b zq_method_22_code_6 7 rfl rfl rfl) (by decide +kernel)
theorem d_Lw_isBalanced_205 : decode method_22_code 205 = .ok (.iload 11, 2) := zo_21 (d := 11) (zd_b zq_method_22_code_6 13 rfl rfl rfl) (zd_b zq_method_22_code_6 14 rfl rfl rfl)
theorem d_Lw_isBalanced_207 : decode method_22_code 207 = .ok (.istore 4, 2) := zo_54 (d := 4) (zd_b zq_method_22_code_6 15 rfl rfl rfl) (zd_b zq_method_22_code_6 16 rfl rfl rfl)
theorem d_Lw_isBalanced_209 : decode method_22_code 209 = .ok (.goto 484, 3) := zo_167 (d := 1) (e := 228) (zd_b zq_method_22_code_6 17 rfl rfl rfl) (zd_b zq_method_22_code_6 18 rfl rfl rfl) (zd_b zq_method_22_code_6 19 rfl rfl rfl) (by decide +kernel)
theorem d_Lw_isBalanced_141 : decode method_22_code 141 = .ok (.iload 4, 2) := zo_21 (d := 4) (zd_b zq_method_22_code_4 13 rfl rfl rfl) (zd_b zq_method_22_code_4 14 rfl rfl rfl)
theorem d_Lw_isBalanced_143 : decode method_22_code 143 = .ok (.iload 10, 2) := zo_21 (d := 10) (zd_b zq_method_22_code_4 15 rfl rfl rfl) (zd_b zq_method_22_code_4 16 rfl rfl rfl)
theorem d_Lw_isBalanced_145 : decode method_22_code 145 = .ok (.iadd, 1) := zo_96 (zd_b zq_method_22_code_4 17 rfl rfl rfl)
theorem d_Lw_isBalanced_146 : decode method_22_code 146 = .ok (.sipush 3000, 3) := zo_17 (d := 11) (e := 184) (zd_b zq_method_22_code_4 18 rfl rfl rfl) (zd_b zq_method_22_code_4 19 rfl rfl rfl) (zd_b zq_method_22_code_4 20 rfl rfl rfl) (by decide +kernel)
theorem d_Lw_isBalanced_149 : decode method_22_code 149 = .ok (.if_icmp .le 7, 3) := zo_164 (d := 0) (e := 7) (zd_b zq_method_22_code_4 21 rfl rfl rfl) (zd_b zq_method_22_code_4 22 rfl rfl rfl) (zd_b zq_method_22_code_4 23 rfl rfl rfl) (by decide +kernel)
theorem d_Lw_isBalanced_152 : decode method_22_code 152 = .ok (.iconst 1, 1) := zo_4 (zd_b zq_method_22_code_4 24 rfl rfl rfl)
theorem d_Lw_isBalanced_153 : decode method_22_code 153 = .ok (.goto 22, 3) := zo_167 (d := 0) (e := 22) (zd_b zq_method_22_code_4 25 rfl rfl rfl) (zd_b zq_method_22_code_4 26 rfl rfl rfl) (zd_b zq_method_22_code_4 27 rfl rfl rfl) (by decide +kernel)
theorem d_Lw_isBalanced_185 : decode method_22_code 185 = .ok (.iconst 0, 1) := zo_3 (zd_b zq_method_22_code_5 25 rfl rfl rfl)
theorem d_Lw_isBalanced_186 : decode method_22_code 186 = .ok (.goto 5, 3) := zo_167 (d := 0) (e := 5) (zd_b zq_method_22_code_5 26 rfl rfl rfl) (zd_b zq_method_22_code_5 27 rfl rfl rfl) (zd_b zq_method_22_code_5 28 rfl rfl rfl) (by decide +kernel)
theorem d_Lw_isBalanced_200 : decode method_22_code 200 = .ok (.iload 4, 2) := zo_21 (d := 4) (zd_b zq_method_22_code_6 8 rfl rfl rfl) (zd_b zq_method_22_code_6 9 rfl rfl rfl)
theorem d_Lw_isBalanced_202 : decode method_22_code 202 = .ok (.goto 5, 3) := zo_167 (d := 0) (e := 5) (zd_b zq_method_22_code_6 10 rfl rfl rfl) (zd_b zq_method_22_code_6 11 rfl rfl rfl) (zd_b zq_method_22_code_6 12 rfl rfl rfl) (by decide +kernel)
set_option maxHeartbeats 4000000 in
set_option maxRecDepth 100000 in
theorem IB_0 (g : zG) {ad : Nat → Nat} {f : Nat → Int32} {kk : Nat} {b fu la gy du go : Int32} {w : zW} {kc ks : Nat} (hk : kk < 14) (hL : g.2.2 41 ≤ 260) (hW : Wq g ad f kk fu la gy du w) (hb : b = fu + la + gy + du + go) (K : ∀ (w : zW) (b fu la gy du go : Int32), Wq g ad f (kk + 1) fu la gy du w → b = fu + la + gy + du + go → DW g M_Lw_isBalanced (fun o w1 => o = .inl (some (.int 1)) ∧ ∃ k9 fu9 la9 gy9 du9, Wq g ad f k9 fu9 la9 gy9 du9 w1) w 693 [(7, .int (nI kk)), (6, .int 1), (5, .int go), (4, .int fu), (3, .int b), (2, .int 30), (1, .ref (g.2.2 40)), (0, .ref (ad 0))] [] (kc) (ks)) : DW g M_Lw_isBalanced (fun o w1 => o = .inl (some (.int 1)) ∧ ∃ k9 fu9 la9 gy9 du9, Wq g ad f k9 fu9 la9 gy9 du9 w1) w 96 [(9, .int la), (8, .int (nI (30 + 4 * kk))), (7, .int (nI kk)), (6, .int 1), (5, .int go), (4, .int fu), (3, .int b), (2, .int 30), (1, .ref (g.2.2 40)), (0, .ref (ad 0))] [] (kc + 30) (ks + 500) := by
  refine y_base (cs := []) (z_I.nil w) ?_
  refine y_iconst d_Lw_isBalanced_96 (v := 1) (by decide) ?_
  refine y_aload_n d_Lw_isBalanced_97 rfl 8 rfl ?_
  refine y_iload d_Lw_isBalanced_98 1 rfl ?_
  refine y_iconst d_Lw_isBalanced_100 (v := 1) (by decide) ?_
  refine y_iadd d_Lw_isBalanced_101 (v := nI ((30 + 4 * kk) + 1)) (nI_add _ _) ?_
  refine y_sipush d_Lw_isBalanced_102 (v := 600) (by decide) ?_
  refine y_callS (As := [.ref (g.2.2 40), .int (nI ((30 + 4 * kk) + 1)), .int 600]) (rest := [.int 1]) (csC := []) (is := []) ln_Lw_182 w_st_Lw_pick ok_Lw_isBalanced_Lw_pick d_Lw_isBalanced_105 (C_Lw_pick g ((30 + 4 * kk) + 1) 600 (by omega) (by decide) (by decide) hL) rfl rfl (Nat.le_of_ble_eq_true rfl) rfl (by decide) (by omega) (by omega) (fun E cs1 hx => ?_) (fun v cs1 hx => ?_)
  · exact absurd hx.1 (by simp)
  · obtain ⟨e1, rfl⟩ := hx
    cases e1
    refine ⟨rfl, ?_⟩
    refine y_st (st2 := [.int (nI (pkN g ((30 + 4 * kk) + 1) 600)), .int 1]) rfl ?_
    refine y_cs (cs2 := []) rfl ?_
    refine y_iadd d_Lw_isBalanced_108 (v := nI (1 + pkN g (30 + 4 * kk + 1) 600)) (nI_add 1 _) ?_
    refine y_istore (lv' := [(10, .int (nI (1 + pkN g (30 + 4 * kk + 1) 600))), (9, .int la), (8, .int (nI (30 + 4 * kk))), (7, .int (nI kk)), (6, .int 1), (5, .int go), (4, .int fu), (3, .int b), (2, .int 30), (1, .ref (g.2.2 40)), (0, .ref (ad 0))]) d_Lw_isBalanced_109 (by decide) rfl ?_
    refine y_aload_n d_Lw_isBalanced_111 rfl 10 rfl ?_
    refine y_iconst d_Lw_isBalanced_112 (v := 5) (by decide) ?_
    refine y_ldcS (own := "IronpourLaw") (i := 4) (by decide) d_Lw_isBalanced_113 ?_
    refine y_aload_n d_Lw_isBalanced_115 rfl 9 rfl ?_
    refine y_iload d_Lw_isBalanced_116 2 rfl ?_
    refine y_iconst d_Lw_isBalanced_118 (v := 2) (by decide) ?_
    refine y_iadd d_Lw_isBalanced_119 (v := nI ((30 + 4 * kk) + 2)) (nI_add _ _) ?_
    refine y_iconst d_Lw_isBalanced_120 (v := 3) (by decide) ?_
    refine y_callS (As := [.ref (g.2.2 40), .int (nI ((30 + 4 * kk) + 2)), .int 3]) (rest := [.ref (g.2.2 (5 + 4)), .int 5, .ref (ad 0)]) (csC := []) (is := []) ln_Lw_182 w_st_Lw_pick ok_Lw_isBalanced_Lw_pick d_Lw_isBalanced_121 (C_Lw_pick g ((30 + 4 * kk) + 2) 3 (by omega) (by decide) (by decide) hL) rfl rfl (Nat.le_of_ble_eq_true rfl) rfl (by decide) (by omega) (by omega) (fun E cs1 hx => ?_) (fun v cs1 hx => ?_)
    · exact absurd hx.1 (by simp)
    · obtain ⟨e1, rfl⟩ := hx
      cases e1
      refine ⟨rfl, ?_⟩
      refine y_st (st2 := [.int (nI (pkN g ((30 + 4 * kk) + 2) 3)), .ref (g.2.2 (5 + 4)), .int 5, .ref (ad 0)]) rfl ?_
      refine y_cs (cs2 := []) rfl ?_
      refine y_callVS (As := [.int (nI (pkN g ((30 + 4 * kk) + 2) 3))]) (rest := [.int 5, .ref (ad 0)]) (csC := []) (is := []) (i := 4) (by first | assumption | decide) rfl ln_Lw_188 w_im_String_charAt w_se_String_charAt ok_Lw_isBalanced_String_charAt d_Lw_isBalanced_124 (C_St_charAt g 4 (pkN g ((30 + 4 * kk) + 2) 3) (by decide) (Nat.lt_of_lt_of_le (pkN_lt (by decide)) (by decide))) rfl rfl (Nat.le_of_ble_eq_true rfl) rfl (by decide) (by omega) (by omega) (fun E cs1 hx => ?_) (fun v cs1 hx => ?_)
      · exact absurd hx.1 (by simp)
      · obtain ⟨e1, rfl⟩ := hx
        cases e1
        refine ⟨rfl, ?_⟩
        refine y_st (st2 := [.int ((z_by 4).getD (pkN g ((30 + 4 * kk) + 2) 3) 0), .int 5, .ref (ad 0)]) rfl ?_
        refine y_cs (cs2 := []) rfl ?_
        refine y_iload d_Lw_isBalanced_127 0 rfl ?_
        refine yw_callS (As := [.ref (ad 0), .int 5, .int ((z_by 4).getD (pkN g ((30 + 4 * kk) + 2) 3) 0), .int (nI (1 + pkN g (30 + 4 * kk + 1) 600))]) (rest := []) ln_Lw_193 w_st_Lw_ask ok_Lw_isBalanced_Lw_ask d_Lw_isBalanced_129 (fun wA hA => B_ch (p := pkN g (30 + 4 * kk + 2) 3) (pkN_lt (by decide)) (hW.e (z_I.same (z_I.nil _) hA)) (pk1 (m := 600) (pkN_lt (by decide)) (by decide))) rfl rfl (Nat.le_of_ble_eq_true rfl) (by omega) (by omega) (fun wA129 hA129 E wB129 hx => ?_) (fun wA129 hA129 v wB129 hx => ?_)
        · obtain ⟨v9, e9, -⟩ := hx
          cases e9
        · obtain ⟨v9, e9, hv9⟩ := hx
          cases e9
          refine yw_st (st2 := [.int v9]) rfl ?_
          refine y_base (cs := []) (z_I.nil _) ?_
          refine y_istore (lv' := [(11, .int v9), (10, .int (nI (1 + pkN g (30 + 4 * kk + 1) 600))), (9, .int la), (8, .int (nI (30 + 4 * kk))), (7, .int (nI kk)), (6, .int 1), (5, .int go), (4, .int fu), (3, .int b), (2, .int 30), (1, .ref (g.2.2 40)), (0, .ref (ad 0))]) d_Lw_isBalanced_132 (by decide) rfl ?_
          refine y_iload d_Lw_isBalanced_134 0 rfl ?_
          refine y_ldc ct_Lw_174 d_Lw_isBalanced_136 ?_
          refine y_icmp_ne (tgt := 160) d_Lw_isBalanced_138 (by decide) (fun c_138 => ?_) (fun c_138 => ?_)
          · rcases hv9 with ⟨-, e9, -⟩ | ⟨hg9, e9, hW2⟩
            · exact absurd e9 c_138
            subst e9
            refine y_iload d_Lw_isBalanced_160 0 rfl ?_
            refine y_iload d_Lw_isBalanced_162 7 rfl ?_
            refine y_iload d_Lw_isBalanced_164 1 rfl ?_
            refine y_iadd d_Lw_isBalanced_166 (v := fu + (nI (1 + pkN g (30 + 4 * kk + 1) 600))) rfl ?_
            refine y_icmp_ne (tgt := 174) d_Lw_isBalanced_167 (by decide) (fun c_167 => ?_) (fun c_167 => ?_)
            · exact absurd rfl c_167
            · refine y_iconst d_Lw_isBalanced_170 (v := 1) (by decide) ?_
              refine y_goto (tgt := 175) d_Lw_isBalanced_171 (by decide) ?_
              refine y_istore (lv' := [(6, .int 1), (11, .int (fu + (nI (1 + pkN g (30 + 4 * kk + 1) 600)))), (10, .int (nI (1 + pkN g (30 + 4 * kk + 1) 600))), (9, .int la), (8, .int (nI (30 + 4 * kk))), (7, .int (nI kk)), (5, .int go), (4, .int fu), (3, .int b), (2, .int 30), (1, .ref (g.2.2 40)), (0, .ref (ad 0))]) d_Lw_isBalanced_175 (by decide) rfl ?_
              refine y_iload_n d_Lw_isBalanced_177 rfl 8 rfl ?_
              refine y_iload d_Lw_isBalanced_178 1 rfl ?_
              refine y_ldc ct_Lw_174 d_Lw_isBalanced_180 ?_
              refine y_icmp_ne (tgt := 189) d_Lw_isBalanced_182 (by decide) (fun c_182 => ?_) (fun c_182 => ?_)
              · refine y_iload d_Lw_isBalanced_189 2 rfl ?_
                refine y_iadd d_Lw_isBalanced_191 (v := b + (nI (1 + pkN g (30 + 4 * kk + 1) 600))) rfl ?_
                refine y_istore_n (lv' := [(3, .int (b + (nI (1 + pkN g (30 + 4 * kk + 1) 600)))), (6, .int 1), (11, .int (fu + (nI (1 + pkN g (30 + 4 * kk + 1) 600)))), (10, .int (nI (1 + pkN g (30 + 4 * kk + 1) 600))), (9, .int la), (8, .int (nI (30 + 4 * kk))), (7, .int (nI kk)), (5, .int go), (4, .int fu), (2, .int 30), (1, .ref (g.2.2 40)), (0, .ref (ad 0))]) d_Lw_isBalanced_192 rfl (by decide) rfl ?_
                refine y_iload d_Lw_isBalanced_193 2 rfl ?_
                refine y_ldc ct_Lw_174 d_Lw_isBalanced_195 ?_
                refine y_icmp_ne (tgt := 205) d_Lw_isBalanced_197 (by decide) (fun c_197 => ?_) (fun c_197 => ?_)
                · refine y_iload d_Lw_isBalanced_205 2 rfl ?_
                  refine y_istore (lv' := [(4, .int (fu + (nI (1 + pkN g (30 + 4 * kk + 1) 600)))), (3, .int (b + (nI (1 + pkN g (30 + 4 * kk + 1) 600)))), (6, .int 1), (11, .int (fu + (nI (1 + pkN g (30 + 4 * kk + 1) 600)))), (10, .int (nI (1 + pkN g (30 + 4 * kk + 1) 600))), (9, .int la), (8, .int (nI (30 + 4 * kk))), (7, .int (nI kk)), (5, .int go), (2, .int 30), (1, .ref (g.2.2 40)), (0, .ref (ad 0))]) d_Lw_isBalanced_207 (by decide) rfl ?_
                  refine y_goto (tgt := 693) d_Lw_isBalanced_209 (by decide) ?_
                  refine y_lv (lv' := [(7, .int (nI kk)), (6, .int 1), (5, .int go), (4, .int (fu + (nI (1 + pkN g (30 + 4 * kk + 1) 600)))), (3, .int (b + (nI (1 + pkN g (30 + 4 * kk + 1) 600)))), (2, .int 30), (1, .ref (g.2.2 40)), (0, .ref (ad 0))]) [7, 2, 8, 0, 1, 9, 10, 11] rfl ?_
                  refine y_end (fun wC hC => ?_)
                  exact yw_bud (by omega) (by omega) (K wC _ _ _ _ _ _ ((hW2.up (Nat.le_succ kk)).e (z_I.same (z_I.nil _) hC)) (by rw [hb]; exact hb_in _ _ _ _ _ _))
                · exact absurd c_197 (ne_st hW2.bd.1.1)
              · exact absurd c_182 (ne_st hW2.bd.1.1)
          · rcases hv9.symm with ⟨-, e9, hW3⟩ | ⟨hg9, e9, hW2⟩
            · exact absurd (e9.symm.trans c_138) (ne_st hW3.bd.1.1)
            subst e9
            refine y_iload d_Lw_isBalanced_141 7 rfl ?_
            refine y_iload d_Lw_isBalanced_143 1 rfl ?_
            refine y_iadd d_Lw_isBalanced_145 (v := fu + (nI (1 + pkN g (30 + 4 * kk + 1) 600))) rfl ?_
            refine y_sipush d_Lw_isBalanced_146 (v := 3000) (by decide) ?_
            refine y_icmp_le (tgt := 156) d_Lw_isBalanced_149 (by decide) (fun c_149 => ?_) (fun c_149 => ?_)
            · exact absurd hg9 (Int32.not_lt.mpr c_149)
            · refine y_iconst d_Lw_isBalanced_152 (v := 1) (by decide) ?_
              refine y_goto (tgt := 175) d_Lw_isBalanced_153 (by decide) ?_
              refine y_istore (lv' := [(6, .int 1), (11, .int (-200003)), (10, .int (nI (1 + pkN g (30 + 4 * kk + 1) 600))), (9, .int la), (8, .int (nI (30 + 4 * kk))), (7, .int (nI kk)), (5, .int go), (4, .int fu), (3, .int b), (2, .int 30), (1, .ref (g.2.2 40)), (0, .ref (ad 0))]) d_Lw_isBalanced_175 (by decide) rfl ?_
              refine y_iload_n d_Lw_isBalanced_177 rfl 8 rfl ?_
              refine y_iload d_Lw_isBalanced_178 1 rfl ?_
              refine y_ldc ct_Lw_174 d_Lw_isBalanced_180 ?_
              refine y_icmp_ne (tgt := 189) d_Lw_isBalanced_182 (by decide) (fun c_182 => ?_) (fun c_182 => ?_)
              · exact absurd c_182 (by decide)
              · refine y_iconst d_Lw_isBalanced_185 (v := 0) (by decide) ?_
                refine y_goto (tgt := 191) d_Lw_isBalanced_186 (by decide) ?_
                refine y_iadd d_Lw_isBalanced_191 (v := b + 0) rfl ?_
                refine y_istore_n (lv' := [(3, .int (b + 0)), (6, .int 1), (11, .int (-200003)), (10, .int (nI (1 + pkN g (30 + 4 * kk + 1) 600))), (9, .int la), (8, .int (nI (30 + 4 * kk))), (7, .int (nI kk)), (5, .int go), (4, .int fu), (2, .int 30), (1, .ref (g.2.2 40)), (0, .ref (ad 0))]) d_Lw_isBalanced_192 rfl (by decide) rfl ?_
                refine y_iload d_Lw_isBalanced_193 2 rfl ?_
                refine y_ldc ct_Lw_174 d_Lw_isBalanced_195 ?_
                refine y_icmp_ne (tgt := 205) d_Lw_isBalanced_197 (by decide) (fun c_197 => ?_) (fun c_197 => ?_)
                · exact absurd c_197 (by decide)
                · refine y_iload d_Lw_isBalanced_200 8 rfl ?_
                  refine y_goto (tgt := 207) d_Lw_isBalanced_202 (by decide) ?_
                  refine y_istore (lv' := [(4, .int fu), (3, .int (b + 0)), (6, .int 1), (11, .int (-200003)), (10, .int (nI (1 + pkN g (30 + 4 * kk + 1) 600))), (9, .int la), (8, .int (nI (30 + 4 * kk))), (7, .int (nI kk)), (5, .int go), (2, .int 30), (1, .ref (g.2.2 40)), (0, .ref (ad 0))]) d_Lw_isBalanced_207 (by decide) rfl ?_
                  refine y_goto (tgt := 693) d_Lw_isBalanced_209 (by decide) ?_
                  refine y_lv (lv' := [(7, .int (nI kk)), (6, .int 1), (5, .int go), (4, .int fu), (3, .int (b + 0)), (2, .int 30), (1, .ref (g.2.2 40)), (0, .ref (ad 0))]) [7, 2, 8, 0, 1, 9, 10, 11] rfl ?_
                  refine y_end (fun wC hC => ?_)
                  exact yw_bud (by omega) (by omega) (K wC _ _ _ _ _ _ ((hW2.up (Nat.le_succ kk)).e (z_I.same (z_I.nil _) hC)) (by rw [Int32.add_zero]; exact hb))
theorem d_Lw_isBalanced_212 : decode method_22_code 212 = .ok (.iconst 1, 1) := zo_4 (zd_b zq_method_22_code_6 20 rfl rfl rfl)
theorem d_Lw_isBalanced_213 : decode method_22_code 213 = .ok (.aload_n 1, 1) := zo_43 (zd_b zq_method_22_code_6 21 rfl rfl rfl)
theorem d_Lw_isBalanced_214 : decode method_22_code 214 = .ok (.iload 8, 2) := zo_21 (d := 8) (zd_b zq_method_22_code_6 22 rfl rfl rfl) (zd_b zq_method_22_code_6 23 rfl rfl rfl)
theorem d_Lw_isBalanced_216 : decode method_22_code 216 = .ok (.iconst 1, 1) := zo_4 (zd_b zq_method_22_code_6 24 rfl rfl rfl)
theorem d_Lw_isBalanced_217 : decode method_22_code 217 = .ok (.iadd, 1) := zo_96 (zd_b zq_method_22_code_6 25 rfl rfl rfl)
theorem d_Lw_isBalanced_218 : decode method_22_code 218 = .ok (.sipush 400, 3) := zo_17 (d := 1) (e := 144) (zd_b zq_method_22_code_6 26 rfl rfl rfl) (zd_b zq_method_22_code_6 27 rfl rfl rfl) (zd_b zq_method_22_code_6 28 rfl rfl rfl) (by decide +kernel)
theorem d_Lw_isBalanced_221 : decode method_22_code 221 = .ok (.invokestatic 182, 3) := zo_184 (d := 0) (e := 182) (zd_b zq_method_22_code_6 29 rfl rfl rfl) (zd_b zq_method_22_code_6 30 rfl rfl rfl) (zd_b zq_method_22_code_6 31 rfl rfl rfl)
theorem d_Lw_isBalanced_224 : decode method_22_code 224 = .ok (.iadd, 1) := zo_96 (zd_b zq_method_22_code_7 0 rfl rfl rfl)
theorem d_Lw_isBalanced_225 : decode method_22_code 225 = .ok (.istore 12, 2) := zo_54 (d := 12) (zd_b zq_method_22_code_7 1 rfl rfl rfl) (zd_b zq_method_22_code_7 2 rfl rfl rfl)
theorem d_Lw_isBalanced_227 : decode method_22_code 227 = .ok (.aload_n 0, 1) := zo_42 (zd_b zq_method_22_code_7 3 rfl rfl rfl)
theorem d_Lw_isBalanced_228 : decode method_22_code 228 = .ok (.bipush 7, 2) := zo_16 (d := 7) (zd_b zq_method_22_code_7 4 rfl rfl rfl) (zd_b zq_method_22_code_7 5 rfl rfl rfl) (by decide +kernel)
theorem d_Lw_isBalanced_230 : decode method_22_code 230 = .ok (.iload 12, 2) := zo_21 (d := 12) (zd_b zq_method_22_code_7 6 rfl rfl rfl) (zd_b zq_method_22_code_7 7 rfl rfl rfl)
theorem d_Lw_isBalanced_232 : decode method_22_code 232 = .ok (.iconst 0, 1) := zo_3 (zd_b zq_method_22_code_7 8 rfl rfl rfl)
theorem d_Lw_isBalanced_233 : decode method_22_code 233 = .ok (.invokestatic 193, 3) := zo_184 (d := 0) (e := 193) (zd_b zq_method_22_code_7 9 rfl rfl rfl) (zd_b zq_method_22_code_7 10 rfl rfl rfl) (zd_b zq_method_22_code_7 11 rfl rfl rfl)
theorem d_Lw_isBalanced_236 : decode method_22_code 236 = .ok (.istore 13, 2) := zo_54 (d := 13) (zd_b zq_method_22_code_7 12 rfl rfl rfl) (zd_b zq_method_22_code_7 13 rfl rfl rfl)
theorem d_Lw_isBalanced_238 : decode method_22_code 238 = .ok (.iload 9, 2) := zo_21 (d := 9) (zd_b zq_method_22_code_7 14 rfl rfl rfl) (zd_b zq_method_22_code_7 15 rfl rfl rfl)
theorem d_Lw_isBalanced_240 : decode method_22_code 240 = .ok (.ifCond .le 18, 3) := zo_158 (d := 0) (e := 18) (zd_b zq_method_22_code_7 16 rfl rfl rfl) (zd_b zq_method_22_code_7 17 rfl rfl rfl) (zd_b zq_method_22_code_7 18 rfl rfl rfl) (by decide +kernel)
theorem d_Lw_isBalanced_258 : decode method_22_code 258 = .ok (.iload 4, 2) := zo_21 (d := 4) (zd_b zq_method_22_code_8 2 rfl rfl rfl) (zd_b zq_method_22_code_8 3 rfl rfl rfl)
theorem d_Lw_isBalanced_260 : decode method_22_code 260 = .ok (.iload 12, 2) := zo_21 (d := 12) (zd_b zq_method_22_code_8 4 rfl rfl rfl) (zd_b zq_method_22_code_8 5 rfl rfl rfl)
theorem d_Lw_isBalanced_262 : decode method_22_code 262 = .ok (.if_icmp .ge 18, 3) := zo_162 (d := 0) (e := 18) (zd_b zq_method_22_code_8 6 rfl rfl rfl) (zd_b zq_method_22_code_8 7 rfl rfl rfl) (zd_b zq_method_22_code_8 8 rfl rfl rfl) (by decide +kernel)
theorem d_Lw_isBalanced_280 : decode method_22_code 280 = .ok (.iload 13, 2) := zo_21 (d := 13) (zd_b zq_method_22_code_8 24 rfl rfl rfl) (zd_b zq_method_22_code_8 25 rfl rfl rfl)
theorem d_Lw_isBalanced_282 : decode method_22_code 282 = .ok (.iload 4, 2) := zo_21 (d := 4) (zd_b zq_method_22_code_8 26 rfl rfl rfl) (zd_b zq_method_22_code_8 27 rfl rfl rfl)
theorem d_Lw_isBalanced_284 : decode method_22_code 284 = .ok (.iload 12, 2) := zo_21 (d := 12) (zd_b zq_method_22_code_8 28 rfl rfl rfl) (zd_b zq_method_22_code_8 29 rfl rfl rfl)
theorem d_Lw_isBalanced_286 : decode method_22_code 286 = .ok (.isub, 1) := zo_100 (zd_b zq_method_22_code_8 30 rfl rfl rfl)
theorem d_Lw_isBalanced_287 : decode method_22_code 287 = .ok (.if_icmp .ne 7, 3) := zo_160 (d := 0) (e := 7) (zd_b zq_method_22_code_8 31 rfl rfl rfl) (zd_b zq_method_22_code_9 0 rfl rfl rfl) (zd_b zq_method_22_code_9 1 rfl rfl rfl) (by decide +kernel)
theorem d_Lw_isBalanced_290 : decode method_22_code 290 = .ok (.iconst 1, 1) := zo_4 (zd_b zq_method_22_code_9 2 rfl rfl rfl)
theorem d_Lw_isBalanced_291 : decode method_22_code 291 = .ok (.goto 4, 3) := zo_167 (d := 0) (e := 4) (zd_b zq_method_22_code_9 3 rfl rfl rfl) (zd_b zq_method_22_code_9 4 rfl rfl rfl) (zd_b zq_method_22_code_9 5 rfl rfl rfl) (by decide +kernel)
theorem d_Lw_isBalanced_295 : decode method_22_code 295 = .ok (.istore 6, 2) := zo_54 (d := 6) (zd_b zq_method_22_code_9 7 rfl rfl rfl) (zd_b zq_method_22_code_9 8 rfl rfl rfl)
theorem d_Lw_isBalanced_297 : decode method_22_code 297 = .ok (.iload 13, 2) := zo_21 (d := 13) (zd_b zq_method_22_code_9 9 rfl rfl rfl) (zd_b zq_method_22_code_9 10 rfl rfl rfl)
theorem d_Lw_isBalanced_299 : decode method_22_code 299 = .ok (.ifCond .lt 8, 3) := zo_155 (d := 0) (e := 8) (zd_b zq_method_22_code_9 11 rfl rfl rfl) (zd_b zq_method_22_code_9 12 rfl rfl rfl) (zd_b zq_method_22_code_9 13 rfl rfl rfl) (by decide +kernel)
theorem d_Lw_isBalanced_302 : decode method_22_code 302 = .ok (.iload 13, 2) := zo_21 (d := 13) (zd_b zq_method_22_code_9 14 rfl rfl rfl) (zd_b zq_method_22_code_9 15 rfl rfl rfl)
theorem d_Lw_isBalanced_304 : decode method_22_code 304 = .ok (.goto 5, 3) := zo_167 (d := 0) (e := 5) (zd_b zq_method_22_code_9 16 rfl rfl rfl) (zd_b zq_method_22_code_9 17 rfl rfl rfl) (zd_b zq_method_22_code_9 18 rfl rfl rfl) (by decide +kernel)
theorem d_Lw_isBalanced_309 : decode method_22_code 309 = .ok (.istore 4, 2) := zo_54 (d := 4) (zd_b zq_method_22_code_9 21 rfl rfl rfl) (zd_b zq_method_22_code_9 22 rfl rfl rfl)
theorem d_Lw_isBalanced_311 : decode method_22_code 311 = .ok (.goto 382, 3) := zo_167 (d := 1) (e := 126) (zd_b zq_method_22_code_9 23 rfl rfl rfl) (zd_b zq_method_22_code_9 24 rfl rfl rfl) (zd_b zq_method_22_code_9 25 rfl rfl rfl) (by decide +kernel)
theorem d_Lw_isBalanced_265 : decode method_22_code 265 = .ok (.iload 13, 2) := zo_21 (d := 13) (zd_b zq_method_22_code_8 9 rfl rfl rfl) (zd_b zq_method_22_code_8 10 rfl rfl rfl)
theorem d_Lw_isBalanced_267 : decode method_22_code 267 = .ok (.ldc 168, 2) := zo_18 (d := 168) (zd_b zq_method_22_code_8 11 rfl rfl rfl) (zd_b zq_method_22_code_8 12 rfl rfl rfl)
theorem d_Lw_isBalanced_269 : decode method_22_code 269 = .ok (.if_icmp .ne 7, 3) := zo_160 (d := 0) (e := 7) (zd_b zq_method_22_code_8 13 rfl rfl rfl) (zd_b zq_method_22_code_8 14 rfl rfl rfl) (zd_b zq_method_22_code_8 15 rfl rfl rfl) (by decide +kernel)
theorem d_Lw_isBalanced_272 : decode method_22_code 272 = .ok (.iconst 1, 1) := zo_4 (zd_b zq_method_22_code_8 16 rfl rfl rfl)
theorem d_Lw_isBalanced_273 : decode method_22_code 273 = .ok (.goto 22, 3) := zo_167 (d := 0) (e := 22) (zd_b zq_method_22_code_8 17 rfl rfl rfl) (zd_b zq_method_22_code_8 18 rfl rfl rfl) (zd_b zq_method_22_code_8 19 rfl rfl rfl) (by decide +kernel)
theorem d_Lw_isBalanced_307 : decode method_22_code 307 = .ok (.iload 4, 2) := zo_21 (d := 4) (zd_b zq_method_22_code_9 19 rfl rfl rfl) (zd_b zq_method_22_code_9 20 rfl rfl rfl)
theorem d_Lw_isBalanced_243 : decode method_22_code 243 = .ok (.iload 13, 2) := zo_21 (d := 13) (zd_b zq_method_22_code_7 19 rfl rfl rfl) (zd_b zq_method_22_code_7 20 rfl rfl rfl)
theorem d_Lw_isBalanced_245 : decode method_22_code 245 = .ok (.ldc 174, 2) := zo_18 (d := 174) (zd_b zq_method_22_code_7 21 rfl rfl rfl) (zd_b zq_method_22_code_7 22 rfl rfl rfl)
theorem d_Lw_isBalanced_247 : decode method_22_code 247 = .ok (.if_icmp .ne 7, 3) := zo_160 (d := 0) (e := 7) (zd_b zq_method_22_code_7 23 rfl rfl rfl) (zd_b zq_method_22_code_7 24 rfl rfl rfl) (zd_b zq_method_22_code_7 25 rfl rfl rfl) (by decide +kernel)
theorem d_Lw_isBalanced_250 : decode method_22_code 250 = .ok (.iconst 1, 1) := zo_4 (zd_b zq_method_22_code_7 26 rfl rfl rfl)
theorem d_Lw_isBalanced_251 : decode method_22_code 251 = .ok (.goto 44, 3) := zo_167 (d := 0) (e := 44) (zd_b zq_method_22_code_7 27 rfl rfl rfl) (zd_b zq_method_22_code_7 28 rfl rfl rfl) (zd_b zq_method_22_code_7 29 rfl rfl rfl) (by decide +kernel)
set_option maxHeartbeats 4000000 in
set_option maxRecDepth 100000 in
theorem IB_2 (g : zG) {ad : Nat → Nat} {f : Nat → Int32} {kk : Nat} {b fu la gy du go : Int32} {w : zW} {kc ks : Nat} (hk : kk < 14) (hL : g.2.2 41 ≤ 260) (hW : Wq g ad f kk fu la gy du w) (hb : b = fu + la + gy + du + go) (K : ∀ (w : zW) (b fu la gy du go : Int32), Wq g ad f (kk + 1) fu la gy du w → b = fu + la + gy + du + go → DW g M_Lw_isBalanced (fun o w1 => o = .inl (some (.int 1)) ∧ ∃ k9 fu9 la9 gy9 du9, Wq g ad f k9 fu9 la9 gy9 du9 w1) w 693 [(7, .int (nI kk)), (6, .int 1), (5, .int go), (4, .int fu), (3, .int b), (2, .int 30), (1, .ref (g.2.2 40)), (0, .ref (ad 0))] [] (kc) (ks)) : DW g M_Lw_isBalanced (fun o w1 => o = .inl (some (.int 1)) ∧ ∃ k9 fu9 la9 gy9 du9, Wq g ad f k9 fu9 la9 gy9 du9 w1) w 212 [(9, .int la), (8, .int (nI (30 + 4 * kk))), (7, .int (nI kk)), (6, .int 1), (5, .int go), (4, .int fu), (3, .int b), (2, .int 30), (1, .ref (g.2.2 40)), (0, .ref (ad 0))] [] (kc + 30) (ks + 500) := by
  refine y_base (cs := []) (z_I.nil w) ?_
  refine y_iconst d_Lw_isBalanced_212 (v := 1) (by decide) ?_
  refine y_aload_n d_Lw_isBalanced_213 rfl 8 rfl ?_
  refine y_iload d_Lw_isBalanced_214 1 rfl ?_
  refine y_iconst d_Lw_isBalanced_216 (v := 1) (by decide) ?_
  refine y_iadd d_Lw_isBalanced_217 (v := nI ((30 + 4 * kk) + 1)) (nI_add _ _) ?_
  refine y_sipush d_Lw_isBalanced_218 (v := 400) (by decide) ?_
  refine y_callS (As := [.ref (g.2.2 40), .int (nI ((30 + 4 * kk) + 1)), .int 400]) (rest := [.int 1]) (csC := []) (is := []) ln_Lw_182 w_st_Lw_pick ok_Lw_isBalanced_Lw_pick d_Lw_isBalanced_221 (C_Lw_pick g ((30 + 4 * kk) + 1) 400 (by omega) (by decide) (by decide) hL) rfl rfl (Nat.le_of_ble_eq_true rfl) rfl (by decide) (by omega) (by omega) (fun E cs1 hx => ?_) (fun v cs1 hx => ?_)
  · exact absurd hx.1 (by simp)
  · obtain ⟨e1, rfl⟩ := hx
    cases e1
    refine ⟨rfl, ?_⟩
    refine y_st (st2 := [.int (nI (pkN g ((30 + 4 * kk) + 1) 400)), .int 1]) rfl ?_
    refine y_cs (cs2 := []) rfl ?_
    refine y_iadd d_Lw_isBalanced_224 (v := nI (1 + pkN g (30 + 4 * kk + 1) 400)) (nI_add 1 _) ?_
    refine y_istore (lv' := [(12, .int (nI (1 + pkN g (30 + 4 * kk + 1) 400))), (9, .int la), (8, .int (nI (30 + 4 * kk))), (7, .int (nI kk)), (6, .int 1), (5, .int go), (4, .int fu), (3, .int b), (2, .int 30), (1, .ref (g.2.2 40)), (0, .ref (ad 0))]) d_Lw_isBalanced_225 (by decide) rfl ?_
    refine y_aload_n d_Lw_isBalanced_227 rfl 10 rfl ?_
    refine y_bipush d_Lw_isBalanced_228 (v := 7) (by decide) ?_
    refine y_iload d_Lw_isBalanced_230 0 rfl ?_
    refine y_iconst d_Lw_isBalanced_232 (v := 0) (by decide) ?_
    refine yw_callS (As := [.ref (ad 0), .int 7, .int (nI (1 + pkN g (30 + 4 * kk + 1) 400)), .int 0]) (rest := []) ln_Lw_193 w_st_Lw_ask ok_Lw_isBalanced_Lw_ask d_Lw_isBalanced_233 (fun wA hA => B_tap (hW.e (z_I.same (z_I.nil _) hA)) (pk1 (m := 400) (pkN_lt (by decide)) (by decide))) rfl rfl (Nat.le_of_ble_eq_true rfl) (by omega) (by omega) (fun wA233 hA233 E wB233 hx => ?_) (fun wA233 hA233 v wB233 hx => ?_)
    · obtain ⟨v9, e9, -⟩ := hx
      cases e9
    · obtain ⟨v9, e9, hv9⟩ := hx
      cases e9
      refine yw_st (st2 := [.int v9]) rfl ?_
      refine y_base (cs := []) (z_I.nil _) ?_
      refine y_istore (lv' := [(13, .int v9), (12, .int (nI (1 + pkN g (30 + 4 * kk + 1) 400))), (9, .int la), (8, .int (nI (30 + 4 * kk))), (7, .int (nI kk)), (6, .int 1), (5, .int go), (4, .int fu), (3, .int b), (2, .int 30), (1, .ref (g.2.2 40)), (0, .ref (ad 0))]) d_Lw_isBalanced_236 (by decide) rfl ?_
      refine y_iload d_Lw_isBalanced_238 2 rfl ?_
      refine y_if_le (tgt := 258) d_Lw_isBalanced_240 (by decide) (fun c_240 => ?_) (fun c_240 => ?_)
      · have hl9 : la = 0 := le_0 hW.bd.2.1.1 c_240
        refine y_iload d_Lw_isBalanced_258 7 rfl ?_
        refine y_iload d_Lw_isBalanced_260 1 rfl ?_
        refine y_icmp_ge (tgt := 280) d_Lw_isBalanced_262 (by decide) (fun c_262 => ?_) (fun c_262 => ?_)
        · rcases hv9 with ⟨q9, -⟩ | ⟨-, q9, -⟩ | ⟨-, -, e9, h09, hW2⟩
          · exact absurd hl9 q9
          · exact absurd q9 (Int32.not_lt.mpr c_262)
          subst e9
          refine y_iload d_Lw_isBalanced_280 0 rfl ?_
          refine y_iload d_Lw_isBalanced_282 7 rfl ?_
          refine y_iload d_Lw_isBalanced_284 1 rfl ?_
          refine y_isub d_Lw_isBalanced_286 (v := fu - (nI (1 + pkN g (30 + 4 * kk + 1) 400))) rfl ?_
          refine y_icmp_ne (tgt := 294) d_Lw_isBalanced_287 (by decide) (fun c_287 => ?_) (fun c_287 => ?_)
          · exact absurd rfl c_287
          · refine y_iconst d_Lw_isBalanced_290 (v := 1) (by decide) ?_
            refine y_goto (tgt := 295) d_Lw_isBalanced_291 (by decide) ?_
            refine y_istore (lv' := [(6, .int 1), (13, .int (fu - (nI (1 + pkN g (30 + 4 * kk + 1) 400)))), (12, .int (nI (1 + pkN g (30 + 4 * kk + 1) 400))), (9, .int la), (8, .int (nI (30 + 4 * kk))), (7, .int (nI kk)), (5, .int go), (4, .int fu), (3, .int b), (2, .int 30), (1, .ref (g.2.2 40)), (0, .ref (ad 0))]) d_Lw_isBalanced_295 (by decide) rfl ?_
            refine y_iload d_Lw_isBalanced_297 1 rfl ?_
            refine y_if_lt (tgt := 307) d_Lw_isBalanced_299 (by decide) (fun c_299 => ?_) (fun c_299 => ?_)
            · exact absurd c_299 (Int32.not_lt.mpr h09)
            · refine y_iload d_Lw_isBalanced_302 1 rfl ?_
              refine y_goto (tgt := 309) d_Lw_isBalanced_304 (by decide) ?_
              refine y_istore (lv' := [(4, .int (fu - (nI (1 + pkN g (30 + 4 * kk + 1) 400)))), (6, .int 1), (13, .int (fu - (nI (1 + pkN g (30 + 4 * kk + 1) 400)))), (12, .int (nI (1 + pkN g (30 + 4 * kk + 1) 400))), (9, .int la), (8, .int (nI (30 + 4 * kk))), (7, .int (nI kk)), (5, .int go), (3, .int b), (2, .int 30), (1, .ref (g.2.2 40)), (0, .ref (ad 0))]) d_Lw_isBalanced_309 (by decide) rfl ?_
              refine y_goto (tgt := 693) d_Lw_isBalanced_311 (by decide) ?_
              refine y_lv (lv' := [(7, .int (nI kk)), (6, .int 1), (5, .int go), (4, .int (fu - (nI (1 + pkN g (30 + 4 * kk + 1) 400)))), (3, .int b), (2, .int 30), (1, .ref (g.2.2 40)), (0, .ref (ad 0))]) [6, 1, 7, 0, 8, 9, 10, 11] rfl ?_
              refine y_end (fun wC hC => ?_)
              exact yw_bud (by omega) (by omega) (K wC _ _ _ _ _ _ ((hW2.up (Nat.le_succ kk)).e (z_I.same (z_I.nil _) hC)) (by rw [hb]; exact hb_tap _ _ _ _ _ _))
        · rcases hv9 with ⟨q9, -⟩ | ⟨-, -, e9, hW2⟩ | ⟨-, q9, -⟩
          · exact absurd hl9 q9
          rotate_left
          · exact absurd (Int32.not_le.mp c_262) q9
          subst e9
          refine y_iload d_Lw_isBalanced_265 0 rfl ?_
          refine y_ldc ct_Lw_168 d_Lw_isBalanced_267 ?_
          refine y_icmp_ne (tgt := 276) d_Lw_isBalanced_269 (by decide) (fun c_269 => ?_) (fun c_269 => ?_)
          · exact absurd c_269 (by decide)
          · refine y_iconst d_Lw_isBalanced_272 (v := 1) (by decide) ?_
            refine y_goto (tgt := 295) d_Lw_isBalanced_273 (by decide) ?_
            refine y_istore (lv' := [(6, .int 1), (13, .int (-200004)), (12, .int (nI (1 + pkN g (30 + 4 * kk + 1) 400))), (9, .int la), (8, .int (nI (30 + 4 * kk))), (7, .int (nI kk)), (5, .int go), (4, .int fu), (3, .int b), (2, .int 30), (1, .ref (g.2.2 40)), (0, .ref (ad 0))]) d_Lw_isBalanced_295 (by decide) rfl ?_
            refine y_iload d_Lw_isBalanced_297 1 rfl ?_
            refine y_if_lt (tgt := 307) d_Lw_isBalanced_299 (by decide) (fun c_299 => ?_) (fun c_299 => ?_)
            · refine y_iload d_Lw_isBalanced_307 7 rfl ?_
              refine y_istore (lv' := [(4, .int fu), (6, .int 1), (13, .int (-200004)), (12, .int (nI (1 + pkN g (30 + 4 * kk + 1) 400))), (9, .int la), (8, .int (nI (30 + 4 * kk))), (7, .int (nI kk)), (5, .int go), (3, .int b), (2, .int 30), (1, .ref (g.2.2 40)), (0, .ref (ad 0))]) d_Lw_isBalanced_309 (by decide) rfl ?_
              refine y_goto (tgt := 693) d_Lw_isBalanced_311 (by decide) ?_
              refine y_lv (lv' := [(7, .int (nI kk)), (6, .int 1), (5, .int go), (4, .int fu), (3, .int b), (2, .int 30), (1, .ref (g.2.2 40)), (0, .ref (ad 0))]) [6, 1, 7, 0, 8, 9, 10, 11] rfl ?_
              refine y_end (fun wC hC => ?_)
              exact yw_bud (by omega) (by omega) (K wC _ _ _ _ _ _ ((hW2.up (Nat.le_succ kk)).e (z_I.same (z_I.nil _) hC)) (hb))
            · exact absurd c_299 (by decide)
      · have hl9 : ¬ la = 0 := fun q => c_240 (by rw [q]; decide)
        rcases hv9 with ⟨-, e9, hW2⟩ | ⟨q9, -⟩ | ⟨q9, -⟩
        rotate_left
        · exact absurd q9 hl9
        · exact absurd q9 hl9
        subst e9
        refine y_iload d_Lw_isBalanced_243 0 rfl ?_
        refine y_ldc ct_Lw_174 d_Lw_isBalanced_245 ?_
        refine y_icmp_ne (tgt := 254) d_Lw_isBalanced_247 (by decide) (fun c_247 => ?_) (fun c_247 => ?_)
        · exact absurd c_247 (by decide)
        · refine y_iconst d_Lw_isBalanced_250 (v := 1) (by decide) ?_
          refine y_goto (tgt := 295) d_Lw_isBalanced_251 (by decide) ?_
          refine y_istore (lv' := [(6, .int 1), (13, .int (-200003)), (12, .int (nI (1 + pkN g (30 + 4 * kk + 1) 400))), (9, .int la), (8, .int (nI (30 + 4 * kk))), (7, .int (nI kk)), (5, .int go), (4, .int fu), (3, .int b), (2, .int 30), (1, .ref (g.2.2 40)), (0, .ref (ad 0))]) d_Lw_isBalanced_295 (by decide) rfl ?_
          refine y_iload d_Lw_isBalanced_297 1 rfl ?_
          refine y_if_lt (tgt := 307) d_Lw_isBalanced_299 (by decide) (fun c_299 => ?_) (fun c_299 => ?_)
          · refine y_iload d_Lw_isBalanced_307 7 rfl ?_
            refine y_istore (lv' := [(4, .int fu), (6, .int 1), (13, .int (-200003)), (12, .int (nI (1 + pkN g (30 + 4 * kk + 1) 400))), (9, .int la), (8, .int (nI (30 + 4 * kk))), (7, .int (nI kk)), (5, .int go), (3, .int b), (2, .int 30), (1, .ref (g.2.2 40)), (0, .ref (ad 0))]) d_Lw_isBalanced_309 (by decide) rfl ?_
            refine y_goto (tgt := 693) d_Lw_isBalanced_311 (by decide) ?_
            refine y_lv (lv' := [(7, .int (nI kk)), (6, .int 1), (5, .int go), (4, .int fu), (3, .int b), (2, .int 30), (1, .ref (g.2.2 40)), (0, .ref (ad 0))]) [6, 1, 7, 0, 8, 9, 10, 11] rfl ?_
            refine y_end (fun wC hC => ?_)
            exact yw_bud (by omega) (by omega) (K wC _ _ _ _ _ _ ((hW2.up (Nat.le_succ kk)).e (z_I.same (z_I.nil _) hC)) (hb))
          · exact absurd c_299 (by decide)
theorem d_Lw_isBalanced_314 : decode method_22_code 314 = .ok (.aload_n 0, 1) := zo_42 (zd_b zq_method_22_code_9 26 rfl rfl rfl)
theorem d_Lw_isBalanced_315 : decode method_22_code 315 = .ok (.bipush 8, 2) := zo_16 (d := 8) (zd_b zq_method_22_code_9 27 rfl rfl rfl) (zd_b zq_method_22_code_9 28 rfl rfl rfl) (by decide +kernel)
theorem d_Lw_isBalanced_317 : decode method_22_code 317 = .ok (.iconst 1, 1) := zo_4 (zd_b zq_method_22_code_9 29 rfl rfl rfl)
theorem d_Lw_isBalanced_318 : decode method_22_code 318 = .ok (.aload_n 1, 1) := zo_43 (zd_b zq_method_22_code_9 30 rfl rfl rfl)
theorem d_Lw_isBalanced_319 : decode method_22_code 319 = .ok (.iload 8, 2) := zo_21 (d := 8) (zd_b zq_method_22_code_9 31 rfl rfl rfl) (zd_b zq_method_22_code_10 0 rfl rfl rfl)
theorem d_Lw_isBalanced_321 : decode method_22_code 321 = .ok (.iconst 1, 1) := zo_4 (zd_b zq_method_22_code_10 1 rfl rfl rfl)
theorem d_Lw_isBalanced_322 : decode method_22_code 322 = .ok (.iadd, 1) := zo_96 (zd_b zq_method_22_code_10 2 rfl rfl rfl)
theorem d_Lw_isBalanced_323 : decode method_22_code 323 = .ok (.bipush 40, 2) := zo_16 (d := 40) (zd_b zq_method_22_code_10 3 rfl rfl rfl) (zd_b zq_method_22_code_10 4 rfl rfl rfl) (by decide +kernel)
theorem d_Lw_isBalanced_325 : decode method_22_code 325 = .ok (.invokestatic 182, 3) := zo_184 (d := 0) (e := 182) (zd_b zq_method_22_code_10 5 rfl rfl rfl) (zd_b zq_method_22_code_10 6 rfl rfl rfl) (zd_b zq_method_22_code_10 7 rfl rfl rfl)
theorem d_Lw_isBalanced_328 : decode method_22_code 328 = .ok (.iadd, 1) := zo_96 (zd_b zq_method_22_code_10 8 rfl rfl rfl)
theorem d_Lw_isBalanced_329 : decode method_22_code 329 = .ok (.iconst 0, 1) := zo_3 (zd_b zq_method_22_code_10 9 rfl rfl rfl)
theorem d_Lw_isBalanced_330 : decode method_22_code 330 = .ok (.invokestatic 193, 3) := zo_184 (d := 0) (e := 193) (zd_b zq_method_22_code_10 10 rfl rfl rfl) (zd_b zq_method_22_code_10 11 rfl rfl rfl) (zd_b zq_method_22_code_10 12 rfl rfl rfl)
theorem d_Lw_isBalanced_333 : decode method_22_code 333 = .ok (.pop, 1) := zo_87 (zd_b zq_method_22_code_10 13 rfl rfl rfl)
theorem d_Lw_isBalanced_334 : decode method_22_code 334 = .ok (.aload_n 0, 1) := zo_42 (zd_b zq_method_22_code_10 14 rfl rfl rfl)
theorem d_Lw_isBalanced_335 : decode method_22_code 335 = .ok (.bipush 9, 2) := zo_16 (d := 9) (zd_b zq_method_22_code_10 15 rfl rfl rfl) (zd_b zq_method_22_code_10 16 rfl rfl rfl) (by decide +kernel)
theorem d_Lw_isBalanced_337 : decode method_22_code 337 = .ok (.iconst 1, 1) := zo_4 (zd_b zq_method_22_code_10 17 rfl rfl rfl)
theorem d_Lw_isBalanced_338 : decode method_22_code 338 = .ok (.aload_n 1, 1) := zo_43 (zd_b zq_method_22_code_10 18 rfl rfl rfl)
theorem d_Lw_isBalanced_339 : decode method_22_code 339 = .ok (.iload 8, 2) := zo_21 (d := 8) (zd_b zq_method_22_code_10 19 rfl rfl rfl) (zd_b zq_method_22_code_10 20 rfl rfl rfl)
theorem d_Lw_isBalanced_341 : decode method_22_code 341 = .ok (.iconst 2, 1) := zo_5 (zd_b zq_method_22_code_10 21 rfl rfl rfl)
theorem d_Lw_isBalanced_342 : decode method_22_code 342 = .ok (.iadd, 1) := zo_96 (zd_b zq_method_22_code_10 22 rfl rfl rfl)
theorem d_Lw_isBalanced_343 : decode method_22_code 343 = .ok (.bipush 10, 2) := zo_16 (d := 10) (zd_b zq_method_22_code_10 23 rfl rfl rfl) (zd_b zq_method_22_code_10 24 rfl rfl rfl) (by decide +kernel)
theorem d_Lw_isBalanced_345 : decode method_22_code 345 = .ok (.invokestatic 182, 3) := zo_184 (d := 0) (e := 182) (zd_b zq_method_22_code_10 25 rfl rfl rfl) (zd_b zq_method_22_code_10 26 rfl rfl rfl) (zd_b zq_method_22_code_10 27 rfl rfl rfl)
theorem d_Lw_isBalanced_348 : decode method_22_code 348 = .ok (.iadd, 1) := zo_96 (zd_b zq_method_22_code_10 28 rfl rfl rfl)
theorem d_Lw_isBalanced_349 : decode method_22_code 349 = .ok (.iconst 0, 1) := zo_3 (zd_b zq_method_22_code_10 29 rfl rfl rfl)
theorem d_Lw_isBalanced_350 : decode method_22_code 350 = .ok (.invokestatic 193, 3) := zo_184 (d := 0) (e := 193) (zd_b zq_method_22_code_10 30 rfl rfl rfl) (zd_b zq_method_22_code_10 31 rfl rfl rfl) (zd_b zq_method_22_code_11 0 rfl rfl rfl)
theorem d_Lw_isBalanced_353 : decode method_22_code 353 = .ok (.pop, 1) := zo_87 (zd_b zq_method_22_code_11 1 rfl rfl rfl)
theorem d_Lw_isBalanced_354 : decode method_22_code 354 = .ok (.goto 339, 3) := zo_167 (d := 1) (e := 83) (zd_b zq_method_22_code_11 2 rfl rfl rfl) (zd_b zq_method_22_code_11 3 rfl rfl rfl) (zd_b zq_method_22_code_11 4 rfl rfl rfl) (by decide +kernel)
set_option maxHeartbeats 4000000 in
set_option maxRecDepth 100000 in
theorem IB_3 (g : zG) {ad : Nat → Nat} {f : Nat → Int32} {kk : Nat} {b fu la gy du go : Int32} {w : zW} {kc ks : Nat} (hk : kk < 14) (hL : g.2.2 41 ≤ 260) (hW : Wq g ad f kk fu la gy du w) (hb : b = fu + la + gy + du + go) (K : ∀ (w : zW) (b fu la gy du go : Int32), Wq g ad f (kk + 1) fu la gy du w → b = fu + la + gy + du + go → DW g M_Lw_isBalanced (fun o w1 => o = .inl (some (.int 1)) ∧ ∃ k9 fu9 la9 gy9 du9, Wq g ad f k9 fu9 la9 gy9 du9 w1) w 693 [(7, .int (nI kk)), (6, .int 1), (5, .int go), (4, .int fu), (3, .int b), (2, .int 30), (1, .ref (g.2.2 40)), (0, .ref (ad 0))] [] (kc) (ks)) : DW g M_Lw_isBalanced (fun o w1 => o = .inl (some (.int 1)) ∧ ∃ k9 fu9 la9 gy9 du9, Wq g ad f k9 fu9 la9 gy9 du9 w1) w 314 [(9, .int la), (8, .int (nI (30 + 4 * kk))), (7, .int (nI kk)), (6, .int 1), (5, .int go), (4, .int fu), (3, .int b), (2, .int 30), (1, .ref (g.2.2 40)), (0, .ref (ad 0))] [] (kc + 30) (ks + 500) := by
  refine y_base (cs := []) (z_I.nil w) ?_
  refine y_aload_n d_Lw_isBalanced_314 rfl 9 rfl ?_
  refine y_bipush d_Lw_isBalanced_315 (v := 8) (by decide) ?_
  refine y_iconst d_Lw_isBalanced_317 (v := 1) (by decide) ?_
  refine y_aload_n d_Lw_isBalanced_318 rfl 8 rfl ?_
  refine y_iload d_Lw_isBalanced_319 1 rfl ?_
  refine y_iconst d_Lw_isBalanced_321 (v := 1) (by decide) ?_
  refine y_iadd d_Lw_isBalanced_322 (v := nI ((30 + 4 * kk) + 1)) (nI_add _ _) ?_
  refine y_bipush d_Lw_isBalanced_323 (v := 40) (by decide) ?_
  refine y_callS (As := [.ref (g.2.2 40), .int (nI ((30 + 4 * kk) + 1)), .int 40]) (rest := [.int 1, .int 8, .ref (ad 0)]) (csC := []) (is := []) ln_Lw_182 w_st_Lw_pick ok_Lw_isBalanced_Lw_pick d_Lw_isBalanced_325 (C_Lw_pick g ((30 + 4 * kk) + 1) 40 (by omega) (by decide) (by decide) hL) rfl rfl (Nat.le_of_ble_eq_true rfl) rfl (by decide) (by omega) (by omega) (fun E cs1 hx => ?_) (fun v cs1 hx => ?_)
  · exact absurd hx.1 (by simp)
  · obtain ⟨e1, rfl⟩ := hx
    cases e1
    refine ⟨rfl, ?_⟩
    refine y_st (st2 := [.int (nI (pkN g ((30 + 4 * kk) + 1) 40)), .int 1, .int 8, .ref (ad 0)]) rfl ?_
    refine y_cs (cs2 := []) rfl ?_
    refine y_iadd d_Lw_isBalanced_328 (v := nI (1 + pkN g (30 + 4 * kk + 1) 40)) (nI_add 1 _) ?_
    refine y_iconst d_Lw_isBalanced_329 (v := 0) (by decide) ?_
    refine yw_callS (As := [.ref (ad 0), .int 8, .int (nI (1 + pkN g (30 + 4 * kk + 1) 40)), .int 0]) (rest := []) ln_Lw_193 w_st_Lw_ask ok_Lw_isBalanced_Lw_ask d_Lw_isBalanced_330 (fun wA hA => B_treat (hW.e (z_I.same (z_I.nil _) hA)) (pk1 (m := 40) (pkN_lt (by decide)) (by decide))) rfl rfl (Nat.le_of_ble_eq_true rfl) (by omega) (by omega) (fun wA330 hA330 E wB330 hx => ?_) (fun wA330 hA330 v wB330 hx => ?_)
    · obtain ⟨v9, e9, -⟩ := hx
      cases e9
    · obtain ⟨v9, e9, hv9⟩ := hx
      cases e9
      have hW2 := hv9
      refine yw_st (st2 := [.int v9]) rfl ?_
      refine y_base (cs := []) (z_I.nil _) ?_
      refine y_pop d_Lw_isBalanced_333 rfl ?_
      refine y_aload_n d_Lw_isBalanced_334 rfl 9 rfl ?_
      refine y_bipush d_Lw_isBalanced_335 (v := 9) (by decide) ?_
      refine y_iconst d_Lw_isBalanced_337 (v := 1) (by decide) ?_
      refine y_aload_n d_Lw_isBalanced_338 rfl 8 rfl ?_
      refine y_iload d_Lw_isBalanced_339 1 rfl ?_
      refine y_iconst d_Lw_isBalanced_341 (v := 2) (by decide) ?_
      refine y_iadd d_Lw_isBalanced_342 (v := nI ((30 + 4 * kk) + 2)) (nI_add _ _) ?_
      refine y_bipush d_Lw_isBalanced_343 (v := 10) (by decide) ?_
      refine y_callS (As := [.ref (g.2.2 40), .int (nI ((30 + 4 * kk) + 2)), .int 10]) (rest := [.int 1, .int 9, .ref (ad 0)]) (csC := []) (is := []) ln_Lw_182 w_st_Lw_pick ok_Lw_isBalanced_Lw_pick d_Lw_isBalanced_345 (C_Lw_pick g ((30 + 4 * kk) + 2) 10 (by omega) (by decide) (by decide) hL) rfl rfl (Nat.le_of_ble_eq_true rfl) rfl (by decide) (by omega) (by omega) (fun E cs1 hx => ?_) (fun v cs1 hx => ?_)
      · exact absurd hx.1 (by simp)
      · obtain ⟨e1, rfl⟩ := hx
        cases e1
        refine ⟨rfl, ?_⟩
        refine y_st (st2 := [.int (nI (pkN g ((30 + 4 * kk) + 2) 10)), .int 1, .int 9, .ref (ad 0)]) rfl ?_
        refine y_cs (cs2 := []) rfl ?_
        refine y_iadd d_Lw_isBalanced_348 (v := nI (1 + pkN g (30 + 4 * kk + 2) 10)) (nI_add 1 _) ?_
        refine y_iconst d_Lw_isBalanced_349 (v := 0) (by decide) ?_
        refine yw_callS (As := [.ref (ad 0), .int 9, .int (nI (1 + pkN g (30 + 4 * kk + 2) 10)), .int 0]) (rest := []) ln_Lw_193 w_st_Lw_ask ok_Lw_isBalanced_Lw_ask d_Lw_isBalanced_350 (fun wA hA => B_minutes (hW2.e (z_I.same (z_I.nil _) hA)) (by omega) (by have := pkN_lt (g := g) (i := 30 + 4 * kk + 2) (m := 10) (by decide); omega)) rfl rfl (Nat.le_of_ble_eq_true rfl) (by omega) (by omega) (fun wA350 hA350 E wB350 hx => ?_) (fun wA350 hA350 v wB350 hx => ?_)
        · obtain ⟨v9, e9, -⟩ := hx
          cases e9
        · obtain ⟨v9, e9, hv9⟩ := hx
          cases e9
          have hW3 := hv9
          refine yw_st (st2 := [.int v9]) rfl ?_
          refine y_base (cs := []) (z_I.nil _) ?_
          refine y_pop d_Lw_isBalanced_353 rfl ?_
          refine y_goto (tgt := 693) d_Lw_isBalanced_354 (by decide) ?_
          refine y_lv (lv' := [(7, .int (nI kk)), (6, .int 1), (5, .int go), (4, .int fu), (3, .int b), (2, .int 30), (1, .ref (g.2.2 40)), (0, .ref (ad 0))]) [2, 3, 4, 5, 6, 7, 8, 9] rfl ?_
          refine y_end (fun wC hC => ?_)
          exact yw_bud (by omega) (by omega) (K wC _ _ _ _ _ _ ((hW3.up (Nat.le_succ kk)).e (z_I.same (z_I.nil _) hC)) (hb))
theorem d_Lw_isBalanced_357 : decode method_22_code 357 = .ok (.iload 9, 2) := zo_21 (d := 9) (zd_b zq_method_22_code_11 5 rfl rfl rfl) (zd_b zq_method_22_code_11 6 rfl rfl rfl)
theorem d_Lw_isBalanced_359 : decode method_22_code 359 = .ok (.ifCond .ne 24, 3) := zo_154 (d := 0) (e := 24) (zd_b zq_method_22_code_11 7 rfl rfl rfl) (zd_b zq_method_22_code_11 8 rfl rfl rfl) (zd_b zq_method_22_code_11 9 rfl rfl rfl) (by decide +kernel)
theorem d_Lw_isBalanced_383 : decode method_22_code 383 = .ok (.aload_n 0, 1) := zo_42 (zd_b zq_method_22_code_11 31 rfl rfl rfl)
theorem d_Lw_isBalanced_384 : decode method_22_code 384 = .ok (.bipush 10, 2) := zo_16 (d := 10) (zd_b zq_method_22_code_12 0 rfl rfl rfl) (zd_b zq_method_22_code_12 1 rfl rfl rfl) (by decide +kernel)
theorem d_Lw_isBalanced_386 : decode method_22_code 386 = .ok (.iconst 0, 1) := zo_3 (zd_b zq_method_22_code_12 2 rfl rfl rfl)
theorem d_Lw_isBalanced_387 : decode method_22_code 387 = .ok (.iconst 0, 1) := zo_3 (zd_b zq_method_22_code_12 3 rfl rfl rfl)
theorem d_Lw_isBalanced_388 : decode method_22_code 388 = .ok (.invokestatic 193, 3) := zo_184 (d := 0) (e := 193) (zd_b zq_method_22_code_12 4 rfl rfl rfl) (zd_b zq_method_22_code_12 5 rfl rfl rfl) (zd_b zq_method_22_code_12 6 rfl rfl rfl)
theorem d_Lw_isBalanced_391 : decode method_22_code 391 = .ok (.iload 9, 2) := zo_21 (d := 9) (zd_b zq_method_22_code_12 7 rfl rfl rfl) (zd_b zq_method_22_code_12 8 rfl rfl rfl)
theorem d_Lw_isBalanced_393 : decode method_22_code 393 = .ok (.if_icmp .ne 7, 3) := zo_160 (d := 0) (e := 7) (zd_b zq_method_22_code_12 9 rfl rfl rfl) (zd_b zq_method_22_code_12 10 rfl rfl rfl) (zd_b zq_method_22_code_12 11 rfl rfl rfl) (by decide +kernel)
theorem d_Lw_isBalanced_396 : decode method_22_code 396 = .ok (.iconst 1, 1) := zo_4 (zd_b zq_method_22_code_12 12 rfl rfl rfl)
theorem d_Lw_isBalanced_397 : decode method_22_code 397 = .ok (.goto 4, 3) := zo_167 (d := 0) (e := 4) (zd_b zq_method_22_code_12 13 rfl rfl rfl) (zd_b zq_method_22_code_12 14 rfl rfl rfl) (zd_b zq_method_22_code_12 15 rfl rfl rfl) (by decide +kernel)
theorem d_Lw_isBalanced_401 : decode method_22_code 401 = .ok (.istore 6, 2) := zo_54 (d := 6) (zd_b zq_method_22_code_12 17 rfl rfl rfl) (zd_b zq_method_22_code_12 18 rfl rfl rfl)
theorem d_Lw_isBalanced_403 : decode method_22_code 403 = .ok (.goto 290, 3) := zo_167 (d := 1) (e := 34) (zd_b zq_method_22_code_12 19 rfl rfl rfl) (zd_b zq_method_22_code_12 20 rfl rfl rfl) (zd_b zq_method_22_code_12 21 rfl rfl rfl) (by decide +kernel)
theorem d_Lw_isBalanced_362 : decode method_22_code 362 = .ok (.aload_n 0, 1) := zo_42 (zd_b zq_method_22_code_11 10 rfl rfl rfl)
theorem d_Lw_isBalanced_363 : decode method_22_code 363 = .ok (.bipush 10, 2) := zo_16 (d := 10) (zd_b zq_method_22_code_11 11 rfl rfl rfl) (zd_b zq_method_22_code_11 12 rfl rfl rfl) (by decide +kernel)
theorem d_Lw_isBalanced_365 : decode method_22_code 365 = .ok (.iconst 0, 1) := zo_3 (zd_b zq_method_22_code_11 13 rfl rfl rfl)
theorem d_Lw_isBalanced_366 : decode method_22_code 366 = .ok (.iconst 0, 1) := zo_3 (zd_b zq_method_22_code_11 14 rfl rfl rfl)
theorem d_Lw_isBalanced_367 : decode method_22_code 367 = .ok (.invokestatic 193, 3) := zo_184 (d := 0) (e := 193) (zd_b zq_method_22_code_11 15 rfl rfl rfl) (zd_b zq_method_22_code_11 16 rfl rfl rfl) (zd_b zq_method_22_code_11 17 rfl rfl rfl)
theorem d_Lw_isBalanced_370 : decode method_22_code 370 = .ok (.ldc 174, 2) := zo_18 (d := 174) (zd_b zq_method_22_code_11 18 rfl rfl rfl) (zd_b zq_method_22_code_11 19 rfl rfl rfl)
theorem d_Lw_isBalanced_372 : decode method_22_code 372 = .ok (.if_icmp .ne 7, 3) := zo_160 (d := 0) (e := 7) (zd_b zq_method_22_code_11 20 rfl rfl rfl) (zd_b zq_method_22_code_11 21 rfl rfl rfl) (zd_b zq_method_22_code_11 22 rfl rfl rfl) (by decide +kernel)
theorem d_Lw_isBalanced_375 : decode method_22_code 375 = .ok (.iconst 1, 1) := zo_4 (zd_b zq_method_22_code_11 23 rfl rfl rfl)
theorem d_Lw_isBalanced_376 : decode method_22_code 376 = .ok (.goto 25, 3) := zo_167 (d := 0) (e := 25) (zd_b zq_method_22_code_11 24 rfl rfl rfl) (zd_b zq_method_22_code_11 25 rfl rfl rfl) (zd_b zq_method_22_code_11 26 rfl rfl rfl) (by decide +kernel)
set_option maxHeartbeats 4000000 in
set_option maxRecDepth 100000 in
theorem IB_4 (g : zG) {ad : Nat → Nat} {f : Nat → Int32} {kk : Nat} {b fu la gy du go : Int32} {w : zW} {kc ks : Nat} (hk : kk < 14) (hL : g.2.2 41 ≤ 260) (hW : Wq g ad f kk fu la gy du w) (hb : b = fu + la + gy + du + go) (K : ∀ (w : zW) (b fu la gy du go : Int32), Wq g ad f (kk + 1) fu la gy du w → b = fu + la + gy + du + go → DW g M_Lw_isBalanced (fun o w1 => o = .inl (some (.int 1)) ∧ ∃ k9 fu9 la9 gy9 du9, Wq g ad f k9 fu9 la9 gy9 du9 w1) w 693 [(7, .int (nI kk)), (6, .int 1), (5, .int go), (4, .int fu), (3, .int b), (2, .int 30), (1, .ref (g.2.2 40)), (0, .ref (ad 0))] [] (kc) (ks)) : DW g M_Lw_isBalanced (fun o w1 => o = .inl (some (.int 1)) ∧ ∃ k9 fu9 la9 gy9 du9, Wq g ad f k9 fu9 la9 gy9 du9 w1) w 357 [(9, .int la), (8, .int (nI (30 + 4 * kk))), (7, .int (nI kk)), (6, .int 1), (5, .int go), (4, .int fu), (3, .int b), (2, .int 30), (1, .ref (g.2.2 40)), (0, .ref (ad 0))] [] (kc + 30) (ks + 500) := by
  refine y_base (cs := []) (z_I.nil w) ?_
  refine y_iload d_Lw_isBalanced_357 0 rfl ?_
  refine y_if_ne (tgt := 383) d_Lw_isBalanced_359 (by decide) (fun c_359 => ?_) (fun c_359 => ?_)
  · refine y_aload_n d_Lw_isBalanced_383 rfl 9 rfl ?_
    refine y_bipush d_Lw_isBalanced_384 (v := 10) (by decide) ?_
    refine y_iconst d_Lw_isBalanced_386 (v := 0) (by decide) ?_
    refine y_iconst d_Lw_isBalanced_387 (v := 0) (by decide) ?_
    refine yw_callS (As := [.ref (ad 0), .int 10, .int 0, .int 0]) (rest := []) ln_Lw_193 w_st_Lw_ask ok_Lw_isBalanced_Lw_ask d_Lw_isBalanced_388 (fun wA hA => B_pig hk (hW.e (z_I.same (z_I.nil _) hA)) ) rfl rfl (Nat.le_of_ble_eq_true rfl) (by omega) (by omega) (fun wA388 hA388 E wB388 hx => ?_) (fun wA388 hA388 v wB388 hx => ?_)
    · obtain ⟨v9, e9, -⟩ := hx
      cases e9
    · obtain ⟨v9, e9, hv9⟩ := hx
      cases e9
      rcases hv9 with ⟨q9, -⟩ | ⟨-, e9, hp9⟩
      · exact absurd q9 c_359
      refine yw_st (st2 := [.int v9]) rfl ?_
      refine y_base (cs := []) (z_I.nil _) ?_
      refine y_iload d_Lw_isBalanced_391 0 rfl ?_
      refine y_icmp_ne (tgt := 400) d_Lw_isBalanced_393 (by decide) (fun c_393 => ?_) (fun c_393 => ?_)
      · exact absurd e9 c_393
      · refine y_iconst d_Lw_isBalanced_396 (v := 1) (by decide) ?_
        refine y_goto (tgt := 401) d_Lw_isBalanced_397 (by decide) ?_
        refine y_istore (lv' := [(6, .int 1), (9, .int la), (8, .int (nI (30 + 4 * kk))), (7, .int (nI kk)), (5, .int go), (4, .int fu), (3, .int b), (2, .int 30), (1, .ref (g.2.2 40)), (0, .ref (ad 0))]) d_Lw_isBalanced_401 (by decide) rfl ?_
        refine y_goto (tgt := 693) d_Lw_isBalanced_403 (by decide) ?_
        refine y_lv (lv' := [(7, .int (nI kk)), (6, .int 1), (5, .int go), (4, .int fu), (3, .int b), (2, .int 30), (1, .ref (g.2.2 40)), (0, .ref (ad 0))]) [3, 0, 4, 5, 6, 7, 8, 9] rfl ?_
        refine y_end (fun wC hC => ?_)
        rcases hp9 with hW2 | hW2
        · exact yw_bud (by omega) (by omega) (K wC _ _ _ _ _ _ (hW2.e (z_I.same (z_I.nil _) hC)) (by rw [hb]; exact hb_pg _ _ _ _ _))
        · exact yw_bud (by omega) (by omega) (K wC _ _ _ _ _ _ (hW2.e (z_I.same (z_I.nil _) hC)) (by rw [hb]; exact hb_pd _ _ _ _ _))
  · refine y_aload_n d_Lw_isBalanced_362 rfl 9 rfl ?_
    refine y_bipush d_Lw_isBalanced_363 (v := 10) (by decide) ?_
    refine y_iconst d_Lw_isBalanced_365 (v := 0) (by decide) ?_
    refine y_iconst d_Lw_isBalanced_366 (v := 0) (by decide) ?_
    refine yw_callS (As := [.ref (ad 0), .int 10, .int 0, .int 0]) (rest := []) ln_Lw_193 w_st_Lw_ask ok_Lw_isBalanced_Lw_ask d_Lw_isBalanced_367 (fun wA hA => B_pig hk (hW.e (z_I.same (z_I.nil _) hA)) ) rfl rfl (Nat.le_of_ble_eq_true rfl) (by omega) (by omega) (fun wA367 hA367 E wB367 hx => ?_) (fun wA367 hA367 v wB367 hx => ?_)
    · obtain ⟨v9, e9, -⟩ := hx
      cases e9
    · obtain ⟨v9, e9, hv9⟩ := hx
      cases e9
      rcases hv9 with ⟨-, e9, hW2⟩ | ⟨q9, -⟩
      rotate_left
      · exact absurd c_359 q9
      subst e9
      refine yw_st (st2 := [.int (-200003)]) rfl ?_
      refine y_base (cs := []) (z_I.nil _) ?_
      refine y_ldc ct_Lw_174 d_Lw_isBalanced_370 ?_
      refine y_icmp_ne (tgt := 379) d_Lw_isBalanced_372 (by decide) (fun c_372 => ?_) (fun c_372 => ?_)
      · exact absurd c_372 (by decide)
      · refine y_iconst d_Lw_isBalanced_375 (v := 1) (by decide) ?_
        refine y_goto (tgt := 401) d_Lw_isBalanced_376 (by decide) ?_
        refine y_istore (lv' := [(6, .int 1), (9, .int la), (8, .int (nI (30 + 4 * kk))), (7, .int (nI kk)), (5, .int go), (4, .int fu), (3, .int b), (2, .int 30), (1, .ref (g.2.2 40)), (0, .ref (ad 0))]) d_Lw_isBalanced_401 (by decide) rfl ?_
        refine y_goto (tgt := 693) d_Lw_isBalanced_403 (by decide) ?_
        refine y_lv (lv' := [(7, .int (nI kk)), (6, .int 1), (5, .int go), (4, .int fu), (3, .int b), (2, .int 30), (1, .ref (g.2.2 40)), (0, .ref (ad 0))]) [3, 0, 4, 5, 6, 7, 8, 9] rfl ?_
        refine y_end (fun wC hC => ?_)
        exact yw_bud (by omega) (by omega) (K wC _ _ _ _ _ _ ((hW2.up (Nat.le_succ kk)).e (z_I.same (z_I.nil _) hC)) (hb))
theorem d_Lw_isBalanced_406 : decode method_22_code 406 = .ok (.aload_n 0, 1) := zo_42 (zd_b zq_method_22_code_12 22 rfl rfl rfl)
theorem d_Lw_isBalanced_407 : decode method_22_code 407 = .ok (.bipush 11, 2) := zo_16 (d := 11) (zd_b zq_method_22_code_12 23 rfl rfl rfl) (zd_b zq_method_22_code_12 24 rfl rfl rfl) (by decide +kernel)
theorem d_Lw_isBalanced_409 : decode method_22_code 409 = .ok (.iconst 0, 1) := zo_3 (zd_b zq_method_22_code_12 25 rfl rfl rfl)
theorem d_Lw_isBalanced_410 : decode method_22_code 410 = .ok (.iconst 0, 1) := zo_3 (zd_b zq_method_22_code_12 26 rfl rfl rfl)
theorem d_Lw_isBalanced_411 : decode method_22_code 411 = .ok (.invokestatic 193, 3) := zo_184 (d := 0) (e := 193) (zd_b zq_method_22_code_12 27 rfl rfl rfl) (zd_b zq_method_22_code_12 28 rfl rfl rfl) (zd_b zq_method_22_code_12 29 rfl rfl rfl)
theorem d_Lw_isBalanced_414 : decode method_22_code 414 = .ok (.pop, 1) := zo_87 (zd_b zq_method_22_code_12 30 rfl rfl rfl)
theorem d_Lw_isBalanced_415 : decode method_22_code 415 = .ok (.aload_n 0, 1) := zo_42 (zd_b zq_method_22_code_12 31 rfl rfl rfl)
theorem d_Lw_isBalanced_416 : decode method_22_code 416 = .ok (.bipush 12, 2) := zo_16 (d := 12) (zd_b zq_method_22_code_13 0 rfl rfl rfl) (zd_b zq_method_22_code_13 1 rfl rfl rfl) (by decide +kernel)
theorem d_Lw_isBalanced_418 : decode method_22_code 418 = .ok (.iconst 0, 1) := zo_3 (zd_b zq_method_22_code_13 2 rfl rfl rfl)
theorem d_Lw_isBalanced_419 : decode method_22_code 419 = .ok (.iconst 0, 1) := zo_3 (zd_b zq_method_22_code_13 3 rfl rfl rfl)
theorem d_Lw_isBalanced_420 : decode method_22_code 420 = .ok (.invokestatic 193, 3) := zo_184 (d := 0) (e := 193) (zd_b zq_method_22_code_13 4 rfl rfl rfl) (zd_b zq_method_22_code_13 5 rfl rfl rfl) (zd_b zq_method_22_code_13 6 rfl rfl rfl)
theorem d_Lw_isBalanced_423 : decode method_22_code 423 = .ok (.istore 14, 2) := zo_54 (d := 14) (zd_b zq_method_22_code_13 7 rfl rfl rfl) (zd_b zq_method_22_code_13 8 rfl rfl rfl)
theorem d_Lw_isBalanced_425 : decode method_22_code 425 = .ok (.iload 14, 2) := zo_21 (d := 14) (zd_b zq_method_22_code_13 9 rfl rfl rfl) (zd_b zq_method_22_code_13 10 rfl rfl rfl)
theorem d_Lw_isBalanced_427 : decode method_22_code 427 = .ok (.ifCond .lt 38, 3) := zo_155 (d := 0) (e := 38) (zd_b zq_method_22_code_13 11 rfl rfl rfl) (zd_b zq_method_22_code_13 12 rfl rfl rfl) (zd_b zq_method_22_code_13 13 rfl rfl rfl) (by decide +kernel)
theorem d_Lw_isBalanced_465 : decode method_22_code 465 = .ok (.iconst 1, 1) := zo_4 (zd_b zq_method_22_code_14 17 rfl rfl rfl)
theorem d_Lw_isBalanced_466 : decode method_22_code 466 = .ok (.goto 4, 3) := zo_167 (d := 0) (e := 4) (zd_b zq_method_22_code_14 18 rfl rfl rfl) (zd_b zq_method_22_code_14 19 rfl rfl rfl) (zd_b zq_method_22_code_14 20 rfl rfl rfl) (by decide +kernel)
theorem d_Lw_isBalanced_470 : decode method_22_code 470 = .ok (.istore 6, 2) := zo_54 (d := 6) (zd_b zq_method_22_code_14 22 rfl rfl rfl) (zd_b zq_method_22_code_14 23 rfl rfl rfl)
theorem d_Lw_isBalanced_472 : decode method_22_code 472 = .ok (.iload 5, 2) := zo_21 (d := 5) (zd_b zq_method_22_code_14 24 rfl rfl rfl) (zd_b zq_method_22_code_14 25 rfl rfl rfl)
theorem d_Lw_isBalanced_474 : decode method_22_code 474 = .ok (.iload 14, 2) := zo_21 (d := 14) (zd_b zq_method_22_code_14 26 rfl rfl rfl) (zd_b zq_method_22_code_14 27 rfl rfl rfl)
theorem d_Lw_isBalanced_476 : decode method_22_code 476 = .ok (.ifCond .ge 7, 3) := zo_156 (d := 0) (e := 7) (zd_b zq_method_22_code_14 28 rfl rfl rfl) (zd_b zq_method_22_code_14 29 rfl rfl rfl) (zd_b zq_method_22_code_14 30 rfl rfl rfl) (by decide +kernel)
theorem d_Lw_isBalanced_479 : decode method_22_code 479 = .ok (.iconst 0, 1) := zo_3 (zd_b zq_method_22_code_14 31 rfl rfl rfl)
theorem d_Lw_isBalanced_480 : decode method_22_code 480 = .ok (.goto 15, 3) := zo_167 (d := 0) (e := 15) (zd_b zq_method_22_code_15 0 rfl rfl rfl) (zd_b zq_method_22_code_15 1 rfl rfl rfl) (zd_b zq_method_22_code_15 2 rfl rfl rfl) (by decide +kernel)
theorem d_Lw_isBalanced_495 : decode method_22_code 495 = .ok (.iadd, 1) := zo_96 (zd_b zq_method_22_code_15 15 rfl rfl rfl)
theorem d_Lw_isBalanced_496 : decode method_22_code 496 = .ok (.istore 5, 2) := zo_54 (d := 5) (zd_b zq_method_22_code_15 16 rfl rfl rfl) (zd_b zq_method_22_code_15 17 rfl rfl rfl)
theorem d_Lw_isBalanced_498 : decode method_22_code 498 = .ok (.goto 195, 3) := zo_167 (d := 0) (e := 195) (zd_b zq_method_22_code_15 18 rfl rfl rfl) (zd_b zq_method_22_code_15 19 rfl rfl rfl) (zd_b zq_method_22_code_15 20 rfl rfl rfl) (by decide +kernel)
theorem d_Lw_isBalanced_430 : decode method_22_code 430 = .ok (.aload_n 0, 1) := zo_42 (zd_b zq_method_22_code_13 14 rfl rfl rfl)
theorem d_Lw_isBalanced_431 : decode method_22_code 431 = .ok (.bipush 32, 2) := zo_16 (d := 32) (zd_b zq_method_22_code_13 15 rfl rfl rfl) (zd_b zq_method_22_code_13 16 rfl rfl rfl) (by decide +kernel)
theorem d_Lw_isBalanced_433 : decode method_22_code 433 = .ok (.bipush 119, 2) := zo_16 (d := 119) (zd_b zq_method_22_code_13 17 rfl rfl rfl) (zd_b zq_method_22_code_13 18 rfl rfl rfl) (by decide +kernel)
theorem d_Lw_isBalanced_435 : decode method_22_code 435 = .ok (.iconst 0, 1) := zo_3 (zd_b zq_method_22_code_13 19 rfl rfl rfl)
theorem d_Lw_isBalanced_436 : decode method_22_code 436 = .ok (.invokestatic 193, 3) := zo_184 (d := 0) (e := 193) (zd_b zq_method_22_code_13 20 rfl rfl rfl) (zd_b zq_method_22_code_13 21 rfl rfl rfl) (zd_b zq_method_22_code_13 22 rfl rfl rfl)
theorem d_Lw_isBalanced_439 : decode method_22_code 439 = .ok (.iconst 0, 1) := zo_3 (zd_b zq_method_22_code_13 23 rfl rfl rfl)
theorem d_Lw_isBalanced_440 : decode method_22_code 440 = .ok (.iload 9, 2) := zo_21 (d := 9) (zd_b zq_method_22_code_13 24 rfl rfl rfl) (zd_b zq_method_22_code_13 25 rfl rfl rfl)
theorem d_Lw_isBalanced_442 : decode method_22_code 442 = .ok (.aload_n 0, 1) := zo_42 (zd_b zq_method_22_code_13 26 rfl rfl rfl)
theorem d_Lw_isBalanced_443 : decode method_22_code 443 = .ok (.invokevirtual 241, 3) := zo_182 (d := 0) (e := 241) (zd_b zq_method_22_code_13 27 rfl rfl rfl) (zd_b zq_method_22_code_13 28 rfl rfl rfl) (zd_b zq_method_22_code_13 29 rfl rfl rfl)
theorem ok_Lw_isBalanced_Ip_weight : z_ok M_Lw_isBalanced M_Ip_weight 0 := ⟨z_mj6 (i := 215) rfl (by decide +kernel), rfl, ⟨by decide +kernel, by decide +kernel, by decide +kernel⟩, ⟨by decide, by decide⟩, z_mj1 (i := 1) rfl (by decide +kernel), rfl⟩
theorem ln_Lw_241 : Cond.methodLink "IronpourLaw" 241 M_Ip_weight.1 ∈ z_gw := z_mj6 (i := 212) rfl (by decide +kernel)
theorem w_im_Ip_weight : Cond.instanceMethod M_Ip_weight.1 ∈ z_gw := z_mj6 (i := 213) rfl (by decide +kernel)
theorem w_se_Ip_weight : Cond.selects M_Ip_weight.1.cls M_Ip_weight.1 M_Ip_weight.1 ∈ z_gw := z_mj6 (i := 214) rfl (by decide +kernel)
theorem d_Lw_isBalanced_446 : decode method_22_code 446 = .ok (.isub, 1) := zo_100 (zd_b zq_method_22_code_13 30 rfl rfl rfl)
theorem d_Lw_isBalanced_447 : decode method_22_code 447 = .ok (.invokestatic 227, 3) := zo_184 (d := 0) (e := 227) (zd_b zq_method_22_code_13 31 rfl rfl rfl) (zd_b zq_method_22_code_14 0 rfl rfl rfl) (zd_b zq_method_22_code_14 1 rfl rfl rfl)
theorem d_Lw_isBalanced_450 : decode method_22_code 450 = .ok (.if_icmp .ne 19, 3) := zo_160 (d := 0) (e := 19) (zd_b zq_method_22_code_14 2 rfl rfl rfl) (zd_b zq_method_22_code_14 3 rfl rfl rfl) (zd_b zq_method_22_code_14 4 rfl rfl rfl) (by decide +kernel)
theorem d_Lw_isBalanced_453 : decode method_22_code 453 = .ok (.aload_n 0, 1) := zo_42 (zd_b zq_method_22_code_14 5 rfl rfl rfl)
theorem d_Lw_isBalanced_454 : decode method_22_code 454 = .ok (.bipush 37, 2) := zo_16 (d := 37) (zd_b zq_method_22_code_14 6 rfl rfl rfl) (zd_b zq_method_22_code_14 7 rfl rfl rfl) (by decide +kernel)
theorem d_Lw_isBalanced_456 : decode method_22_code 456 = .ok (.iload 14, 2) := zo_21 (d := 14) (zd_b zq_method_22_code_14 8 rfl rfl rfl) (zd_b zq_method_22_code_14 9 rfl rfl rfl)
theorem d_Lw_isBalanced_458 : decode method_22_code 458 = .ok (.iconst 0, 1) := zo_3 (zd_b zq_method_22_code_14 10 rfl rfl rfl)
theorem d_Lw_isBalanced_459 : decode method_22_code 459 = .ok (.invokestatic 193, 3) := zo_184 (d := 0) (e := 193) (zd_b zq_method_22_code_14 11 rfl rfl rfl) (zd_b zq_method_22_code_14 12 rfl rfl rfl) (zd_b zq_method_22_code_14 13 rfl rfl rfl)
theorem d_Lw_isBalanced_462 : decode method_22_code 462 = .ok (.ifCond .lt 7, 3) := zo_155 (d := 0) (e := 7) (zd_b zq_method_22_code_14 14 rfl rfl rfl) (zd_b zq_method_22_code_14 15 rfl rfl rfl) (zd_b zq_method_22_code_14 16 rfl rfl rfl) (by decide +kernel)
theorem d_Lw_isBalanced_483 : decode method_22_code 483 = .ok (.iload 9, 2) := zo_21 (d := 9) (zd_b zq_method_22_code_15 3 rfl rfl rfl) (zd_b zq_method_22_code_15 4 rfl rfl rfl)
theorem d_Lw_isBalanced_485 : decode method_22_code 485 = .ok (.aload_n 0, 1) := zo_42 (zd_b zq_method_22_code_15 5 rfl rfl rfl)
theorem d_Lw_isBalanced_486 : decode method_22_code 486 = .ok (.bipush 32, 2) := zo_16 (d := 32) (zd_b zq_method_22_code_15 6 rfl rfl rfl) (zd_b zq_method_22_code_15 7 rfl rfl rfl) (by decide +kernel)
theorem d_Lw_isBalanced_488 : decode method_22_code 488 = .ok (.bipush 119, 2) := zo_16 (d := 119) (zd_b zq_method_22_code_15 8 rfl rfl rfl) (zd_b zq_method_22_code_15 9 rfl rfl rfl) (by decide +kernel)
theorem d_Lw_isBalanced_490 : decode method_22_code 490 = .ok (.iconst 0, 1) := zo_3 (zd_b zq_method_22_code_15 10 rfl rfl rfl)
theorem d_Lw_isBalanced_491 : decode method_22_code 491 = .ok (.invokestatic 193, 3) := zo_184 (d := 0) (e := 193) (zd_b zq_method_22_code_15 11 rfl rfl rfl) (zd_b zq_method_22_code_15 12 rfl rfl rfl) (zd_b zq_method_22_code_15 13 rfl rfl rfl)
theorem d_Lw_isBalanced_494 : decode method_22_code 494 = .ok (.isub, 1) := zo_100 (zd_b zq_method_22_code_15 14 rfl rfl rfl)
set_option maxHeartbeats 4000000 in
set_option maxRecDepth 100000 in
theorem IB_5 (g : zG) {ad : Nat → Nat} {f : Nat → Int32} {kk : Nat} {b fu la gy du go : Int32} {w : zW} {kc ks : Nat} (hk : kk < 14) (hL : g.2.2 41 ≤ 260) (hW : Wq g ad f kk fu la gy du w) (hb : b = fu + la + gy + du + go) (K : ∀ (w : zW) (b fu la gy du go : Int32), Wq g ad f (kk + 1) fu la gy du w → b = fu + la + gy + du + go → DW g M_Lw_isBalanced (fun o w1 => o = .inl (some (.int 1)) ∧ ∃ k9 fu9 la9 gy9 du9, Wq g ad f k9 fu9 la9 gy9 du9 w1) w 693 [(7, .int (nI kk)), (6, .int 1), (5, .int go), (4, .int fu), (3, .int b), (2, .int 30), (1, .ref (g.2.2 40)), (0, .ref (ad 0))] [] (kc) (ks)) : DW g M_Lw_isBalanced (fun o w1 => o = .inl (some (.int 1)) ∧ ∃ k9 fu9 la9 gy9 du9, Wq g ad f k9 fu9 la9 gy9 du9 w1) w 406 [(9, .int la), (8, .int (nI (30 + 4 * kk))), (7, .int (nI kk)), (6, .int 1), (5, .int go), (4, .int fu), (3, .int b), (2, .int 30), (1, .ref (g.2.2 40)), (0, .ref (ad 0))] [] (kc + 30) (ks + 500) := by
  refine y_base (cs := []) (z_I.nil w) ?_
  refine y_aload_n d_Lw_isBalanced_406 rfl 9 rfl ?_
  refine y_bipush d_Lw_isBalanced_407 (v := 11) (by decide) ?_
  refine y_iconst d_Lw_isBalanced_409 (v := 0) (by decide) ?_
  refine y_iconst d_Lw_isBalanced_410 (v := 0) (by decide) ?_
  refine yw_callS (As := [.ref (ad 0), .int 11, .int 0, .int 0]) (rest := []) ln_Lw_193 w_st_Lw_ask ok_Lw_isBalanced_Lw_ask d_Lw_isBalanced_411 (fun wA hA => B_mould (hW.e (z_I.same (z_I.nil _) hA)) ) rfl rfl (Nat.le_of_ble_eq_true rfl) (by omega) (by omega) (fun wA411 hA411 E wB411 hx => ?_) (fun wA411 hA411 v wB411 hx => ?_)
  · obtain ⟨v9, e9, -⟩ := hx
    cases e9
  · obtain ⟨v9, e9, hv9⟩ := hx
    cases e9
    have hW2 := hv9
    refine yw_st (st2 := [.int v9]) rfl ?_
    refine y_base (cs := []) (z_I.nil _) ?_
    refine y_pop d_Lw_isBalanced_414 rfl ?_
    refine y_aload_n d_Lw_isBalanced_415 rfl 9 rfl ?_
    refine y_bipush d_Lw_isBalanced_416 (v := 12) (by decide) ?_
    refine y_iconst d_Lw_isBalanced_418 (v := 0) (by decide) ?_
    refine y_iconst d_Lw_isBalanced_419 (v := 0) (by decide) ?_
    refine yw_callS (As := [.ref (ad 0), .int 12, .int 0, .int 0]) (rest := []) ln_Lw_193 w_st_Lw_ask ok_Lw_isBalanced_Lw_ask d_Lw_isBalanced_420 (fun wA hA => B_pour (hW2.e (z_I.same (z_I.nil _) hA)) ) rfl rfl (Nat.le_of_ble_eq_true rfl) (by omega) (by omega) (fun wA420 hA420 E wB420 hx => ?_) (fun wA420 hA420 v wB420 hx => ?_)
    · obtain ⟨v9, e9, -⟩ := hx
      cases e9
    · obtain ⟨v9, e9, hv9⟩ := hx
      cases e9
      refine yw_st (st2 := [.int v9]) rfl ?_
      refine y_base (cs := []) (z_I.nil _) ?_
      refine y_istore (lv' := [(14, .int v9), (9, .int la), (8, .int (nI (30 + 4 * kk))), (7, .int (nI kk)), (6, .int 1), (5, .int go), (4, .int fu), (3, .int b), (2, .int 30), (1, .ref (g.2.2 40)), (0, .ref (ad 0))]) d_Lw_isBalanced_423 (by decide) rfl ?_
      refine y_iload d_Lw_isBalanced_425 0 rfl ?_
      refine y_if_lt (tgt := 465) d_Lw_isBalanced_427 (by decide) (fun c_427 => ?_) (fun c_427 => ?_)
      · have hW3 := (hv9.resolve_right (fun q => q.1 c_427)).2
        refine y_iconst d_Lw_isBalanced_465 (v := 1) (by decide) ?_
        refine y_goto (tgt := 470) d_Lw_isBalanced_466 (by decide) ?_
        refine y_istore (lv' := [(6, .int 1), (14, .int v9), (9, .int la), (8, .int (nI (30 + 4 * kk))), (7, .int (nI kk)), (5, .int go), (4, .int fu), (3, .int b), (2, .int 30), (1, .ref (g.2.2 40)), (0, .ref (ad 0))]) d_Lw_isBalanced_470 (by decide) rfl ?_
        refine y_iload d_Lw_isBalanced_472 5 rfl ?_
        refine y_iload d_Lw_isBalanced_474 1 rfl ?_
        refine y_if_ge (tgt := 483) d_Lw_isBalanced_476 (by decide) (fun c_476 => ?_) (fun c_476 => ?_)
        · exact absurd c_427 (Int32.not_lt.mpr c_476)
        · refine y_iconst d_Lw_isBalanced_479 (v := 0) (by decide) ?_
          refine y_goto (tgt := 495) d_Lw_isBalanced_480 (by decide) ?_
          refine y_iadd d_Lw_isBalanced_495 (v := go + 0) rfl ?_
          refine y_istore (lv' := [(5, .int (go + 0)), (6, .int 1), (14, .int v9), (9, .int la), (8, .int (nI (30 + 4 * kk))), (7, .int (nI kk)), (4, .int fu), (3, .int b), (2, .int 30), (1, .ref (g.2.2 40)), (0, .ref (ad 0))]) d_Lw_isBalanced_496 (by decide) rfl ?_
          refine y_goto (tgt := 693) d_Lw_isBalanced_498 (by decide) ?_
          refine y_lv (lv' := [(7, .int (nI kk)), (6, .int 1), (5, .int (go + 0)), (4, .int fu), (3, .int b), (2, .int 30), (1, .ref (g.2.2 40)), (0, .ref (ad 0))]) [5, 1, 0, 6, 7, 8, 9, 10] rfl ?_
          refine y_end (fun wC hC => ?_)
          exact yw_bud (by omega) (by omega) (K wC _ _ _ _ _ _ ((hW3.up (Nat.le_succ kk)).e (z_I.same (z_I.nil _) hC)) (by rw [Int32.add_zero]; exact hb))
      · have hWp := (hv9.resolve_left (fun q => c_427 q.1)).2
        refine y_aload_n d_Lw_isBalanced_430 rfl 10 rfl ?_
        refine y_bipush d_Lw_isBalanced_431 (v := 32) (by decide) ?_
        refine y_bipush d_Lw_isBalanced_433 (v := 119) (by decide) ?_
        refine y_iconst d_Lw_isBalanced_435 (v := 0) (by decide) ?_
        refine yw_callS (As := [.ref (ad 0), .int 32, .int 119, .int 0]) (rest := []) ln_Lw_193 w_st_Lw_ask ok_Lw_isBalanced_Lw_ask d_Lw_isBalanced_436 (fun wA hA => B_ladle (hWp.q.e (z_I.same (z_I.nil _) hA))) rfl rfl (Nat.le_of_ble_eq_true rfl) (by omega) (by omega) (fun wA436 hA436 E wB436 hx => ?_) (fun wA436 hA436 v wB436 hx => ?_)
        · exact absurd hx.1 (by simp)
        · obtain ⟨e1, e2⟩ := hx
          cases e1
          refine yw_st (st2 := [.int (if 0 < la - (2 * nI (cnM f)) then la - (2 * nI (cnM f)) else 0)]) rfl ?_
          subst e2
          refine y_go hA436 ?_
          refine y_iconst d_Lw_isBalanced_439 (v := 0) (by decide) ?_
          refine y_iload d_Lw_isBalanced_440 1 rfl ?_
          refine y_aload_n d_Lw_isBalanced_442 rfl 10 rfl ?_
          refine yw_callVL (As := []) (rest := [.int la, .int 0, .int (if 0 < la - (2 * nI (cnM f)) then la - (2 * nI (cnM f)) else 0)]) (ci := 11) rfl (fun wA hA => (hWp.q.e (z_I.same (z_I.nil _) hA)).ra) ln_Lw_241 w_im_Ip_weight w_se_Ip_weight ok_Lw_isBalanced_Ip_weight d_Lw_isBalanced_443 (fun wA hA => B_weight (hWp.q.e (z_I.same (z_I.nil _) hA))) rfl rfl (Nat.le_of_ble_eq_true rfl) (by omega) (by omega) (fun wA443 hA443 E wB443 hx => ?_) (fun wA443 hA443 v wB443 hx => ?_)
          · exact absurd hx.1 (by simp)
          · obtain ⟨e1, e2⟩ := hx
            cases e1
            refine yw_st (st2 := [.int (2 * nI (cnM f)), .int la, .int 0, .int (if 0 < la - (2 * nI (cnM f)) then la - (2 * nI (cnM f)) else 0)]) rfl ?_
            subst e2
            refine y_go hA443 ?_
            refine y_isub d_Lw_isBalanced_446 (v := la - (2 * nI (cnM f))) rfl ?_
            refine y_max (v := (if 0 < la - (2 * nI (cnM f)) then la - (2 * nI (cnM f)) else 0)) ln_Lw_227 w_mmax w_mi w_cmax d_Lw_isBalanced_447 (by decide) (by decide) (Nat.le_of_ble_eq_true rfl) rfl ?_
            refine y_icmp_ne (tgt := 469) d_Lw_isBalanced_450 (by decide) (fun c_450 => ?_) (fun c_450 => ?_)
            · exact absurd rfl c_450
            · refine y_aload_n d_Lw_isBalanced_453 rfl 10 rfl ?_
              refine y_bipush d_Lw_isBalanced_454 (v := 37) (by decide) ?_
              refine y_iload d_Lw_isBalanced_456 0 rfl ?_
              refine y_iconst d_Lw_isBalanced_458 (v := 0) (by decide) ?_
              refine yw_callS (As := [.ref (ad 0), .int 37, .int v9, .int 0]) (rest := []) ln_Lw_193 w_st_Lw_ask ok_Lw_isBalanced_Lw_ask d_Lw_isBalanced_459 (fun wA hA => B_faults (hWp.e (z_I.same (z_I.nil _) hA))) rfl rfl (Nat.le_of_ble_eq_true rfl) (by omega) (by omega) (fun wA459 hA459 E wB459 hx => ?_) (fun wA459 hA459 v wB459 hx => ?_)
              · obtain ⟨fl9, e9, -⟩ := hx
                cases e9
              · obtain ⟨fl9, e9, hf9, hW4⟩ := hx
                cases e9
                refine yw_st (st2 := [.int fl9]) rfl ?_
                refine y_base (cs := []) (z_I.nil _) ?_
                refine y_if_lt (tgt := 469) d_Lw_isBalanced_462 (by decide) (fun c_462 => ?_) (fun c_462 => ?_)
                · exact absurd c_462 (Int32.not_lt.mpr hf9)
                · refine y_iconst d_Lw_isBalanced_465 (v := 1) (by decide) ?_
                  refine y_goto (tgt := 470) d_Lw_isBalanced_466 (by decide) ?_
                  refine y_istore (lv' := [(6, .int 1), (14, .int v9), (9, .int la), (8, .int (nI (30 + 4 * kk))), (7, .int (nI kk)), (5, .int go), (4, .int fu), (3, .int b), (2, .int 30), (1, .ref (g.2.2 40)), (0, .ref (ad 0))]) d_Lw_isBalanced_470 (by decide) rfl ?_
                  refine y_iload d_Lw_isBalanced_472 5 rfl ?_
                  refine y_iload d_Lw_isBalanced_474 1 rfl ?_
                  refine y_if_ge (tgt := 483) d_Lw_isBalanced_476 (by decide) (fun c_476 => ?_) (fun c_476 => ?_)
                  · refine y_iload d_Lw_isBalanced_483 2 rfl ?_
                    refine y_aload_n d_Lw_isBalanced_485 rfl 10 rfl ?_
                    refine y_bipush d_Lw_isBalanced_486 (v := 32) (by decide) ?_
                    refine y_bipush d_Lw_isBalanced_488 (v := 119) (by decide) ?_
                    refine y_iconst d_Lw_isBalanced_490 (v := 0) (by decide) ?_
                    refine yw_callS (As := [.ref (ad 0), .int 32, .int 119, .int 0]) (rest := [.int la, .int go]) ln_Lw_193 w_st_Lw_ask ok_Lw_isBalanced_Lw_ask d_Lw_isBalanced_491 (fun wA hA => B_ladle (hW4.e (z_I.same (z_I.nil _) hA))) rfl rfl (Nat.le_of_ble_eq_true rfl) (by omega) (by omega) (fun wA491 hA491 E wB491 hx => ?_) (fun wA491 hA491 v wB491 hx => ?_)
                    · exact absurd hx.1 (by simp)
                    · obtain ⟨e1, e2⟩ := hx
                      cases e1
                      refine yw_st (st2 := [.int (if 0 < la - (2 * nI (cnM f)) then la - (2 * nI (cnM f)) else 0), .int la, .int go]) rfl ?_
                      subst e2
                      refine y_go hA491 ?_
                      refine y_isub d_Lw_isBalanced_494 (v := la - (if 0 < la - (2 * nI (cnM f)) then la - (2 * nI (cnM f)) else 0)) rfl ?_
                      refine y_iadd d_Lw_isBalanced_495 (v := go + (la - (if 0 < la - (2 * nI (cnM f)) then la - (2 * nI (cnM f)) else 0))) rfl ?_
                      refine y_istore (lv' := [(5, .int (go + (la - (if 0 < la - (2 * nI (cnM f)) then la - (2 * nI (cnM f)) else 0)))), (6, .int 1), (14, .int v9), (9, .int la), (8, .int (nI (30 + 4 * kk))), (7, .int (nI kk)), (4, .int fu), (3, .int b), (2, .int 30), (1, .ref (g.2.2 40)), (0, .ref (ad 0))]) d_Lw_isBalanced_496 (by decide) rfl ?_
                      refine y_goto (tgt := 693) d_Lw_isBalanced_498 (by decide) ?_
                      refine y_lv (lv' := [(7, .int (nI kk)), (6, .int 1), (5, .int (go + (la - (if 0 < la - (2 * nI (cnM f)) then la - (2 * nI (cnM f)) else 0)))), (4, .int fu), (3, .int b), (2, .int 30), (1, .ref (g.2.2 40)), (0, .ref (ad 0))]) [5, 1, 0, 6, 7, 8, 9, 10] rfl ?_
                      refine y_end (fun wC hC => ?_)
                      exact yw_bud (by omega) (by omega) (K wC _ _ _ _ _ _ ((hW4.up (Nat.le_succ kk)).e (z_I.same (z_I.nil _) hC)) (by rw [hb]; exact hb_po _ _ _ _ _ _))
                  · exact absurd (Int32.not_lt.mp c_427) c_476
theorem d_Lw_isBalanced_501 : decode method_22_code 501 = .ok (.aload_n 0, 1) := zo_42 (zd_b zq_method_22_code_15 21 rfl rfl rfl)
theorem d_Lw_isBalanced_502 : decode method_22_code 502 = .ok (.bipush 33, 2) := zo_16 (d := 33) (zd_b zq_method_22_code_15 22 rfl rfl rfl) (zd_b zq_method_22_code_15 23 rfl rfl rfl) (by decide +kernel)
theorem d_Lw_isBalanced_504 : decode method_22_code 504 = .ok (.bipush 103, 2) := zo_16 (d := 103) (zd_b zq_method_22_code_15 24 rfl rfl rfl) (zd_b zq_method_22_code_15 25 rfl rfl rfl) (by decide +kernel)
theorem d_Lw_isBalanced_506 : decode method_22_code 506 = .ok (.iconst 0, 1) := zo_3 (zd_b zq_method_22_code_15 26 rfl rfl rfl)
theorem d_Lw_isBalanced_507 : decode method_22_code 507 = .ok (.invokestatic 193, 3) := zo_184 (d := 0) (e := 193) (zd_b zq_method_22_code_15 27 rfl rfl rfl) (zd_b zq_method_22_code_15 28 rfl rfl rfl) (zd_b zq_method_22_code_15 29 rfl rfl rfl)
theorem d_Lw_isBalanced_510 : decode method_22_code 510 = .ok (.aload_n 0, 1) := zo_42 (zd_b zq_method_22_code_15 30 rfl rfl rfl)
theorem d_Lw_isBalanced_511 : decode method_22_code 511 = .ok (.bipush 33, 2) := zo_16 (d := 33) (zd_b zq_method_22_code_15 31 rfl rfl rfl) (zd_b zq_method_22_code_16 0 rfl rfl rfl) (by decide +kernel)
theorem d_Lw_isBalanced_513 : decode method_22_code 513 = .ok (.bipush 100, 2) := zo_16 (d := 100) (zd_b zq_method_22_code_16 1 rfl rfl rfl) (zd_b zq_method_22_code_16 2 rfl rfl rfl) (by decide +kernel)
theorem d_Lw_isBalanced_515 : decode method_22_code 515 = .ok (.iconst 0, 1) := zo_3 (zd_b zq_method_22_code_16 3 rfl rfl rfl)
theorem d_Lw_isBalanced_516 : decode method_22_code 516 = .ok (.invokestatic 193, 3) := zo_184 (d := 0) (e := 193) (zd_b zq_method_22_code_16 4 rfl rfl rfl) (zd_b zq_method_22_code_16 5 rfl rfl rfl) (zd_b zq_method_22_code_16 6 rfl rfl rfl)
theorem d_Lw_isBalanced_519 : decode method_22_code 519 = .ok (.iadd, 1) := zo_96 (zd_b zq_method_22_code_16 7 rfl rfl rfl)
theorem d_Lw_isBalanced_520 : decode method_22_code 520 = .ok (.istore 15, 2) := zo_54 (d := 15) (zd_b zq_method_22_code_16 8 rfl rfl rfl) (zd_b zq_method_22_code_16 9 rfl rfl rfl)
theorem d_Lw_isBalanced_522 : decode method_22_code 522 = .ok (.aload_n 0, 1) := zo_42 (zd_b zq_method_22_code_16 10 rfl rfl rfl)
theorem d_Lw_isBalanced_523 : decode method_22_code 523 = .ok (.bipush 15, 2) := zo_16 (d := 15) (zd_b zq_method_22_code_16 11 rfl rfl rfl) (zd_b zq_method_22_code_16 12 rfl rfl rfl) (by decide +kernel)
theorem d_Lw_isBalanced_525 : decode method_22_code 525 = .ok (.aload_n 1, 1) := zo_43 (zd_b zq_method_22_code_16 13 rfl rfl rfl)
theorem d_Lw_isBalanced_526 : decode method_22_code 526 = .ok (.iload 8, 2) := zo_21 (d := 8) (zd_b zq_method_22_code_16 14 rfl rfl rfl) (zd_b zq_method_22_code_16 15 rfl rfl rfl)
theorem d_Lw_isBalanced_528 : decode method_22_code 528 = .ok (.iconst 1, 1) := zo_4 (zd_b zq_method_22_code_16 16 rfl rfl rfl)
theorem d_Lw_isBalanced_529 : decode method_22_code 529 = .ok (.iadd, 1) := zo_96 (zd_b zq_method_22_code_16 17 rfl rfl rfl)
theorem d_Lw_isBalanced_530 : decode method_22_code 530 = .ok (.iconst 4, 1) := zo_7 (zd_b zq_method_22_code_16 18 rfl rfl rfl)
theorem d_Lw_isBalanced_531 : decode method_22_code 531 = .ok (.invokestatic 182, 3) := zo_184 (d := 0) (e := 182) (zd_b zq_method_22_code_16 19 rfl rfl rfl) (zd_b zq_method_22_code_16 20 rfl rfl rfl) (zd_b zq_method_22_code_16 21 rfl rfl rfl)
theorem d_Lw_isBalanced_534 : decode method_22_code 534 = .ok (.iconst 0, 1) := zo_3 (zd_b zq_method_22_code_16 22 rfl rfl rfl)
theorem d_Lw_isBalanced_535 : decode method_22_code 535 = .ok (.invokestatic 193, 3) := zo_184 (d := 0) (e := 193) (zd_b zq_method_22_code_16 23 rfl rfl rfl) (zd_b zq_method_22_code_16 24 rfl rfl rfl) (zd_b zq_method_22_code_16 25 rfl rfl rfl)
theorem d_Lw_isBalanced_538 : decode method_22_code 538 = .ok (.istore 16, 2) := zo_54 (d := 16) (zd_b zq_method_22_code_16 26 rfl rfl rfl) (zd_b zq_method_22_code_16 27 rfl rfl rfl)
theorem d_Lw_isBalanced_540 : decode method_22_code 540 = .ok (.iload 5, 2) := zo_21 (d := 5) (zd_b zq_method_22_code_16 28 rfl rfl rfl) (zd_b zq_method_22_code_16 29 rfl rfl rfl)
theorem d_Lw_isBalanced_542 : decode method_22_code 542 = .ok (.iload 16, 2) := zo_21 (d := 16) (zd_b zq_method_22_code_16 30 rfl rfl rfl) (zd_b zq_method_22_code_16 31 rfl rfl rfl)
theorem d_Lw_isBalanced_544 : decode method_22_code 544 = .ok (.ifCond .lt 28, 3) := zo_155 (d := 0) (e := 28) (zd_b zq_method_22_code_17 0 rfl rfl rfl) (zd_b zq_method_22_code_17 1 rfl rfl rfl) (zd_b zq_method_22_code_17 2 rfl rfl rfl) (by decide +kernel)
theorem d_Lw_isBalanced_572 : decode method_22_code 572 = .ok (.iconst 0, 1) := zo_3 (zd_b zq_method_22_code_17 28 rfl rfl rfl)
theorem d_Lw_isBalanced_573 : decode method_22_code 573 = .ok (.isub, 1) := zo_100 (zd_b zq_method_22_code_17 29 rfl rfl rfl)
theorem d_Lw_isBalanced_574 : decode method_22_code 574 = .ok (.istore 5, 2) := zo_54 (d := 5) (zd_b zq_method_22_code_17 30 rfl rfl rfl) (zd_b zq_method_22_code_17 31 rfl rfl rfl)
theorem d_Lw_isBalanced_576 : decode method_22_code 576 = .ok (.goto 117, 3) := zo_167 (d := 0) (e := 117) (zd_b zq_method_22_code_18 0 rfl rfl rfl) (zd_b zq_method_22_code_18 1 rfl rfl rfl) (zd_b zq_method_22_code_18 2 rfl rfl rfl) (by decide +kernel)
theorem d_Lw_isBalanced_547 : decode method_22_code 547 = .ok (.aload_n 0, 1) := zo_42 (zd_b zq_method_22_code_17 3 rfl rfl rfl)
theorem d_Lw_isBalanced_548 : decode method_22_code 548 = .ok (.bipush 33, 2) := zo_16 (d := 33) (zd_b zq_method_22_code_17 4 rfl rfl rfl) (zd_b zq_method_22_code_17 5 rfl rfl rfl) (by decide +kernel)
theorem d_Lw_isBalanced_550 : decode method_22_code 550 = .ok (.bipush 103, 2) := zo_16 (d := 103) (zd_b zq_method_22_code_17 6 rfl rfl rfl) (zd_b zq_method_22_code_17 7 rfl rfl rfl) (by decide +kernel)
theorem d_Lw_isBalanced_552 : decode method_22_code 552 = .ok (.iconst 0, 1) := zo_3 (zd_b zq_method_22_code_17 8 rfl rfl rfl)
theorem d_Lw_isBalanced_553 : decode method_22_code 553 = .ok (.invokestatic 193, 3) := zo_184 (d := 0) (e := 193) (zd_b zq_method_22_code_17 9 rfl rfl rfl) (zd_b zq_method_22_code_17 10 rfl rfl rfl) (zd_b zq_method_22_code_17 11 rfl rfl rfl)
theorem d_Lw_isBalanced_556 : decode method_22_code 556 = .ok (.aload_n 0, 1) := zo_42 (zd_b zq_method_22_code_17 12 rfl rfl rfl)
theorem d_Lw_isBalanced_557 : decode method_22_code 557 = .ok (.bipush 33, 2) := zo_16 (d := 33) (zd_b zq_method_22_code_17 13 rfl rfl rfl) (zd_b zq_method_22_code_17 14 rfl rfl rfl) (by decide +kernel)
theorem d_Lw_isBalanced_559 : decode method_22_code 559 = .ok (.bipush 100, 2) := zo_16 (d := 100) (zd_b zq_method_22_code_17 15 rfl rfl rfl) (zd_b zq_method_22_code_17 16 rfl rfl rfl) (by decide +kernel)
theorem d_Lw_isBalanced_561 : decode method_22_code 561 = .ok (.iconst 0, 1) := zo_3 (zd_b zq_method_22_code_17 17 rfl rfl rfl)
theorem d_Lw_isBalanced_562 : decode method_22_code 562 = .ok (.invokestatic 193, 3) := zo_184 (d := 0) (e := 193) (zd_b zq_method_22_code_17 18 rfl rfl rfl) (zd_b zq_method_22_code_17 19 rfl rfl rfl) (zd_b zq_method_22_code_17 20 rfl rfl rfl)
theorem d_Lw_isBalanced_565 : decode method_22_code 565 = .ok (.iadd, 1) := zo_96 (zd_b zq_method_22_code_17 21 rfl rfl rfl)
theorem d_Lw_isBalanced_566 : decode method_22_code 566 = .ok (.iload 15, 2) := zo_21 (d := 15) (zd_b zq_method_22_code_17 22 rfl rfl rfl) (zd_b zq_method_22_code_17 23 rfl rfl rfl)
theorem d_Lw_isBalanced_568 : decode method_22_code 568 = .ok (.isub, 1) := zo_100 (zd_b zq_method_22_code_17 24 rfl rfl rfl)
theorem d_Lw_isBalanced_569 : decode method_22_code 569 = .ok (.goto 4, 3) := zo_167 (d := 0) (e := 4) (zd_b zq_method_22_code_17 25 rfl rfl rfl) (zd_b zq_method_22_code_17 26 rfl rfl rfl) (zd_b zq_method_22_code_17 27 rfl rfl rfl) (by decide +kernel)
set_option maxHeartbeats 4000000 in
set_option maxRecDepth 100000 in
theorem IB_6 (g : zG) {ad : Nat → Nat} {f : Nat → Int32} {kk : Nat} {b fu la gy du go : Int32} {w : zW} {kc ks : Nat} (hk : kk < 14) (hL : g.2.2 41 ≤ 260) (hW : Wq g ad f kk fu la gy du w) (hb : b = fu + la + gy + du + go) (K : ∀ (w : zW) (b fu la gy du go : Int32), Wq g ad f (kk + 1) fu la gy du w → b = fu + la + gy + du + go → DW g M_Lw_isBalanced (fun o w1 => o = .inl (some (.int 1)) ∧ ∃ k9 fu9 la9 gy9 du9, Wq g ad f k9 fu9 la9 gy9 du9 w1) w 693 [(7, .int (nI kk)), (6, .int 1), (5, .int go), (4, .int fu), (3, .int b), (2, .int 30), (1, .ref (g.2.2 40)), (0, .ref (ad 0))] [] (kc) (ks)) : DW g M_Lw_isBalanced (fun o w1 => o = .inl (some (.int 1)) ∧ ∃ k9 fu9 la9 gy9 du9, Wq g ad f k9 fu9 la9 gy9 du9 w1) w 501 [(9, .int la), (8, .int (nI (30 + 4 * kk))), (7, .int (nI kk)), (6, .int 1), (5, .int go), (4, .int fu), (3, .int b), (2, .int 30), (1, .ref (g.2.2 40)), (0, .ref (ad 0))] [] (kc + 30) (ks + 500) := by
  refine y_base (cs := []) (z_I.nil w) ?_
  refine y_aload_n d_Lw_isBalanced_501 rfl 9 rfl ?_
  refine y_bipush d_Lw_isBalanced_502 (v := 33) (by decide) ?_
  refine y_bipush d_Lw_isBalanced_504 (v := 103) (by decide) ?_
  refine y_iconst d_Lw_isBalanced_506 (v := 0) (by decide) ?_
  refine yw_callS (As := [.ref (ad 0), .int 33, .int 103, .int 0]) (rest := []) ln_Lw_193 w_st_Lw_ask ok_Lw_isBalanced_Lw_ask d_Lw_isBalanced_507 (fun wA hA => B_pool103 (hW.e (z_I.same (z_I.nil _) hA))) rfl rfl (Nat.le_of_ble_eq_true rfl) (by omega) (by omega) (fun wA507 hA507 E wB507 hx => ?_) (fun wA507 hA507 v wB507 hx => ?_)
  · exact absurd hx.1 (by simp)
  · obtain ⟨e1, e2⟩ := hx
    cases e1
    refine yw_st (st2 := [.int gy]) rfl ?_
    subst e2
    refine y_go hA507 ?_
    refine y_aload_n d_Lw_isBalanced_510 rfl 9 rfl ?_
    refine y_bipush d_Lw_isBalanced_511 (v := 33) (by decide) ?_
    refine y_bipush d_Lw_isBalanced_513 (v := 100) (by decide) ?_
    refine y_iconst d_Lw_isBalanced_515 (v := 0) (by decide) ?_
    refine yw_callS (As := [.ref (ad 0), .int 33, .int 100, .int 0]) (rest := [.int gy]) ln_Lw_193 w_st_Lw_ask ok_Lw_isBalanced_Lw_ask d_Lw_isBalanced_516 (fun wA hA => B_pool100 (hW.e (z_I.same (z_I.nil _) hA))) rfl rfl (Nat.le_of_ble_eq_true rfl) (by omega) (by omega) (fun wA516 hA516 E wB516 hx => ?_) (fun wA516 hA516 v wB516 hx => ?_)
    · exact absurd hx.1 (by simp)
    · obtain ⟨e1, e2⟩ := hx
      cases e1
      refine yw_st (st2 := [.int du, .int gy]) rfl ?_
      subst e2
      refine y_go hA516 ?_
      refine y_iadd d_Lw_isBalanced_519 (v := gy + du) rfl ?_
      refine y_istore (lv' := [(15, .int (gy + du)), (9, .int la), (8, .int (nI (30 + 4 * kk))), (7, .int (nI kk)), (6, .int 1), (5, .int go), (4, .int fu), (3, .int b), (2, .int 30), (1, .ref (g.2.2 40)), (0, .ref (ad 0))]) d_Lw_isBalanced_520 (by decide) rfl ?_
      refine y_aload_n d_Lw_isBalanced_522 rfl 10 rfl ?_
      refine y_bipush d_Lw_isBalanced_523 (v := 15) (by decide) ?_
      refine y_aload_n d_Lw_isBalanced_525 rfl 9 rfl ?_
      refine y_iload d_Lw_isBalanced_526 2 rfl ?_
      refine y_iconst d_Lw_isBalanced_528 (v := 1) (by decide) ?_
      refine y_iadd d_Lw_isBalanced_529 (v := nI ((30 + 4 * kk) + 1)) (nI_add _ _) ?_
      refine y_iconst d_Lw_isBalanced_530 (v := 4) (by decide) ?_
      refine y_callS (As := [.ref (g.2.2 40), .int (nI ((30 + 4 * kk) + 1)), .int 4]) (rest := [.int 15, .ref (ad 0)]) (csC := []) (is := []) ln_Lw_182 w_st_Lw_pick ok_Lw_isBalanced_Lw_pick d_Lw_isBalanced_531 (C_Lw_pick g ((30 + 4 * kk) + 1) 4 (by omega) (by decide) (by decide) hL) rfl rfl (Nat.le_of_ble_eq_true rfl) rfl (by decide) (by omega) (by omega) (fun E cs1 hx => ?_) (fun v cs1 hx => ?_)
      · exact absurd hx.1 (by simp)
      · obtain ⟨e1, rfl⟩ := hx
        cases e1
        refine ⟨rfl, ?_⟩
        refine y_st (st2 := [.int (nI (pkN g ((30 + 4 * kk) + 1) 4)), .int 15, .ref (ad 0)]) rfl ?_
        refine y_cs (cs2 := []) rfl ?_
        refine y_iconst d_Lw_isBalanced_534 (v := 0) (by decide) ?_
        refine yw_callS (As := [.ref (ad 0), .int 15, .int (nI (pkN g ((30 + 4 * kk) + 1) 4)), .int 0]) (rest := []) ln_Lw_193 w_st_Lw_ask ok_Lw_isBalanced_Lw_ask d_Lw_isBalanced_535 (fun wA hA => B_break hk (pkN_lt (by decide)) (hW.e (z_I.same (z_I.nil _) hA)) ) rfl rfl (Nat.le_of_ble_eq_true rfl) (by omega) (by omega) (fun wA535 hA535 E wB535 hx => ?_) (fun wA535 hA535 v wB535 hx => ?_)
        · obtain ⟨v9, e9, -⟩ := hx
          cases e9
        · obtain ⟨v9, e9, hv9⟩ := hx
          cases e9
          refine yw_st (st2 := [.int v9]) rfl ?_
          refine y_base (cs := []) (z_I.nil _) ?_
          refine y_istore (lv' := [(16, .int v9), (15, .int (gy + du)), (9, .int la), (8, .int (nI (30 + 4 * kk))), (7, .int (nI kk)), (6, .int 1), (5, .int go), (4, .int fu), (3, .int b), (2, .int 30), (1, .ref (g.2.2 40)), (0, .ref (ad 0))]) d_Lw_isBalanced_538 (by decide) rfl ?_
          refine y_iload d_Lw_isBalanced_540 6 rfl ?_
          refine y_iload d_Lw_isBalanced_542 0 rfl ?_
          refine y_if_lt (tgt := 572) d_Lw_isBalanced_544 (by decide) (fun c_544 => ?_) (fun c_544 => ?_)
          · have hW2 := (hv9.resolve_right (fun q => q.1 c_544)).2
            refine y_iconst d_Lw_isBalanced_572 (v := 0) (by decide) ?_
            refine y_isub d_Lw_isBalanced_573 (v := go - 0) rfl ?_
            refine y_istore (lv' := [(5, .int (go - 0)), (16, .int v9), (15, .int (gy + du)), (9, .int la), (8, .int (nI (30 + 4 * kk))), (7, .int (nI kk)), (6, .int 1), (4, .int fu), (3, .int b), (2, .int 30), (1, .ref (g.2.2 40)), (0, .ref (ad 0))]) d_Lw_isBalanced_574 (by decide) rfl ?_
            refine y_goto (tgt := 693) d_Lw_isBalanced_576 (by decide) ?_
            refine y_lv (lv' := [(7, .int (nI kk)), (6, .int 1), (5, .int (go - 0)), (4, .int fu), (3, .int b), (2, .int 30), (1, .ref (g.2.2 40)), (0, .ref (ad 0))]) [5, 6, 0, 7, 8, 9, 10, 11] rfl ?_
            refine y_end (fun wC hC => ?_)
            exact yw_bud (by omega) (by omega) (K wC _ _ _ _ _ _ ((hW2.up (Nat.le_succ kk)).e (z_I.same (z_I.nil _) hC)) (by rw [Int32.sub_zero]; exact hb))
          · obtain ⟨-, gy2, du2, hW3⟩ := hv9.resolve_left (fun q => c_544 q.1)
            refine y_aload_n d_Lw_isBalanced_547 rfl 11 rfl ?_
            refine y_bipush d_Lw_isBalanced_548 (v := 33) (by decide) ?_
            refine y_bipush d_Lw_isBalanced_550 (v := 103) (by decide) ?_
            refine y_iconst d_Lw_isBalanced_552 (v := 0) (by decide) ?_
            refine yw_callS (As := [.ref (ad 0), .int 33, .int 103, .int 0]) (rest := [.int go]) ln_Lw_193 w_st_Lw_ask ok_Lw_isBalanced_Lw_ask d_Lw_isBalanced_553 (fun wA hA => B_pool103 (hW3.e (z_I.same (z_I.nil _) hA))) rfl rfl (Nat.le_of_ble_eq_true rfl) (by omega) (by omega) (fun wA553 hA553 E wB553 hx => ?_) (fun wA553 hA553 v wB553 hx => ?_)
            · exact absurd hx.1 (by simp)
            · obtain ⟨e1, e2⟩ := hx
              cases e1
              refine yw_st (st2 := [.int gy2, .int go]) rfl ?_
              subst e2
              refine y_go hA553 ?_
              refine y_aload_n d_Lw_isBalanced_556 rfl 11 rfl ?_
              refine y_bipush d_Lw_isBalanced_557 (v := 33) (by decide) ?_
              refine y_bipush d_Lw_isBalanced_559 (v := 100) (by decide) ?_
              refine y_iconst d_Lw_isBalanced_561 (v := 0) (by decide) ?_
              refine yw_callS (As := [.ref (ad 0), .int 33, .int 100, .int 0]) (rest := [.int gy2, .int go]) ln_Lw_193 w_st_Lw_ask ok_Lw_isBalanced_Lw_ask d_Lw_isBalanced_562 (fun wA hA => B_pool100 (hW3.e (z_I.same (z_I.nil _) hA))) rfl rfl (Nat.le_of_ble_eq_true rfl) (by omega) (by omega) (fun wA562 hA562 E wB562 hx => ?_) (fun wA562 hA562 v wB562 hx => ?_)
              · exact absurd hx.1 (by simp)
              · obtain ⟨e1, e2⟩ := hx
                cases e1
                refine yw_st (st2 := [.int du2, .int gy2, .int go]) rfl ?_
                subst e2
                refine y_go hA562 ?_
                refine y_iadd d_Lw_isBalanced_565 (v := gy2 + du2) rfl ?_
                refine y_iload d_Lw_isBalanced_566 1 rfl ?_
                refine y_isub d_Lw_isBalanced_568 (v := (gy2 + du2) - (gy + du)) rfl ?_
                refine y_goto (tgt := 573) d_Lw_isBalanced_569 (by decide) ?_
                refine y_isub d_Lw_isBalanced_573 (v := go - ((gy2 + du2) - (gy + du))) rfl ?_
                refine y_istore (lv' := [(5, .int (go - ((gy2 + du2) - (gy + du)))), (16, .int v9), (15, .int (gy + du)), (9, .int la), (8, .int (nI (30 + 4 * kk))), (7, .int (nI kk)), (6, .int 1), (4, .int fu), (3, .int b), (2, .int 30), (1, .ref (g.2.2 40)), (0, .ref (ad 0))]) d_Lw_isBalanced_574 (by decide) rfl ?_
                refine y_goto (tgt := 693) d_Lw_isBalanced_576 (by decide) ?_
                refine y_lv (lv' := [(7, .int (nI kk)), (6, .int 1), (5, .int (go - ((gy2 + du2) - (gy + du)))), (4, .int fu), (3, .int b), (2, .int 30), (1, .ref (g.2.2 40)), (0, .ref (ad 0))]) [5, 6, 0, 7, 8, 9, 10, 11] rfl ?_
                refine y_end (fun wC hC => ?_)
                exact yw_bud (by omega) (by omega) (K wC _ _ _ _ _ _ (hW3.e (z_I.same (z_I.nil _) hC)) (by rw [hb]; exact hb_br _ _ _ _ _ _ _))
theorem d_Lw_isBalanced_579 : decode method_22_code 579 = .ok (.aload_n 0, 1) := zo_42 (zd_b zq_method_22_code_18 3 rfl rfl rfl)
theorem d_Lw_isBalanced_580 : decode method_22_code 580 = .ok (.bipush 33, 2) := zo_16 (d := 33) (zd_b zq_method_22_code_18 4 rfl rfl rfl) (zd_b zq_method_22_code_18 5 rfl rfl rfl) (by decide +kernel)
theorem d_Lw_isBalanced_582 : decode method_22_code 582 = .ok (.bipush 103, 2) := zo_16 (d := 103) (zd_b zq_method_22_code_18 6 rfl rfl rfl) (zd_b zq_method_22_code_18 7 rfl rfl rfl) (by decide +kernel)
theorem d_Lw_isBalanced_584 : decode method_22_code 584 = .ok (.iconst 0, 1) := zo_3 (zd_b zq_method_22_code_18 8 rfl rfl rfl)
theorem d_Lw_isBalanced_585 : decode method_22_code 585 = .ok (.invokestatic 193, 3) := zo_184 (d := 0) (e := 193) (zd_b zq_method_22_code_18 9 rfl rfl rfl) (zd_b zq_method_22_code_18 10 rfl rfl rfl) (zd_b zq_method_22_code_18 11 rfl rfl rfl)
theorem d_Lw_isBalanced_588 : decode method_22_code 588 = .ok (.istore 17, 2) := zo_54 (d := 17) (zd_b zq_method_22_code_18 12 rfl rfl rfl) (zd_b zq_method_22_code_18 13 rfl rfl rfl)
theorem d_Lw_isBalanced_590 : decode method_22_code 590 = .ok (.iconst 1, 1) := zo_4 (zd_b zq_method_22_code_18 14 rfl rfl rfl)
theorem d_Lw_isBalanced_591 : decode method_22_code 591 = .ok (.aload_n 1, 1) := zo_43 (zd_b zq_method_22_code_18 15 rfl rfl rfl)
theorem d_Lw_isBalanced_592 : decode method_22_code 592 = .ok (.iload 8, 2) := zo_21 (d := 8) (zd_b zq_method_22_code_18 16 rfl rfl rfl) (zd_b zq_method_22_code_18 17 rfl rfl rfl)
theorem d_Lw_isBalanced_594 : decode method_22_code 594 = .ok (.iconst 1, 1) := zo_4 (zd_b zq_method_22_code_18 18 rfl rfl rfl)
theorem d_Lw_isBalanced_595 : decode method_22_code 595 = .ok (.iadd, 1) := zo_96 (zd_b zq_method_22_code_18 19 rfl rfl rfl)
theorem d_Lw_isBalanced_596 : decode method_22_code 596 = .ok (.sipush 200, 3) := zo_17 (d := 0) (e := 200) (zd_b zq_method_22_code_18 20 rfl rfl rfl) (zd_b zq_method_22_code_18 21 rfl rfl rfl) (zd_b zq_method_22_code_18 22 rfl rfl rfl) (by decide +kernel)
theorem d_Lw_isBalanced_599 : decode method_22_code 599 = .ok (.invokestatic 182, 3) := zo_184 (d := 0) (e := 182) (zd_b zq_method_22_code_18 23 rfl rfl rfl) (zd_b zq_method_22_code_18 24 rfl rfl rfl) (zd_b zq_method_22_code_18 25 rfl rfl rfl)
theorem d_Lw_isBalanced_602 : decode method_22_code 602 = .ok (.iadd, 1) := zo_96 (zd_b zq_method_22_code_18 26 rfl rfl rfl)
theorem d_Lw_isBalanced_603 : decode method_22_code 603 = .ok (.istore 18, 2) := zo_54 (d := 18) (zd_b zq_method_22_code_18 27 rfl rfl rfl) (zd_b zq_method_22_code_18 28 rfl rfl rfl)
theorem d_Lw_isBalanced_605 : decode method_22_code 605 = .ok (.aload_n 0, 1) := zo_42 (zd_b zq_method_22_code_18 29 rfl rfl rfl)
theorem d_Lw_isBalanced_606 : decode method_22_code 606 = .ok (.iconst 5, 1) := zo_8 (zd_b zq_method_22_code_18 30 rfl rfl rfl)
theorem d_Lw_isBalanced_607 : decode method_22_code 607 = .ok (.bipush 103, 2) := zo_16 (d := 103) (zd_b zq_method_22_code_18 31 rfl rfl rfl) (zd_b zq_method_22_code_19 0 rfl rfl rfl) (by decide +kernel)
theorem d_Lw_isBalanced_609 : decode method_22_code 609 = .ok (.iload 18, 2) := zo_21 (d := 18) (zd_b zq_method_22_code_19 1 rfl rfl rfl) (zd_b zq_method_22_code_19 2 rfl rfl rfl)
theorem d_Lw_isBalanced_611 : decode method_22_code 611 = .ok (.invokestatic 193, 3) := zo_184 (d := 0) (e := 193) (zd_b zq_method_22_code_19 3 rfl rfl rfl) (zd_b zq_method_22_code_19 4 rfl rfl rfl) (zd_b zq_method_22_code_19 5 rfl rfl rfl)
theorem d_Lw_isBalanced_614 : decode method_22_code 614 = .ok (.istore 19, 2) := zo_54 (d := 19) (zd_b zq_method_22_code_19 6 rfl rfl rfl) (zd_b zq_method_22_code_19 7 rfl rfl rfl)
theorem d_Lw_isBalanced_616 : decode method_22_code 616 = .ok (.iload 17, 2) := zo_21 (d := 17) (zd_b zq_method_22_code_19 8 rfl rfl rfl) (zd_b zq_method_22_code_19 9 rfl rfl rfl)
theorem d_Lw_isBalanced_618 : decode method_22_code 618 = .ok (.iload 18, 2) := zo_21 (d := 18) (zd_b zq_method_22_code_19 10 rfl rfl rfl) (zd_b zq_method_22_code_19 11 rfl rfl rfl)
theorem d_Lw_isBalanced_620 : decode method_22_code 620 = .ok (.if_icmp .ge 18, 3) := zo_162 (d := 0) (e := 18) (zd_b zq_method_22_code_19 12 rfl rfl rfl) (zd_b zq_method_22_code_19 13 rfl rfl rfl) (zd_b zq_method_22_code_19 14 rfl rfl rfl) (by decide +kernel)
theorem d_Lw_isBalanced_638 : decode method_22_code 638 = .ok (.iload 19, 2) := zo_21 (d := 19) (zd_b zq_method_22_code_19 30 rfl rfl rfl) (zd_b zq_method_22_code_19 31 rfl rfl rfl)
theorem d_Lw_isBalanced_640 : decode method_22_code 640 = .ok (.ldc 174, 2) := zo_18 (d := 174) (zd_b zq_method_22_code_20 0 rfl rfl rfl) (zd_b zq_method_22_code_20 1 rfl rfl rfl)
theorem d_Lw_isBalanced_642 : decode method_22_code 642 = .ok (.if_icmp .eq 30, 3) := zo_159 (d := 0) (e := 30) (zd_b zq_method_22_code_20 2 rfl rfl rfl) (zd_b zq_method_22_code_20 3 rfl rfl rfl) (zd_b zq_method_22_code_20 4 rfl rfl rfl) (by decide +kernel)
theorem d_Lw_isBalanced_672 : decode method_22_code 672 = .ok (.iconst 1, 1) := zo_4 (zd_b zq_method_22_code_21 0 rfl rfl rfl)
theorem d_Lw_isBalanced_673 : decode method_22_code 673 = .ok (.goto 4, 3) := zo_167 (d := 0) (e := 4) (zd_b zq_method_22_code_21 1 rfl rfl rfl) (zd_b zq_method_22_code_21 2 rfl rfl rfl) (zd_b zq_method_22_code_21 3 rfl rfl rfl) (by decide +kernel)
theorem d_Lw_isBalanced_677 : decode method_22_code 677 = .ok (.istore 6, 2) := zo_54 (d := 6) (zd_b zq_method_22_code_21 5 rfl rfl rfl) (zd_b zq_method_22_code_21 6 rfl rfl rfl)
theorem d_Lw_isBalanced_679 : decode method_22_code 679 = .ok (.iload 19, 2) := zo_21 (d := 19) (zd_b zq_method_22_code_21 7 rfl rfl rfl) (zd_b zq_method_22_code_21 8 rfl rfl rfl)
theorem d_Lw_isBalanced_681 : decode method_22_code 681 = .ok (.ifCond .lt 8, 3) := zo_155 (d := 0) (e := 8) (zd_b zq_method_22_code_21 9 rfl rfl rfl) (zd_b zq_method_22_code_21 10 rfl rfl rfl) (zd_b zq_method_22_code_21 11 rfl rfl rfl) (by decide +kernel)
theorem d_Lw_isBalanced_689 : decode method_22_code 689 = .ok (.iload 4, 2) := zo_21 (d := 4) (zd_b zq_method_22_code_21 17 rfl rfl rfl) (zd_b zq_method_22_code_21 18 rfl rfl rfl)
theorem d_Lw_isBalanced_691 : decode method_22_code 691 = .ok (.istore 4, 2) := zo_54 (d := 4) (zd_b zq_method_22_code_21 19 rfl rfl rfl) (zd_b zq_method_22_code_21 20 rfl rfl rfl)
theorem d_Lw_isBalanced_645 : decode method_22_code 645 = .ok (.iload 19, 2) := zo_21 (d := 19) (zd_b zq_method_22_code_20 5 rfl rfl rfl) (zd_b zq_method_22_code_20 6 rfl rfl rfl)
theorem d_Lw_isBalanced_647 : decode method_22_code 647 = .ok (.iload 4, 2) := zo_21 (d := 4) (zd_b zq_method_22_code_20 7 rfl rfl rfl) (zd_b zq_method_22_code_20 8 rfl rfl rfl)
theorem d_Lw_isBalanced_649 : decode method_22_code 649 = .ok (.iload 18, 2) := zo_21 (d := 18) (zd_b zq_method_22_code_20 9 rfl rfl rfl) (zd_b zq_method_22_code_20 10 rfl rfl rfl)
theorem d_Lw_isBalanced_651 : decode method_22_code 651 = .ok (.iadd, 1) := zo_96 (zd_b zq_method_22_code_20 11 rfl rfl rfl)
theorem d_Lw_isBalanced_652 : decode method_22_code 652 = .ok (.if_icmp .ne 24, 3) := zo_160 (d := 0) (e := 24) (zd_b zq_method_22_code_20 12 rfl rfl rfl) (zd_b zq_method_22_code_20 13 rfl rfl rfl) (zd_b zq_method_22_code_20 14 rfl rfl rfl) (by decide +kernel)
theorem d_Lw_isBalanced_655 : decode method_22_code 655 = .ok (.aload_n 0, 1) := zo_42 (zd_b zq_method_22_code_20 15 rfl rfl rfl)
theorem d_Lw_isBalanced_656 : decode method_22_code 656 = .ok (.bipush 33, 2) := zo_16 (d := 33) (zd_b zq_method_22_code_20 16 rfl rfl rfl) (zd_b zq_method_22_code_20 17 rfl rfl rfl) (by decide +kernel)
theorem d_Lw_isBalanced_658 : decode method_22_code 658 = .ok (.bipush 103, 2) := zo_16 (d := 103) (zd_b zq_method_22_code_20 18 rfl rfl rfl) (zd_b zq_method_22_code_20 19 rfl rfl rfl) (by decide +kernel)
theorem d_Lw_isBalanced_660 : decode method_22_code 660 = .ok (.iconst 0, 1) := zo_3 (zd_b zq_method_22_code_20 20 rfl rfl rfl)
theorem d_Lw_isBalanced_661 : decode method_22_code 661 = .ok (.invokestatic 193, 3) := zo_184 (d := 0) (e := 193) (zd_b zq_method_22_code_20 21 rfl rfl rfl) (zd_b zq_method_22_code_20 22 rfl rfl rfl) (zd_b zq_method_22_code_20 23 rfl rfl rfl)
theorem d_Lw_isBalanced_664 : decode method_22_code 664 = .ok (.iload 17, 2) := zo_21 (d := 17) (zd_b zq_method_22_code_20 24 rfl rfl rfl) (zd_b zq_method_22_code_20 25 rfl rfl rfl)
theorem d_Lw_isBalanced_666 : decode method_22_code 666 = .ok (.iload 18, 2) := zo_21 (d := 18) (zd_b zq_method_22_code_20 26 rfl rfl rfl) (zd_b zq_method_22_code_20 27 rfl rfl rfl)
theorem d_Lw_isBalanced_668 : decode method_22_code 668 = .ok (.isub, 1) := zo_100 (zd_b zq_method_22_code_20 28 rfl rfl rfl)
theorem d_Lw_isBalanced_669 : decode method_22_code 669 = .ok (.if_icmp .ne 7, 3) := zo_160 (d := 0) (e := 7) (zd_b zq_method_22_code_20 29 rfl rfl rfl) (zd_b zq_method_22_code_20 30 rfl rfl rfl) (zd_b zq_method_22_code_20 31 rfl rfl rfl) (by decide +kernel)
theorem d_Lw_isBalanced_684 : decode method_22_code 684 = .ok (.iload 19, 2) := zo_21 (d := 19) (zd_b zq_method_22_code_21 12 rfl rfl rfl) (zd_b zq_method_22_code_21 13 rfl rfl rfl)
theorem d_Lw_isBalanced_686 : decode method_22_code 686 = .ok (.goto 5, 3) := zo_167 (d := 0) (e := 5) (zd_b zq_method_22_code_21 14 rfl rfl rfl) (zd_b zq_method_22_code_21 15 rfl rfl rfl) (zd_b zq_method_22_code_21 16 rfl rfl rfl) (by decide +kernel)
theorem d_Lw_isBalanced_623 : decode method_22_code 623 = .ok (.iload 19, 2) := zo_21 (d := 19) (zd_b zq_method_22_code_19 15 rfl rfl rfl) (zd_b zq_method_22_code_19 16 rfl rfl rfl)
theorem d_Lw_isBalanced_625 : decode method_22_code 625 = .ok (.ldc 168, 2) := zo_18 (d := 168) (zd_b zq_method_22_code_19 17 rfl rfl rfl) (zd_b zq_method_22_code_19 18 rfl rfl rfl)
theorem d_Lw_isBalanced_627 : decode method_22_code 627 = .ok (.if_icmp .ne 7, 3) := zo_160 (d := 0) (e := 7) (zd_b zq_method_22_code_19 19 rfl rfl rfl) (zd_b zq_method_22_code_19 20 rfl rfl rfl) (zd_b zq_method_22_code_19 21 rfl rfl rfl) (by decide +kernel)
theorem d_Lw_isBalanced_630 : decode method_22_code 630 = .ok (.iconst 1, 1) := zo_4 (zd_b zq_method_22_code_19 22 rfl rfl rfl)
theorem d_Lw_isBalanced_631 : decode method_22_code 631 = .ok (.goto 46, 3) := zo_167 (d := 0) (e := 46) (zd_b zq_method_22_code_19 23 rfl rfl rfl) (zd_b zq_method_22_code_19 24 rfl rfl rfl) (zd_b zq_method_22_code_19 25 rfl rfl rfl) (by decide +kernel)
set_option maxHeartbeats 4000000 in
set_option maxRecDepth 100000 in
theorem IB_7 (g : zG) {ad : Nat → Nat} {f : Nat → Int32} {kk : Nat} {b fu la gy du go : Int32} {w : zW} {kc ks : Nat} (hk : kk < 14) (hL : g.2.2 41 ≤ 260) (hW : Wq g ad f kk fu la gy du w) (hb : b = fu + la + gy + du + go) (K : ∀ (w : zW) (b fu la gy du go : Int32), Wq g ad f (kk + 1) fu la gy du w → b = fu + la + gy + du + go → DW g M_Lw_isBalanced (fun o w1 => o = .inl (some (.int 1)) ∧ ∃ k9 fu9 la9 gy9 du9, Wq g ad f k9 fu9 la9 gy9 du9 w1) w 693 [(7, .int (nI kk)), (6, .int 1), (5, .int go), (4, .int fu), (3, .int b), (2, .int 30), (1, .ref (g.2.2 40)), (0, .ref (ad 0))] [] (kc) (ks)) : DW g M_Lw_isBalanced (fun o w1 => o = .inl (some (.int 1)) ∧ ∃ k9 fu9 la9 gy9 du9, Wq g ad f k9 fu9 la9 gy9 du9 w1) w 579 [(9, .int la), (8, .int (nI (30 + 4 * kk))), (7, .int (nI kk)), (6, .int 1), (5, .int go), (4, .int fu), (3, .int b), (2, .int 30), (1, .ref (g.2.2 40)), (0, .ref (ad 0))] [] (kc + 30) (ks + 500) := by
  refine y_base (cs := []) (z_I.nil w) ?_
  refine y_aload_n d_Lw_isBalanced_579 rfl 9 rfl ?_
  refine y_bipush d_Lw_isBalanced_580 (v := 33) (by decide) ?_
  refine y_bipush d_Lw_isBalanced_582 (v := 103) (by decide) ?_
  refine y_iconst d_Lw_isBalanced_584 (v := 0) (by decide) ?_
  refine yw_callS (As := [.ref (ad 0), .int 33, .int 103, .int 0]) (rest := []) ln_Lw_193 w_st_Lw_ask ok_Lw_isBalanced_Lw_ask d_Lw_isBalanced_585 (fun wA hA => B_pool103 (hW.e (z_I.same (z_I.nil _) hA))) rfl rfl (Nat.le_of_ble_eq_true rfl) (by omega) (by omega) (fun wA585 hA585 E wB585 hx => ?_) (fun wA585 hA585 v wB585 hx => ?_)
  · exact absurd hx.1 (by simp)
  · obtain ⟨e1, e2⟩ := hx
    cases e1
    refine yw_st (st2 := [.int gy]) rfl ?_
    subst e2
    refine y_go hA585 ?_
    refine y_istore (lv' := [(17, .int gy), (9, .int la), (8, .int (nI (30 + 4 * kk))), (7, .int (nI kk)), (6, .int 1), (5, .int go), (4, .int fu), (3, .int b), (2, .int 30), (1, .ref (g.2.2 40)), (0, .ref (ad 0))]) d_Lw_isBalanced_588 (by decide) rfl ?_
    refine y_iconst d_Lw_isBalanced_590 (v := 1) (by decide) ?_
    refine y_aload_n d_Lw_isBalanced_591 rfl 9 rfl ?_
    refine y_iload d_Lw_isBalanced_592 2 rfl ?_
    refine y_iconst d_Lw_isBalanced_594 (v := 1) (by decide) ?_
    refine y_iadd d_Lw_isBalanced_595 (v := nI ((30 + 4 * kk) + 1)) (nI_add _ _) ?_
    refine y_sipush d_Lw_isBalanced_596 (v := 200) (by decide) ?_
    refine y_callS (As := [.ref (g.2.2 40), .int (nI ((30 + 4 * kk) + 1)), .int 200]) (rest := [.int 1]) (csC := []) (is := []) ln_Lw_182 w_st_Lw_pick ok_Lw_isBalanced_Lw_pick d_Lw_isBalanced_599 (C_Lw_pick g ((30 + 4 * kk) + 1) 200 (by omega) (by decide) (by decide) hL) rfl rfl (Nat.le_of_ble_eq_true rfl) rfl (by decide) (by omega) (by omega) (fun E cs1 hx => ?_) (fun v cs1 hx => ?_)
    · exact absurd hx.1 (by simp)
    · obtain ⟨e1, rfl⟩ := hx
      cases e1
      refine ⟨rfl, ?_⟩
      refine y_st (st2 := [.int (nI (pkN g ((30 + 4 * kk) + 1) 200)), .int 1]) rfl ?_
      refine y_cs (cs2 := []) rfl ?_
      refine y_iadd d_Lw_isBalanced_602 (v := nI (1 + pkN g (30 + 4 * kk + 1) 200)) (nI_add 1 _) ?_
      refine y_istore (lv' := [(18, .int (nI (1 + pkN g (30 + 4 * kk + 1) 200))), (17, .int gy), (9, .int la), (8, .int (nI (30 + 4 * kk))), (7, .int (nI kk)), (6, .int 1), (5, .int go), (4, .int fu), (3, .int b), (2, .int 30), (1, .ref (g.2.2 40)), (0, .ref (ad 0))]) d_Lw_isBalanced_603 (by decide) rfl ?_
      refine y_aload_n d_Lw_isBalanced_605 rfl 11 rfl ?_
      refine y_iconst d_Lw_isBalanced_606 (v := 5) (by decide) ?_
      refine y_bipush d_Lw_isBalanced_607 (v := 103) (by decide) ?_
      refine y_iload d_Lw_isBalanced_609 0 rfl ?_
      refine yw_callS (As := [.ref (ad 0), .int 5, .int 103, .int (nI (1 + pkN g (30 + 4 * kk + 1) 200))]) (rest := []) ln_Lw_193 w_st_Lw_ask ok_Lw_isBalanced_Lw_ask d_Lw_isBalanced_611 (fun wA hA => B_ch103 (Nat.le_of_lt hk) (hW.e (z_I.same (z_I.nil _) hA)) (pk1 (m := 200) (pkN_lt (by decide)) (by decide))) rfl rfl (Nat.le_of_ble_eq_true rfl) (by omega) (by omega) (fun wA611 hA611 E wB611 hx => ?_) (fun wA611 hA611 v wB611 hx => ?_)
      · obtain ⟨v9, e9, -⟩ := hx
        cases e9
      · obtain ⟨v9, e9, hv9⟩ := hx
        cases e9
        refine yw_st (st2 := [.int v9]) rfl ?_
        refine y_base (cs := []) (z_I.nil _) ?_
        refine y_istore (lv' := [(19, .int v9), (18, .int (nI (1 + pkN g (30 + 4 * kk + 1) 200))), (17, .int gy), (9, .int la), (8, .int (nI (30 + 4 * kk))), (7, .int (nI kk)), (6, .int 1), (5, .int go), (4, .int fu), (3, .int b), (2, .int 30), (1, .ref (g.2.2 40)), (0, .ref (ad 0))]) d_Lw_isBalanced_614 (by decide) rfl ?_
        refine y_iload d_Lw_isBalanced_616 2 rfl ?_
        refine y_iload d_Lw_isBalanced_618 1 rfl ?_
        refine y_icmp_ge (tgt := 638) d_Lw_isBalanced_620 (by decide) (fun c_620 => ?_) (fun c_620 => ?_)
        · refine y_iload d_Lw_isBalanced_638 0 rfl ?_
          refine y_ldc ct_Lw_174 d_Lw_isBalanced_640 ?_
          refine y_icmp_eq (tgt := 672) d_Lw_isBalanced_642 (by decide) (fun c_642 => ?_) (fun c_642 => ?_)
          · rcases hv9 with ⟨q9, -⟩ | ⟨-, e9, hW2⟩ | ⟨-, -, e9, hW3⟩
            · exact absurd q9 (Int32.not_lt.mpr c_620)
            rotate_left
            · exact absurd (e9.symm.trans c_642) (ne_st hW3.bd.1.1)
            subst e9
            refine y_iconst d_Lw_isBalanced_672 (v := 1) (by decide) ?_
            refine y_goto (tgt := 677) d_Lw_isBalanced_673 (by decide) ?_
            refine y_istore (lv' := [(6, .int 1), (19, .int (-200003)), (18, .int (nI (1 + pkN g (30 + 4 * kk + 1) 200))), (17, .int gy), (9, .int la), (8, .int (nI (30 + 4 * kk))), (7, .int (nI kk)), (5, .int go), (4, .int fu), (3, .int b), (2, .int 30), (1, .ref (g.2.2 40)), (0, .ref (ad 0))]) d_Lw_isBalanced_677 (by decide) rfl ?_
            refine y_iload d_Lw_isBalanced_679 1 rfl ?_
            refine y_if_lt (tgt := 689) d_Lw_isBalanced_681 (by decide) (fun c_681 => ?_) (fun c_681 => ?_)
            · refine y_iload d_Lw_isBalanced_689 8 rfl ?_
              refine y_istore (lv' := [(4, .int fu), (6, .int 1), (19, .int (-200003)), (18, .int (nI (1 + pkN g (30 + 4 * kk + 1) 200))), (17, .int gy), (9, .int la), (8, .int (nI (30 + 4 * kk))), (7, .int (nI kk)), (5, .int go), (3, .int b), (2, .int 30), (1, .ref (g.2.2 40)), (0, .ref (ad 0))]) d_Lw_isBalanced_691 (by decide) rfl ?_
              refine y_lv (lv' := [(7, .int (nI kk)), (6, .int 1), (5, .int go), (4, .int fu), (3, .int b), (2, .int 30), (1, .ref (g.2.2 40)), (0, .ref (ad 0))]) [7, 1, 8, 0, 9, 10, 11, 12] rfl ?_
              refine y_end (fun wC hC => ?_)
              exact yw_bud (by omega) (by omega) (K wC _ _ _ _ _ _ ((hW2.up (Nat.le_succ kk)).e (z_I.same (z_I.nil _) hC)) (hb))
            · exact absurd c_681 (by decide)
          · rcases hv9 with ⟨q9, -⟩ | ⟨-, e9, -⟩ | ⟨-, -, e9, hW2⟩
            · exact absurd q9 (Int32.not_lt.mpr c_620)
            · exact absurd e9 c_642
            subst e9
            refine y_iload d_Lw_isBalanced_645 0 rfl ?_
            refine y_iload d_Lw_isBalanced_647 8 rfl ?_
            refine y_iload d_Lw_isBalanced_649 1 rfl ?_
            refine y_iadd d_Lw_isBalanced_651 (v := fu + (nI (1 + pkN g (30 + 4 * kk + 1) 200))) rfl ?_
            refine y_icmp_ne (tgt := 676) d_Lw_isBalanced_652 (by decide) (fun c_652 => ?_) (fun c_652 => ?_)
            · exact absurd rfl c_652
            · refine y_aload_n d_Lw_isBalanced_655 rfl 12 rfl ?_
              refine y_bipush d_Lw_isBalanced_656 (v := 33) (by decide) ?_
              refine y_bipush d_Lw_isBalanced_658 (v := 103) (by decide) ?_
              refine y_iconst d_Lw_isBalanced_660 (v := 0) (by decide) ?_
              refine yw_callS (As := [.ref (ad 0), .int 33, .int 103, .int 0]) (rest := []) ln_Lw_193 w_st_Lw_ask ok_Lw_isBalanced_Lw_ask d_Lw_isBalanced_661 (fun wA hA => B_pool103 (hW2.e (z_I.same (z_I.nil _) hA))) rfl rfl (Nat.le_of_ble_eq_true rfl) (by omega) (by omega) (fun wA661 hA661 E wB661 hx => ?_) (fun wA661 hA661 v wB661 hx => ?_)
              · exact absurd hx.1 (by simp)
              · obtain ⟨e1, e2⟩ := hx
                cases e1
                refine yw_st (st2 := [.int (gy - (nI (1 + pkN g (30 + 4 * kk + 1) 200)))]) rfl ?_
                subst e2
                refine y_go hA661 ?_
                refine y_iload d_Lw_isBalanced_664 2 rfl ?_
                refine y_iload d_Lw_isBalanced_666 1 rfl ?_
                refine y_isub d_Lw_isBalanced_668 (v := gy - (nI (1 + pkN g (30 + 4 * kk + 1) 200))) rfl ?_
                refine y_icmp_ne (tgt := 676) d_Lw_isBalanced_669 (by decide) (fun c_669 => ?_) (fun c_669 => ?_)
                · exact absurd rfl c_669
                · refine y_iconst d_Lw_isBalanced_672 (v := 1) (by decide) ?_
                  refine y_goto (tgt := 677) d_Lw_isBalanced_673 (by decide) ?_
                  refine y_istore (lv' := [(6, .int 1), (19, .int (fu + (nI (1 + pkN g (30 + 4 * kk + 1) 200)))), (18, .int (nI (1 + pkN g (30 + 4 * kk + 1) 200))), (17, .int gy), (9, .int la), (8, .int (nI (30 + 4 * kk))), (7, .int (nI kk)), (5, .int go), (4, .int fu), (3, .int b), (2, .int 30), (1, .ref (g.2.2 40)), (0, .ref (ad 0))]) d_Lw_isBalanced_677 (by decide) rfl ?_
                  refine y_iload d_Lw_isBalanced_679 1 rfl ?_
                  refine y_if_lt (tgt := 689) d_Lw_isBalanced_681 (by decide) (fun c_681 => ?_) (fun c_681 => ?_)
                  · exact absurd c_681 (Int32.not_lt.mpr (nn_i hW2.bd.1.1))
                  · refine y_iload d_Lw_isBalanced_684 1 rfl ?_
                    refine y_goto (tgt := 691) d_Lw_isBalanced_686 (by decide) ?_
                    refine y_istore (lv' := [(4, .int (fu + (nI (1 + pkN g (30 + 4 * kk + 1) 200)))), (6, .int 1), (19, .int (fu + (nI (1 + pkN g (30 + 4 * kk + 1) 200)))), (18, .int (nI (1 + pkN g (30 + 4 * kk + 1) 200))), (17, .int gy), (9, .int la), (8, .int (nI (30 + 4 * kk))), (7, .int (nI kk)), (5, .int go), (3, .int b), (2, .int 30), (1, .ref (g.2.2 40)), (0, .ref (ad 0))]) d_Lw_isBalanced_691 (by decide) rfl ?_
                    refine y_lv (lv' := [(7, .int (nI kk)), (6, .int 1), (5, .int go), (4, .int (fu + (nI (1 + pkN g (30 + 4 * kk + 1) 200)))), (3, .int b), (2, .int 30), (1, .ref (g.2.2 40)), (0, .ref (ad 0))]) [7, 1, 8, 0, 9, 10, 11, 12] rfl ?_
                    refine y_end (fun wC hC => ?_)
                    exact yw_bud (by omega) (by omega) (K wC _ _ _ _ _ _ ((hW2.up (Nat.le_succ kk)).e (z_I.same (z_I.nil _) hC)) (by rw [hb]; exact hb_re _ _ _ _ _ _))
        · rcases hv9 with ⟨-, e9, hW2⟩ | ⟨q9, -⟩ | ⟨q9, -⟩
          rotate_left
          · exact absurd (Int32.not_le.mp c_620) q9
          · exact absurd (Int32.not_le.mp c_620) q9
          subst e9
          refine y_iload d_Lw_isBalanced_623 0 rfl ?_
          refine y_ldc ct_Lw_168 d_Lw_isBalanced_625 ?_
          refine y_icmp_ne (tgt := 634) d_Lw_isBalanced_627 (by decide) (fun c_627 => ?_) (fun c_627 => ?_)
          · exact absurd c_627 (by decide)
          · refine y_iconst d_Lw_isBalanced_630 (v := 1) (by decide) ?_
            refine y_goto (tgt := 677) d_Lw_isBalanced_631 (by decide) ?_
            refine y_istore (lv' := [(6, .int 1), (19, .int (-200004)), (18, .int (nI (1 + pkN g (30 + 4 * kk + 1) 200))), (17, .int gy), (9, .int la), (8, .int (nI (30 + 4 * kk))), (7, .int (nI kk)), (5, .int go), (4, .int fu), (3, .int b), (2, .int 30), (1, .ref (g.2.2 40)), (0, .ref (ad 0))]) d_Lw_isBalanced_677 (by decide) rfl ?_
            refine y_iload d_Lw_isBalanced_679 1 rfl ?_
            refine y_if_lt (tgt := 689) d_Lw_isBalanced_681 (by decide) (fun c_681 => ?_) (fun c_681 => ?_)
            · refine y_iload d_Lw_isBalanced_689 8 rfl ?_
              refine y_istore (lv' := [(4, .int fu), (6, .int 1), (19, .int (-200004)), (18, .int (nI (1 + pkN g (30 + 4 * kk + 1) 200))), (17, .int gy), (9, .int la), (8, .int (nI (30 + 4 * kk))), (7, .int (nI kk)), (5, .int go), (3, .int b), (2, .int 30), (1, .ref (g.2.2 40)), (0, .ref (ad 0))]) d_Lw_isBalanced_691 (by decide) rfl ?_
              refine y_lv (lv' := [(7, .int (nI kk)), (6, .int 1), (5, .int go), (4, .int fu), (3, .int b), (2, .int 30), (1, .ref (g.2.2 40)), (0, .ref (ad 0))]) [7, 1, 8, 0, 9, 10, 11, 12] rfl ?_
              refine y_end (fun wC hC => ?_)
              exact yw_bud (by omega) (by omega) (K wC _ _ _ _ _ _ ((hW2.up (Nat.le_succ kk)).e (z_I.same (z_I.nil _) hC)) (hb))
            · exact absurd c_681 (by decide)
theorem d_Lw_isBalanced_14 : decode method_22_code 14 = .ok (.iload 7, 2) := zo_21 (d := 7) (zd_b zq_method_22_code_0 14 rfl rfl rfl) (zd_b zq_method_22_code_0 15 rfl rfl rfl)
theorem d_Lw_isBalanced_16 : decode method_22_code 16 = .ok (.bipush 14, 2) := zo_16 (d := 14) (zd_b zq_method_22_code_0 16 rfl rfl rfl) (zd_b zq_method_22_code_0 17 rfl rfl rfl) (by decide +kernel)
theorem d_Lw_isBalanced_18 : decode method_22_code 18 = .ok (.if_icmp .ge 732, 3) := zo_162 (d := 2) (e := 220) (zd_b zq_method_22_code_0 18 rfl rfl rfl) (zd_b zq_method_22_code_0 19 rfl rfl rfl) (zd_b zq_method_22_code_0 20 rfl rfl rfl) (by decide +kernel)
theorem d_Lw_isBalanced_750 : decode method_22_code 750 = .ok (.iload 6, 2) := zo_21 (d := 6) (zd_b zq_method_22_code_23 14 rfl rfl rfl) (zd_b zq_method_22_code_23 15 rfl rfl rfl)
theorem d_Lw_isBalanced_752 : decode method_22_code 752 = .ok (.ireturn, 1) := zo_172 (zd_b zq_method_22_code_23 16 rfl rfl rfl)
theorem d_Lw_isBalanced_21 : decode method_22_code 21 = .ok (.iload 6, 2) := zo_21 (d := 6) (zd_b zq_method_22_code_0 21 rfl rfl rfl) (zd_b zq_method_22_code_0 22 rfl rfl rfl)
theorem d_Lw_isBalanced_23 : decode method_22_code 23 = .ok (.ifCond .eq 727, 3) := zo_153 (d := 2) (e := 215) (zd_b zq_method_22_code_0 23 rfl rfl rfl) (zd_b zq_method_22_code_0 24 rfl rfl rfl) (zd_b zq_method_22_code_0 25 rfl rfl rfl) (by decide +kernel)
theorem d_Lw_isBalanced_26 : decode method_22_code 26 = .ok (.iload_n 2, 1) := zo_28 (zd_b zq_method_22_code_0 26 rfl rfl rfl)
theorem d_Lw_isBalanced_27 : decode method_22_code 27 = .ok (.iconst 4, 1) := zo_7 (zd_b zq_method_22_code_0 27 rfl rfl rfl)
theorem d_Lw_isBalanced_28 : decode method_22_code 28 = .ok (.iload 7, 2) := zo_21 (d := 7) (zd_b zq_method_22_code_0 28 rfl rfl rfl) (zd_b zq_method_22_code_0 29 rfl rfl rfl)
theorem d_Lw_isBalanced_30 : decode method_22_code 30 = .ok (.imul, 1) := zo_104 (zd_b zq_method_22_code_0 30 rfl rfl rfl)
theorem d_Lw_isBalanced_31 : decode method_22_code 31 = .ok (.iadd, 1) := zo_96 (zd_b zq_method_22_code_0 31 rfl rfl rfl)
theorem d_Lw_isBalanced_32 : decode method_22_code 32 = .ok (.istore 8, 2) := zo_54 (d := 8) (zd_b zq_method_22_code_1 0 rfl rfl rfl) (zd_b zq_method_22_code_1 1 rfl rfl rfl)
theorem d_Lw_isBalanced_34 : decode method_22_code 34 = .ok (.aload_n 0, 1) := zo_42 (zd_b zq_method_22_code_1 2 rfl rfl rfl)
theorem d_Lw_isBalanced_35 : decode method_22_code 35 = .ok (.bipush 32, 2) := zo_16 (d := 32) (zd_b zq_method_22_code_1 3 rfl rfl rfl) (zd_b zq_method_22_code_1 4 rfl rfl rfl) (by decide +kernel)
theorem d_Lw_isBalanced_37 : decode method_22_code 37 = .ok (.bipush 119, 2) := zo_16 (d := 119) (zd_b zq_method_22_code_1 5 rfl rfl rfl) (zd_b zq_method_22_code_1 6 rfl rfl rfl) (by decide +kernel)
theorem d_Lw_isBalanced_39 : decode method_22_code 39 = .ok (.iconst 0, 1) := zo_3 (zd_b zq_method_22_code_1 7 rfl rfl rfl)
theorem d_Lw_isBalanced_40 : decode method_22_code 40 = .ok (.invokestatic 193, 3) := zo_184 (d := 0) (e := 193) (zd_b zq_method_22_code_1 8 rfl rfl rfl) (zd_b zq_method_22_code_1 9 rfl rfl rfl) (zd_b zq_method_22_code_1 10 rfl rfl rfl)
theorem d_Lw_isBalanced_43 : decode method_22_code 43 = .ok (.istore 9, 2) := zo_54 (d := 9) (zd_b zq_method_22_code_1 11 rfl rfl rfl) (zd_b zq_method_22_code_1 12 rfl rfl rfl)
theorem d_Lw_isBalanced_45 : decode method_22_code 45 = .ok (.aload_n 1, 1) := zo_43 (zd_b zq_method_22_code_1 13 rfl rfl rfl)
theorem d_Lw_isBalanced_46 : decode method_22_code 46 = .ok (.iload 8, 2) := zo_21 (d := 8) (zd_b zq_method_22_code_1 14 rfl rfl rfl) (zd_b zq_method_22_code_1 15 rfl rfl rfl)
theorem d_Lw_isBalanced_48 : decode method_22_code 48 = .ok (.bipush 8, 2) := zo_16 (d := 8) (zd_b zq_method_22_code_1 16 rfl rfl rfl) (zd_b zq_method_22_code_1 17 rfl rfl rfl) (by decide +kernel)
theorem d_Lw_isBalanced_50 : decode method_22_code 50 = .ok (.invokestatic 182, 3) := zo_184 (d := 0) (e := 182) (zd_b zq_method_22_code_1 18 rfl rfl rfl) (zd_b zq_method_22_code_1 19 rfl rfl rfl) (zd_b zq_method_22_code_1 20 rfl rfl rfl)
theorem d_Lw_isBalanced_53 : decode method_22_code 53 = .ok (.tableswitch 526 0 6 #[43, 43, 159, 261, 304, 353, 448], 43) := by decide +kernel
set_option maxHeartbeats 4000000 in
set_option maxRecDepth 100000 in
theorem I_loop (g : zG) {ad : Nat → Nat} {f : Nat → Int32} (hL : g.2.2 41 ≤ 260) : ∀ (d kk : Nat) (w : zW) (b fu la gy du go : Int32), Wq g ad f kk fu la gy du w → b = fu + la + gy + du + go → kk ≤ 14 → 14 < kk + d → DW g M_Lw_isBalanced (fun o w1 => o = .inl (some (.int 1)) ∧ ∃ k9 fu9 la9 gy9 du9, Wq g ad f k9 fu9 la9 gy9 du9 w1) w 14 [(7, .int (nI kk)), (6, .int 1), (5, .int go), (4, .int fu), (3, .int b), (2, .int 30), (1, .ref (g.2.2 40)), (0, .ref (ad 0))] [] (40 * (14 - kk) + 1) (600 * (14 - kk) + 1) := by
  intro d
  induction d with
  | zero => intro kk w b fu la gy du go hW hb h1 h2; exact absurd h2 (by omega)
  | succ d ih =>
    intro kk w b fu la gy du go hW hb h1 h2
    refine y_base (cs := []) (z_I.nil w) ?_
    refine y_iload d_Lw_isBalanced_14 0 rfl ?_
    refine y_bipush d_Lw_isBalanced_16 (v := 14) (by decide) ?_
    refine y_icmp_ge (tgt := 750) d_Lw_isBalanced_18 (by decide) (fun c_18 => ?_) (fun c_18 => ?_)
    · have hn := z_le (a := 14) (b := kk) (by omega) (by omega) c_18
      obtain rfl : kk = 14 := by omega
      refine y_iload d_Lw_isBalanced_750 1 rfl ?_
      refine y_iret d_Lw_isBalanced_752 rfl rfl ?_
      exact fun w1 k1 => ⟨rfl, _, _, _, _, _, hW.e (z_I.same (z_I.nil _) k1)⟩
    · have hn := z_nle (a := 14) (b := kk) (by omega) (by omega) c_18
      refine y_iload d_Lw_isBalanced_21 1 rfl ?_
      refine y_if_eq (tgt := 750) d_Lw_isBalanced_23 (by decide) (fun c_23 => ?_) (fun c_23 => ?_)
      · exact absurd c_23 (by decide)
      · refine y_iload_n d_Lw_isBalanced_26 rfl 5 rfl ?_
        refine y_iconst d_Lw_isBalanced_27 (v := 4) (by decide) ?_
        refine y_iload d_Lw_isBalanced_28 0 rfl ?_
        refine y_imul d_Lw_isBalanced_30 (v := nI (4 * kk)) (pk_mul _ _) ?_
        refine y_iadd d_Lw_isBalanced_31 (v := nI (30 + 4 * kk)) (nI_add 30 _) ?_
        refine y_istore (lv' := [(8, .int (nI (30 + 4 * kk))), (7, .int (nI kk)), (6, .int 1), (5, .int go), (4, .int fu), (3, .int b), (2, .int 30), (1, .ref (g.2.2 40)), (0, .ref (ad 0))]) d_Lw_isBalanced_32 (by decide) rfl ?_
        refine y_aload_n d_Lw_isBalanced_34 rfl 8 rfl ?_
        refine y_bipush d_Lw_isBalanced_35 (v := 32) (by decide) ?_
        refine y_bipush d_Lw_isBalanced_37 (v := 119) (by decide) ?_
        refine y_iconst d_Lw_isBalanced_39 (v := 0) (by decide) ?_
        refine yw_callS (As := [.ref (ad 0), .int 32, .int 119, .int 0]) (rest := []) ln_Lw_193 w_st_Lw_ask ok_Lw_isBalanced_Lw_ask d_Lw_isBalanced_40 (fun wA hA => B_ladle (hW.e (z_I.same (z_I.nil _) hA))) rfl rfl (Nat.le_of_ble_eq_true rfl) (by omega) (by omega) (fun wA40 hA40 E wB40 hx => ?_) (fun wA40 hA40 v wB40 hx => ?_)
        · exact absurd hx.1 (by simp)
        · obtain ⟨e1, e2⟩ := hx
          cases e1
          refine yw_st (st2 := [.int la]) rfl ?_
          subst e2
          refine y_go hA40 ?_
          refine y_istore (lv' := [(9, .int la), (8, .int (nI (30 + 4 * kk))), (7, .int (nI kk)), (6, .int 1), (5, .int go), (4, .int fu), (3, .int b), (2, .int 30), (1, .ref (g.2.2 40)), (0, .ref (ad 0))]) d_Lw_isBalanced_43 (by decide) rfl ?_
          refine y_aload_n d_Lw_isBalanced_45 rfl 8 rfl ?_
          refine y_iload d_Lw_isBalanced_46 1 rfl ?_
          refine y_bipush d_Lw_isBalanced_48 (v := 8) (by decide) ?_
          refine y_callS (As := [.ref (g.2.2 40), .int (nI (30 + 4 * kk)), .int 8]) (rest := []) (csC := []) (is := []) ln_Lw_182 w_st_Lw_pick ok_Lw_isBalanced_Lw_pick d_Lw_isBalanced_50 (C_Lw_pick g (30 + 4 * kk) 8 (by omega) (by decide) (by decide) hL) rfl rfl (Nat.le_of_ble_eq_true rfl) rfl (by decide) (by omega) (by omega) (fun E cs1 hx => ?_) (fun v cs1 hx => ?_)
          · exact absurd hx.1 (by simp)
          · obtain ⟨e1, rfl⟩ := hx
            cases e1
            refine ⟨rfl, ?_⟩
            refine y_st (st2 := [.int (nI (pkN g (30 + 4 * kk) 8))]) rfl ?_
            refine y_cs (cs2 := []) rfl ?_
            have hk : kk < 14 := hn
            obtain ⟨p9, hp9, e9⟩ : ∃ p, p < 8 ∧ pkN g (30 + 4 * kk) 8 = p := ⟨_, pkN_lt (by decide), rfl⟩
            rw [e9]
            have K : ∀ (w : zW) (b fu la gy du go : Int32), Wq g ad f (kk + 1) fu la gy du w → b = fu + la + gy + du + go → DW g M_Lw_isBalanced (fun o w1 => o = .inl (some (.int 1)) ∧ ∃ k9 fu9 la9 gy9 du9, Wq g ad f k9 fu9 la9 gy9 du9 w1) w 693 [(7, .int (nI kk)), (6, .int 1), (5, .int go), (4, .int fu), (3, .int b), (2, .int 30), (1, .ref (g.2.2 40)), (0, .ref (ad 0))] [] ((40 * (14 - (kk + 1)) + 1) + 3) ((600 * (14 - (kk + 1)) + 1) + 18) := fun w b fu la gy du go q1 q2 => I_end g q1 q2 (fun w1 q3 => ih (kk + 1) w1 b fu la gy du go q3 q2 (by omega) (by omega))
            have h8 : p9 = 0 ∨ p9 = 1 ∨ p9 = 2 ∨ p9 = 3 ∨ p9 = 4 ∨ p9 = 5 ∨ p9 = 6 ∨ p9 = 7 := by omega
            rcases h8 with rfl | rfl | rfl | rfl | rfl | rfl | rfl | rfl
            · refine y_tableIn (off := 43) (tgt := 96) d_Lw_isBalanced_53 (by decide) (by decide) (by decide) (by decide) ?_
              refine y_lv (lv' := [(9, .int la), (8, .int (nI (30 + 4 * kk))), (7, .int (nI kk)), (6, .int 1), (5, .int go), (4, .int fu), (3, .int b), (2, .int 30), (1, .ref (g.2.2 40)), (0, .ref (ad 0))]) [0, 1, 2, 3, 4, 5, 6, 7, 8, 9] rfl ?_
              refine y_end (fun wC hC => ?_)
              exact yw_bud (by omega) (by omega) (IB_0 g hk hL (hW.e (z_I.same (z_I.nil _) hC)) hb K)
            · refine y_tableIn (off := 43) (tgt := 96) d_Lw_isBalanced_53 (by decide) (by decide) (by decide) (by decide) ?_
              refine y_lv (lv' := [(9, .int la), (8, .int (nI (30 + 4 * kk))), (7, .int (nI kk)), (6, .int 1), (5, .int go), (4, .int fu), (3, .int b), (2, .int 30), (1, .ref (g.2.2 40)), (0, .ref (ad 0))]) [0, 1, 2, 3, 4, 5, 6, 7, 8, 9] rfl ?_
              refine y_end (fun wC hC => ?_)
              exact yw_bud (by omega) (by omega) (IB_0 g hk hL (hW.e (z_I.same (z_I.nil _) hC)) hb K)
            · refine y_tableIn (off := 159) (tgt := 212) d_Lw_isBalanced_53 (by decide) (by decide) (by decide) (by decide) ?_
              refine y_lv (lv' := [(9, .int la), (8, .int (nI (30 + 4 * kk))), (7, .int (nI kk)), (6, .int 1), (5, .int go), (4, .int fu), (3, .int b), (2, .int 30), (1, .ref (g.2.2 40)), (0, .ref (ad 0))]) [0, 1, 2, 3, 4, 5, 6, 7, 8, 9] rfl ?_
              refine y_end (fun wC hC => ?_)
              exact yw_bud (by omega) (by omega) (IB_2 g hk hL (hW.e (z_I.same (z_I.nil _) hC)) hb K)
            · refine y_tableIn (off := 261) (tgt := 314) d_Lw_isBalanced_53 (by decide) (by decide) (by decide) (by decide) ?_
              refine y_lv (lv' := [(9, .int la), (8, .int (nI (30 + 4 * kk))), (7, .int (nI kk)), (6, .int 1), (5, .int go), (4, .int fu), (3, .int b), (2, .int 30), (1, .ref (g.2.2 40)), (0, .ref (ad 0))]) [0, 1, 2, 3, 4, 5, 6, 7, 8, 9] rfl ?_
              refine y_end (fun wC hC => ?_)
              exact yw_bud (by omega) (by omega) (IB_3 g hk hL (hW.e (z_I.same (z_I.nil _) hC)) hb K)
            · refine y_tableIn (off := 304) (tgt := 357) d_Lw_isBalanced_53 (by decide) (by decide) (by decide) (by decide) ?_
              refine y_lv (lv' := [(9, .int la), (8, .int (nI (30 + 4 * kk))), (7, .int (nI kk)), (6, .int 1), (5, .int go), (4, .int fu), (3, .int b), (2, .int 30), (1, .ref (g.2.2 40)), (0, .ref (ad 0))]) [0, 1, 2, 3, 4, 5, 6, 7, 8, 9] rfl ?_
              refine y_end (fun wC hC => ?_)
              exact yw_bud (by omega) (by omega) (IB_4 g hk hL (hW.e (z_I.same (z_I.nil _) hC)) hb K)
            · refine y_tableIn (off := 353) (tgt := 406) d_Lw_isBalanced_53 (by decide) (by decide) (by decide) (by decide) ?_
              refine y_lv (lv' := [(9, .int la), (8, .int (nI (30 + 4 * kk))), (7, .int (nI kk)), (6, .int 1), (5, .int go), (4, .int fu), (3, .int b), (2, .int 30), (1, .ref (g.2.2 40)), (0, .ref (ad 0))]) [0, 1, 2, 3, 4, 5, 6, 7, 8, 9] rfl ?_
              refine y_end (fun wC hC => ?_)
              exact yw_bud (by omega) (by omega) (IB_5 g hk hL (hW.e (z_I.same (z_I.nil _) hC)) hb K)
            · refine y_tableIn (off := 448) (tgt := 501) d_Lw_isBalanced_53 (by decide) (by decide) (by decide) (by decide) ?_
              refine y_lv (lv' := [(9, .int la), (8, .int (nI (30 + 4 * kk))), (7, .int (nI kk)), (6, .int 1), (5, .int go), (4, .int fu), (3, .int b), (2, .int 30), (1, .ref (g.2.2 40)), (0, .ref (ad 0))]) [0, 1, 2, 3, 4, 5, 6, 7, 8, 9] rfl ?_
              refine y_end (fun wC hC => ?_)
              exact yw_bud (by omega) (by omega) (IB_6 g hk hL (hW.e (z_I.same (z_I.nil _) hC)) hb K)
            · refine y_tableOut (tgt := 579) d_Lw_isBalanced_53 (by first | decide | omega) (by decide) ?_
              refine y_lv (lv' := [(9, .int la), (8, .int (nI (30 + 4 * kk))), (7, .int (nI kk)), (6, .int 1), (5, .int go), (4, .int fu), (3, .int b), (2, .int 30), (1, .ref (g.2.2 40)), (0, .ref (ad 0))]) [0, 1, 2, 3, 4, 5, 6, 7, 8, 9] rfl ?_
              refine y_end (fun wC hC => ?_)
              exact yw_bud (by omega) (by omega) (IB_7 g hk hL (hW.e (z_I.same (z_I.nil _) hC)) hb K)
theorem d_Lw_isBalanced_0 : decode method_22_code 0 = .ok (.iconst 0, 1) := zo_3 (zd_b zq_method_22_code_0 0 rfl rfl rfl)
theorem d_Lw_isBalanced_1 : decode method_22_code 1 = .ok (.istore_n 3, 1) := zo_62 (zd_b zq_method_22_code_0 1 rfl rfl rfl)
theorem d_Lw_isBalanced_2 : decode method_22_code 2 = .ok (.iconst 0, 1) := zo_3 (zd_b zq_method_22_code_0 2 rfl rfl rfl)
theorem d_Lw_isBalanced_3 : decode method_22_code 3 = .ok (.istore 4, 2) := zo_54 (d := 4) (zd_b zq_method_22_code_0 3 rfl rfl rfl) (zd_b zq_method_22_code_0 4 rfl rfl rfl)
theorem d_Lw_isBalanced_5 : decode method_22_code 5 = .ok (.iconst 0, 1) := zo_3 (zd_b zq_method_22_code_0 5 rfl rfl rfl)
theorem d_Lw_isBalanced_6 : decode method_22_code 6 = .ok (.istore 5, 2) := zo_54 (d := 5) (zd_b zq_method_22_code_0 6 rfl rfl rfl) (zd_b zq_method_22_code_0 7 rfl rfl rfl)
theorem d_Lw_isBalanced_8 : decode method_22_code 8 = .ok (.iconst 1, 1) := zo_4 (zd_b zq_method_22_code_0 8 rfl rfl rfl)
theorem d_Lw_isBalanced_9 : decode method_22_code 9 = .ok (.istore 6, 2) := zo_54 (d := 6) (zd_b zq_method_22_code_0 9 rfl rfl rfl) (zd_b zq_method_22_code_0 10 rfl rfl rfl)
theorem d_Lw_isBalanced_11 : decode method_22_code 11 = .ok (.iconst 0, 1) := zo_3 (zd_b zq_method_22_code_0 11 rfl rfl rfl)
theorem d_Lw_isBalanced_12 : decode method_22_code 12 = .ok (.istore 7, 2) := zo_54 (d := 7) (zd_b zq_method_22_code_0 12 rfl rfl rfl) (zd_b zq_method_22_code_0 13 rfl rfl rfl)
set_option maxHeartbeats 4000000 in
set_option maxRecDepth 100000 in
theorem Z_isBalanced {g : zG} {ad : Nat → Nat} {f : Nat → Int32} {w : zW} (hL : g.2.2 41 ≤ 260) (hW : Wq g ad f 0 0 0 0 0 w) : zMB g M_Lw_isBalanced [.ref (ad 0), .ref (g.2.2 40), .int 30] w (fun o w1 => o = .inl (some (.int 1)) ∧ ∃ k9 fu9 la9 gy9 du9, Wq g ad f k9 fu9 la9 gy9 du9 w1) 600 9000 := by
  refine y_of (by decide) rfl (Nat.le_of_ble_eq_true rfl) (y_base (cs := []) (z_I.nil w) ?_)
  refine y_lvE (lv2 := [(0, .ref (ad 0)), (1, .ref (g.2.2 40)), (2, .int 30)]) rfl ?_
  refine y_iconst d_Lw_isBalanced_0 (v := 0) (by decide) ?_
  refine y_istore_n (lv' := [(3, .int 0), (0, .ref (ad 0)), (1, .ref (g.2.2 40)), (2, .int 30)]) d_Lw_isBalanced_1 rfl (by decide) rfl ?_
  refine y_iconst d_Lw_isBalanced_2 (v := 0) (by decide) ?_
  refine y_istore (lv' := [(4, .int 0), (3, .int 0), (0, .ref (ad 0)), (1, .ref (g.2.2 40)), (2, .int 30)]) d_Lw_isBalanced_3 (by decide) rfl ?_
  refine y_iconst d_Lw_isBalanced_5 (v := 0) (by decide) ?_
  refine y_istore (lv' := [(5, .int 0), (4, .int 0), (3, .int 0), (0, .ref (ad 0)), (1, .ref (g.2.2 40)), (2, .int 30)]) d_Lw_isBalanced_6 (by decide) rfl ?_
  refine y_iconst d_Lw_isBalanced_8 (v := 1) (by decide) ?_
  refine y_istore (lv' := [(6, .int 1), (5, .int 0), (4, .int 0), (3, .int 0), (0, .ref (ad 0)), (1, .ref (g.2.2 40)), (2, .int 30)]) d_Lw_isBalanced_9 (by decide) rfl ?_
  refine y_iconst d_Lw_isBalanced_11 (v := 0) (by decide) ?_
  refine y_istore (lv' := [(7, .int 0), (6, .int 1), (5, .int 0), (4, .int 0), (3, .int 0), (0, .ref (ad 0)), (1, .ref (g.2.2 40)), (2, .int 30)]) d_Lw_isBalanced_12 (by decide) rfl ?_
  refine y_lv (lv' := [(7, .int 0), (6, .int 1), (5, .int 0), (4, .int 0), (3, .int 0), (2, .int 30), (1, .ref (g.2.2 40)), (0, .ref (ad 0))]) [0, 1, 2, 3, 4, 7, 6, 5] rfl ?_
  refine y_lv (lv' := [(7, .int 0), (6, .int 1), (5, .int 0), (4, .int 0), (3, .int 0), (2, .int 30), (1, .ref (g.2.2 40)), (0, .ref (ad 0))]) [0, 1, 2, 3, 4, 5, 6, 7] rfl ?_
  refine y_lvE (lv2 := [(7, .int (nI 0)), (6, .int 1), (5, .int 0), (4, .int 0), (3, .int 0), (2, .int 30), (1, .ref (g.2.2 40)), (0, .ref (ad 0))]) rfl ?_
  refine y_end (fun wC hC => ?_)
  exact yw_bud (by decide) (by decide) (I_loop g hL 15 0 wC 0 0 0 0 0 0 (hW.e (z_I.same (z_I.nil _) hC)) rfl (by decide) (by decide))
