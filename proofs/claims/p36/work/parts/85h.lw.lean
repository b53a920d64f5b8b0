theorem d_Lw_law_1620 : decode code 1620 = .ok (.aload_n 1, 1) := zo_43 (zd_b zq_code_50 20 rfl rfl rfl)
theorem d_Lw_law_1621 : decode code 1621 = .ok (.aload_n 0, 1) := zo_42 (zd_b zq_code_50 21 rfl rfl rfl)
theorem d_Lw_law_1622 : decode code 1622 = .ok (.iload 5, 2) := zo_21 (d := 5) (zd_b zq_code_50 22 rfl rfl rfl) (zd_b zq_code_50 23 rfl rfl rfl)
theorem d_Lw_law_1624 : decode code 1624 = .ok (.iconst 1, 1) := zo_4 (zd_b zq_code_50 24 rfl rfl rfl)
theorem d_Lw_law_1625 : decode code 1625 = .ok (.iadd, 1) := zo_96 (zd_b zq_code_50 25 rfl rfl rfl)
theorem d_Lw_law_1626 : decode code 1626 = .ok (.iaload, 1) := zo_46 (zd_b zq_code_50 26 rfl rfl rfl)
theorem d_Lw_law_1627 : decode code 1627 = .ok (.aload_n 3, 1) := zo_45 (zd_b zq_code_50 27 rfl rfl rfl)
theorem d_Lw_law_1628 : decode code 1628 = .ok (.invokestatic 314, 3) := zo_184 (d := 1) (e := 58) (zd_b zq_code_50 28 rfl rfl rfl) (zd_b zq_code_50 29 rfl rfl rfl) (zd_b zq_code_50 30 rfl rfl rfl)
theorem ok_Lw_law_Lw_bar : z_okX M_Lw_law M_Lw_bar 3 := ⟨z_mj6 (i := 219) rfl (by decide +kernel), by decide, ⟨by decide +kernel, by decide +kernel, by decide +kernel⟩, ⟨by decide, by decide⟩, z_mj1 (i := 0) rfl (by decide +kernel), rfl⟩
theorem ln_Lw_314 : Cond.methodLink "IronpourLaw" 314 M_Lw_bar.1 ∈ z_gw := z_mj6 (i := 217) rfl (by decide +kernel)
theorem w_st_Lw_bar : Cond.static M_Lw_bar.1 ∈ z_gw := z_mj6 (i := 218) rfl (by decide +kernel)
theorem d_Lw_law_1631 : decode code 1631 = .ok (.istore 6, 2) := zo_54 (d := 6) (zd_b zq_code_50 31 rfl rfl rfl) (zd_b zq_code_51 0 rfl rfl rfl)
theorem d_Lw_law_1633 : decode code 1633 = .ok (.aload_n 2, 1) := zo_44 (zd_b zq_code_51 1 rfl rfl rfl)
theorem d_Lw_law_1634 : decode code 1634 = .ok (.aload_n 0, 1) := zo_42 (zd_b zq_code_51 2 rfl rfl rfl)
theorem d_Lw_law_1635 : decode code 1635 = .ok (.iload 5, 2) := zo_21 (d := 5) (zd_b zq_code_51 3 rfl rfl rfl) (zd_b zq_code_51 4 rfl rfl rfl)
theorem d_Lw_law_1637 : decode code 1637 = .ok (.iconst 1, 1) := zo_4 (zd_b zq_code_51 5 rfl rfl rfl)
theorem d_Lw_law_1638 : decode code 1638 = .ok (.iadd, 1) := zo_96 (zd_b zq_code_51 6 rfl rfl rfl)
theorem d_Lw_law_1639 : decode code 1639 = .ok (.iaload, 1) := zo_46 (zd_b zq_code_51 7 rfl rfl rfl)
theorem d_Lw_law_1640 : decode code 1640 = .ok (.invokevirtual 316, 3) := zo_182 (d := 1) (e := 60) (zd_b zq_code_51 8 rfl rfl rfl) (zd_b zq_code_51 9 rfl rfl rfl) (zd_b zq_code_51 10 rfl rfl rfl)
theorem ok_Lw_law_Mm_bar : z_ok M_Lw_law M_Mm_bar 1 := ⟨z_mj9 (i := 38) rfl (by decide +kernel), rfl, ⟨by decide +kernel, by decide +kernel, by decide +kernel⟩, ⟨by decide, by decide⟩, z_mj1 (i := 14) rfl (by decide +kernel), rfl⟩
theorem ln_Lw_316 : Cond.methodLink "IronpourLaw" 316 M_Mm_bar.1 ∈ z_gw := z_mj9 (i := 35) rfl (by decide +kernel)
theorem w_im_Mm_bar : Cond.instanceMethod M_Mm_bar.1 ∈ z_gw := z_mj9 (i := 36) rfl (by decide +kernel)
theorem w_se_Mm_bar : Cond.selects M_Mm_bar.1.cls M_Mm_bar.1 M_Mm_bar.1 ∈ z_gw := z_mj9 (i := 37) rfl (by decide +kernel)
theorem d_Lw_law_1643 : decode code 1643 = .ok (.istore 7, 2) := zo_54 (d := 7) (zd_b zq_code_51 11 rfl rfl rfl) (zd_b zq_code_51 12 rfl rfl rfl)
theorem d_Lw_law_1645 : decode code 1645 = .ok (.goto 163, 3) := zo_167 (d := 0) (e := 163) (zd_b zq_code_51 13 rfl rfl rfl) (zd_b zq_code_51 14 rfl rfl rfl) (zd_b zq_code_51 15 rfl rfl rfl) (by decide +kernel)
set_option maxHeartbeats 4000000 in
set_option maxRecDepth 100000 in
theorem LC_bar {g : zG} {ad : Nat → Nat} {t : zTT} {u : zNN} {w : zW} {j : Nat} (hI : IVm g ad t u w) (hR : REL t u.1 (48 * j)) {r : Nat} (hJ : 7 * j + 7 ≤ g.2.2 41) (hL : g.2.2 41 ≤ 3584) (ih : LWI g ad j r) : DW g M_Lw_law lwQ w 1620 [(5, .int (nI (7 * j))), (4, .ref (ad 70)), (3, .ref (ad 69)), (2, .ref (ad 52)), (1, .ref (ad 0)), (0, .ref (g.2.2 40))] [] (100 * (r + 1)) (1000 * (r + 1)) := by
  refine y_base (cs := []) (z_I.nil w) ?_
  refine y_aload_n d_Lw_law_1620 rfl 4 rfl ?_
  refine y_aload_n d_Lw_law_1621 rfl 5 rfl ?_
  refine y_iload d_Lw_law_1622 0 rfl ?_
  refine y_iconst d_Lw_law_1624 (v := 1) (by decide) ?_
  refine y_iadd d_Lw_law_1625 (v := nI ((7 * j) + 1)) (nI_add _ _) ?_
  refine y_sld (v := zs g (7 * j + 1)) d_Lw_law_1626 (vp_in_nI (by omega) (by omega)) (by rw [nI_clamp (by omega)]; rfl) ?_
  refine y_aload_n d_Lw_law_1627 rfl 2 rfl ?_
  refine yw_callSX (As := [.ref (ad 0), .int (zs g (7 * j + 1)), .ref (ad 69)]) (rest := []) ln_Lw_314 w_st_Lw_bar ok_Lw_law_Lw_bar d_Lw_law_1628 (fun wA hA => W_bar (IVm.nil hA hI) _) rfl rfl (Nat.le_of_ble_eq_true rfl) (by omega) (by omega) (fun wA1628 hA1628 E wB1628 hx => ?_) (fun wA1628 hA1628 v wB1628 hx => ?_)
  · obtain ⟨⟨v9, e1⟩, -⟩ := hx
    cases e1
  · obtain ⟨⟨v9, e1⟩, uC, huC, hI2⟩ := hx
    cases e1
    refine yw_st (st2 := [.int v9]) rfl ?_
    have hI := hI2
    refine y_base (cs := []) (z_I.nil _) ?_
    refine y_istore (lv' := [(6, .int v9), (5, .int (nI (7 * j))), (4, .ref (ad 70)), (3, .ref (ad 69)), (2, .ref (ad 52)), (1, .ref (ad 0)), (0, .ref (g.2.2 40))]) d_Lw_law_1631 (by decide) rfl ?_
    refine y_aload_n d_Lw_law_1633 rfl 4 rfl ?_
    refine y_aload_n d_Lw_law_1634 rfl 6 rfl ?_
    refine y_iload d_Lw_law_1635 1 rfl ?_
    refine y_iconst d_Lw_law_1637 (v := 1) (by decide) ?_
    refine y_iadd d_Lw_law_1638 (v := nI ((7 * j) + 1)) (nI_add _ _) ?_
    refine y_sld (v := zs g (7 * j + 1)) d_Lw_law_1639 (vp_in_nI (by omega) (by omega)) (by rw [nI_clamp (by omega)]; rfl) ?_
    refine yw_callVL (As := [.int (zs g (7 * j + 1))]) (rest := []) (ci := 12) rfl (fun wA hA => (IVm.nil hA hI).rm) ln_Lw_316 w_im_Mm_bar w_se_Mm_bar ok_Lw_law_Mm_bar d_Lw_law_1640 (fun wA hA => K_Mm_bar (IVm.nil hA hI) _) rfl rfl (Nat.le_of_ble_eq_true rfl) (by omega) (by omega) (fun wA1640 hA1640 E wB1640 hx => ?_) (fun wA1640 hA1640 v wB1640 hx => ?_)
    · obtain ⟨⟨v8, e1⟩, -⟩ := hx
      cases e1
    · obtain ⟨⟨v8, e1⟩, uM, huM, hI2⟩ := hx
      cases e1
      refine yw_st (st2 := [.int v8]) rfl ?_
      have hI := hI2
      refine y_base (cs := []) (z_I.nil _) ?_
      refine y_istore (lv' := [(7, .int v8), (6, .int v9), (5, .int (nI (7 * j))), (4, .ref (ad 70)), (3, .ref (ad 69)), (2, .ref (ad 52)), (1, .ref (ad 0)), (0, .ref (g.2.2 40))]) d_Lw_law_1643 (by decide) rfl ?_
      refine y_goto (tgt := 1808) d_Lw_law_1645 (by decide) ?_
      refine y_lv (lv' := [(5, .int (nI (7 * j))), (4, .ref (ad 70)), (3, .ref (ad 69)), (2, .ref (ad 52)), (1, .ref (ad 0)), (0, .ref (g.2.2 40))]) [2, 3, 4, 5, 6, 7] rfl ?_
      refine y_end (fun wC hC => ?_)
      exact LC_next (IVm.nil hC hI) ((hR.n (huM.trans huC)).up (by omega)) hJ hL ih (by omega) (by omega)
theorem d_Lw_law_1648 : decode code 1648 = .ok (.aload_n 1, 1) := zo_43 (zd_b zq_code_51 16 rfl rfl rfl)
theorem d_Lw_law_1649 : decode code 1649 = .ok (.aload_n 0, 1) := zo_42 (zd_b zq_code_51 17 rfl rfl rfl)
theorem d_Lw_law_1650 : decode code 1650 = .ok (.iload 5, 2) := zo_21 (d := 5) (zd_b zq_code_51 18 rfl rfl rfl) (zd_b zq_code_51 19 rfl rfl rfl)
theorem d_Lw_law_1652 : decode code 1652 = .ok (.iconst 1, 1) := zo_4 (zd_b zq_code_51 20 rfl rfl rfl)
theorem d_Lw_law_1653 : decode code 1653 = .ok (.iadd, 1) := zo_96 (zd_b zq_code_51 21 rfl rfl rfl)
theorem d_Lw_law_1654 : decode code 1654 = .ok (.iaload, 1) := zo_46 (zd_b zq_code_51 22 rfl rfl rfl)
theorem d_Lw_law_1655 : decode code 1655 = .ok (.aload_n 3, 1) := zo_45 (zd_b zq_code_51 23 rfl rfl rfl)
theorem d_Lw_law_1656 : decode code 1656 = .ok (.invokestatic 317, 3) := zo_184 (d := 1) (e := 61) (zd_b zq_code_51 24 rfl rfl rfl) (zd_b zq_code_51 25 rfl rfl rfl) (zd_b zq_code_51 26 rfl rfl rfl)
theorem ok_Lw_law_Lw_weld : z_okX M_Lw_law M_Lw_weld 3 := ⟨z_mj6 (i := 237) rfl (by decide +kernel), by decide, ⟨by decide +kernel, by decide +kernel, by decide +kernel⟩, ⟨by decide, by decide⟩, z_mj1 (i := 0) rfl (by decide +kernel), rfl⟩
theorem ln_Lw_317 : Cond.methodLink "IronpourLaw" 317 M_Lw_weld.1 ∈ z_gw := z_mj6 (i := 235) rfl (by decide +kernel)
theorem w_st_Lw_weld : Cond.static M_Lw_weld.1 ∈ z_gw := z_mj6 (i := 236) rfl (by decide +kernel)
theorem d_Lw_law_1659 : decode code 1659 = .ok (.istore 6, 2) := zo_54 (d := 6) (zd_b zq_code_51 27 rfl rfl rfl) (zd_b zq_code_51 28 rfl rfl rfl)
theorem d_Lw_law_1661 : decode code 1661 = .ok (.aload_n 2, 1) := zo_44 (zd_b zq_code_51 29 rfl rfl rfl)
theorem d_Lw_law_1662 : decode code 1662 = .ok (.aload_n 0, 1) := zo_42 (zd_b zq_code_51 30 rfl rfl rfl)
theorem d_Lw_law_1663 : decode code 1663 = .ok (.iload 5, 2) := zo_21 (d := 5) (zd_b zq_code_51 31 rfl rfl rfl) (zd_b zq_code_52 0 rfl rfl rfl)
theorem d_Lw_law_1665 : decode code 1665 = .ok (.iconst 1, 1) := zo_4 (zd_b zq_code_52 1 rfl rfl rfl)
theorem d_Lw_law_1666 : decode code 1666 = .ok (.iadd, 1) := zo_96 (zd_b zq_code_52 2 rfl rfl rfl)
theorem d_Lw_law_1667 : decode code 1667 = .ok (.iaload, 1) := zo_46 (zd_b zq_code_52 3 rfl rfl rfl)
theorem d_Lw_law_1668 : decode code 1668 = .ok (.invokevirtual 319, 3) := zo_182 (d := 1) (e := 63) (zd_b zq_code_52 4 rfl rfl rfl) (zd_b zq_code_52 5 rfl rfl rfl) (zd_b zq_code_52 6 rfl rfl rfl)
theorem ok_Lw_law_Mm_weld : z_ok M_Lw_law M_Mm_weld 1 := ⟨z_mj9 (i := 47) rfl (by decide +kernel), rfl, ⟨by decide +kernel, by decide +kernel, by decide +kernel⟩, ⟨by decide, by decide⟩, z_mj1 (i := 14) rfl (by decide +kernel), rfl⟩
theorem ln_Lw_319 : Cond.methodLink "IronpourLaw" 319 M_Mm_weld.1 ∈ z_gw := z_mj9 (i := 44) rfl (by decide +kernel)
theorem w_im_Mm_weld : Cond.instanceMethod M_Mm_weld.1 ∈ z_gw := z_mj9 (i := 45) rfl (by decide +kernel)
theorem w_se_Mm_weld : Cond.selects M_Mm_weld.1.cls M_Mm_weld.1 M_Mm_weld.1 ∈ z_gw := z_mj9 (i := 46) rfl (by decide +kernel)
theorem d_Lw_law_1671 : decode code 1671 = .ok (.istore 7, 2) := zo_54 (d := 7) (zd_b zq_code_52 7 rfl rfl rfl) (zd_b zq_code_52 8 rfl rfl rfl)
theorem d_Lw_law_1673 : decode code 1673 = .ok (.goto 135, 3) := zo_167 (d := 0) (e := 135) (zd_b zq_code_52 9 rfl rfl rfl) (zd_b zq_code_52 10 rfl rfl rfl) (zd_b zq_code_52 11 rfl rfl rfl) (by decide +kernel)
set_option maxHeartbeats 4000000 in
set_option maxRecDepth 100000 in
theorem LC_weld {g : zG} {ad : Nat → Nat} {t : zTT} {u : zNN} {w : zW} {j : Nat} (hI : IVm g ad t u w) (hR : REL t u.1 (48 * j)) {r : Nat} (hJ : 7 * j + 7 ≤ g.2.2 41) (hL : g.2.2 41 ≤ 3584) (ih : LWI g ad j r) : DW g M_Lw_law lwQ w 1648 [(5, .int (nI (7 * j))), (4, .ref (ad 70)), (3, .ref (ad 69)), (2, .ref (ad 52)), (1, .ref (ad 0)), (0, .ref (g.2.2 40))] [] (100 * (r + 1)) (1000 * (r + 1)) := by
  refine y_base (cs := []) (z_I.nil w) ?_
  refine y_aload_n d_Lw_law_1648 rfl 4 rfl ?_
  refine y_aload_n d_Lw_law_1649 rfl 5 rfl ?_
  refine y_iload d_Lw_law_1650 0 rfl ?_
  refine y_iconst d_Lw_law_1652 (v := 1) (by decide) ?_
  refine y_iadd d_Lw_law_1653 (v := nI ((7 * j) + 1)) (nI_add _ _) ?_
  refine y_sld (v := zs g (7 * j + 1)) d_Lw_law_1654 (vp_in_nI (by omega) (by omega)) (by rw [nI_clamp (by omega)]; rfl) ?_
  refine y_aload_n d_Lw_law_1655 rfl 2 rfl ?_
  refine yw_callSX (As := [.ref (ad 0), .int (zs g (7 * j + 1)), .ref (ad 69)]) (rest := []) ln_Lw_317 w_st_Lw_weld ok_Lw_law_Lw_weld d_Lw_law_1656 (fun wA hA => W_weld (IVm.nil hA hI) _) rfl rfl (Nat.le_of_ble_eq_true rfl) (by omega) (by omega) (fun wA1656 hA1656 E wB1656 hx => ?_) (fun wA1656 hA1656 v wB1656 hx => ?_)
  · obtain ⟨⟨v9, e1⟩, -⟩ := hx
    cases e1
  · obtain ⟨⟨v9, e1⟩, uC, huC, hI2⟩ := hx
    cases e1
    refine yw_st (st2 := [.int v9]) rfl ?_
    have hI := hI2
    refine y_base (cs := []) (z_I.nil _) ?_
    refine y_istore (lv' := [(6, .int v9), (5, .int (nI (7 * j))), (4, .ref (ad 70)), (3, .ref (ad 69)), (2, .ref (ad 52)), (1, .ref (ad 0)), (0, .ref (g.2.2 40))]) d_Lw_law_1659 (by decide) rfl ?_
    refine y_aload_n d_Lw_law_1661 rfl 4 rfl ?_
    refine y_aload_n d_Lw_law_1662 rfl 6 rfl ?_
    refine y_iload d_Lw_law_1663 1 rfl ?_
    refine y_iconst d_Lw_law_1665 (v := 1) (by decide) ?_
    refine y_iadd d_Lw_law_1666 (v := nI ((7 * j) + 1)) (nI_add _ _) ?_
    refine y_sld (v := zs g (7 * j + 1)) d_Lw_law_1667 (vp_in_nI (by omega) (by omega)) (by rw [nI_clamp (by omega)]; rfl) ?_
    refine yw_callVL (As := [.int (zs g (7 * j + 1))]) (rest := []) (ci := 12) rfl (fun wA hA => (IVm.nil hA hI).rm) ln_Lw_319 w_im_Mm_weld w_se_Mm_weld ok_Lw_law_Mm_weld d_Lw_law_1668 (fun wA hA => K_Mm_weld (IVm.nil hA hI) _) rfl rfl (Nat.le_of_ble_eq_true rfl) (by omega) (by omega) (fun wA1668 hA1668 E wB1668 hx => ?_) (fun wA1668 hA1668 v wB1668 hx => ?_)
    · obtain ⟨⟨v8, e1⟩, -⟩ := hx
      cases e1
    · obtain ⟨⟨v8, e1⟩, uM, huM, hI2⟩ := hx
      cases e1
      refine yw_st (st2 := [.int v8]) rfl ?_
      have hI := hI2
      refine y_base (cs := []) (z_I.nil _) ?_
      refine y_istore (lv' := [(7, .int v8), (6, .int v9), (5, .int (nI (7 * j))), (4, .ref (ad 70)), (3, .ref (ad 69)), (2, .ref (ad 52)), (1, .ref (ad 0)), (0, .ref (g.2.2 40))]) d_Lw_law_1671 (by decide) rfl ?_
      refine y_goto (tgt := 1808) d_Lw_law_1673 (by decide) ?_
      refine y_lv (lv' := [(5, .int (nI (7 * j))), (4, .ref (ad 70)), (3, .ref (ad 69)), (2, .ref (ad 52)), (1, .ref (ad 0)), (0, .ref (g.2.2 40))]) [2, 3, 4, 5, 6, 7] rfl ?_
      refine y_end (fun wC hC => ?_)
      exact LC_next (IVm.nil hC hI) ((R_weld _ hR huC huM).up (by omega)) hJ hL ih (by omega) (by omega)
theorem d_Lw_law_1676 : decode code 1676 = .ok (.aload_n 1, 1) := zo_43 (zd_b zq_code_52 12 rfl rfl rfl)
theorem d_Lw_law_1677 : decode code 1677 = .ok (.aload_n 0, 1) := zo_42 (zd_b zq_code_52 13 rfl rfl rfl)
theorem d_Lw_law_1678 : decode code 1678 = .ok (.iload 5, 2) := zo_21 (d := 5) (zd_b zq_code_52 14 rfl rfl rfl) (zd_b zq_code_52 15 rfl rfl rfl)
theorem d_Lw_law_1680 : decode code 1680 = .ok (.iconst 1, 1) := zo_4 (zd_b zq_code_52 16 rfl rfl rfl)
theorem d_Lw_law_1681 : decode code 1681 = .ok (.iadd, 1) := zo_96 (zd_b zq_code_52 17 rfl rfl rfl)
theorem d_Lw_law_1682 : decode code 1682 = .ok (.iaload, 1) := zo_46 (zd_b zq_code_52 18 rfl rfl rfl)
theorem d_Lw_law_1683 : decode code 1683 = .ok (.aload_n 3, 1) := zo_45 (zd_b zq_code_52 19 rfl rfl rfl)
theorem d_Lw_law_1684 : decode code 1684 = .ok (.invokestatic 320, 3) := zo_184 (d := 1) (e := 64) (zd_b zq_code_52 20 rfl rfl rfl) (zd_b zq_code_52 21 rfl rfl rfl) (zd_b zq_code_52 22 rfl rfl rfl)
theorem ok_Lw_law_Lw_deliver : z_okX M_Lw_law M_Lw_deliver 3 := ⟨z_mj7 (i := 13) rfl (by decide +kernel), by decide, ⟨by decide +kernel, by decide +kernel, by decide +kernel⟩, ⟨by decide, by decide⟩, z_mj1 (i := 0) rfl (by decide +kernel), rfl⟩
theorem ln_Lw_320 : Cond.methodLink "IronpourLaw" 320 M_Lw_deliver.1 ∈ z_gw := z_mj7 (i := 11) rfl (by decide +kernel)
theorem w_st_Lw_deliver : Cond.static M_Lw_deliver.1 ∈ z_gw := z_mj7 (i := 12) rfl (by decide +kernel)
theorem d_Lw_law_1687 : decode code 1687 = .ok (.istore 6, 2) := zo_54 (d := 6) (zd_b zq_code_52 23 rfl rfl rfl) (zd_b zq_code_52 24 rfl rfl rfl)
theorem d_Lw_law_1689 : decode code 1689 = .ok (.aload_n 2, 1) := zo_44 (zd_b zq_code_52 25 rfl rfl rfl)
theorem d_Lw_law_1690 : decode code 1690 = .ok (.aload_n 0, 1) := zo_42 (zd_b zq_code_52 26 rfl rfl rfl)
theorem d_Lw_law_1691 : decode code 1691 = .ok (.iload 5, 2) := zo_21 (d := 5) (zd_b zq_code_52 27 rfl rfl rfl) (zd_b zq_code_52 28 rfl rfl rfl)
theorem d_Lw_law_1693 : decode code 1693 = .ok (.iconst 1, 1) := zo_4 (zd_b zq_code_52 29 rfl rfl rfl)
theorem d_Lw_law_1694 : decode code 1694 = .ok (.iadd, 1) := zo_96 (zd_b zq_code_52 30 rfl rfl rfl)
theorem d_Lw_law_1695 : decode code 1695 = .ok (.iaload, 1) := zo_46 (zd_b zq_code_52 31 rfl rfl rfl)
theorem d_Lw_law_1696 : decode code 1696 = .ok (.invokevirtual 322, 3) := zo_182 (d := 1) (e := 66) (zd_b zq_code_53 0 rfl rfl rfl) (zd_b zq_code_53 1 rfl rfl rfl) (zd_b zq_code_53 2 rfl rfl rfl)
theorem ok_Lw_law_Mm_deliver : z_ok M_Lw_law M_Mm_deliver 1 := ⟨z_mj9 (i := 51) rfl (by decide +kernel), rfl, ⟨by decide +kernel, by decide +kernel, by decide +kernel⟩, ⟨by decide, by decide⟩, z_mj1 (i := 14) rfl (by decide +kernel), rfl⟩
theorem ln_Lw_322 : Cond.methodLink "IronpourLaw" 322 M_Mm_deliver.1 ∈ z_gw := z_mj9 (i := 48) rfl (by decide +kernel)
theorem w_im_Mm_deliver : Cond.instanceMethod M_Mm_deliver.1 ∈ z_gw := z_mj9 (i := 49) rfl (by decide +kernel)
theorem w_se_Mm_deliver : Cond.selects M_Mm_deliver.1.cls M_Mm_deliver.1 M_Mm_deliver.1 ∈ z_gw := z_mj9 (i := 50) rfl (by decide +kernel)
theorem d_Lw_law_1699 : decode code 1699 = .ok (.istore 7, 2) := zo_54 (d := 7) (zd_b zq_code_53 3 rfl rfl rfl) (zd_b zq_code_53 4 rfl rfl rfl)
theorem d_Lw_law_1701 : decode code 1701 = .ok (.goto 107, 3) := zo_167 (d := 0) (e := 107) (zd_b zq_code_53 5 rfl rfl rfl) (zd_b zq_code_53 6 rfl rfl rfl) (zd_b zq_code_53 7 rfl rfl rfl) (by decide +kernel)
set_option maxHeartbeats 4000000 in
set_option maxRecDepth 100000 in
theorem LC_deliver {g : zG} {ad : Nat → Nat} {t : zTT} {u : zNN} {w : zW} {j : Nat} (hI : IVm g ad t u w) (hR : REL t u.1 (48 * j)) {r : Nat} (hJ : 7 * j + 7 ≤ g.2.2 41) (hL : g.2.2 41 ≤ 3584) (ih : LWI g ad j r) : DW g M_Lw_law lwQ w 1676 [(5, .int (nI (7 * j))), (4, .ref (ad 70)), (3, .ref (ad 69)), (2, .ref (ad 52)), (1, .ref (ad 0)), (0, .ref (g.2.2 40))] [] (100 * (r + 1)) (1000 * (r + 1)) := by
  refine y_base (cs := []) (z_I.nil w) ?_
  refine y_aload_n d_Lw_law_1676 rfl 4 rfl ?_
  refine y_aload_n d_Lw_law_1677 rfl 5 rfl ?_
  refine y_iload d_Lw_law_1678 0 rfl ?_
  refine y_iconst d_Lw_law_1680 (v := 1) (by decide) ?_
  refine y_iadd d_Lw_law_1681 (v := nI ((7 * j) + 1)) (nI_add _ _) ?_
  refine y_sld (v := zs g (7 * j + 1)) d_Lw_law_1682 (vp_in_nI (by omega) (by omega)) (by rw [nI_clamp (by omega)]; rfl) ?_
  refine y_aload_n d_Lw_law_1683 rfl 2 rfl ?_
  refine yw_callSX (As := [.ref (ad 0), .int (zs g (7 * j + 1)), .ref (ad 69)]) (rest := []) ln_Lw_320 w_st_Lw_deliver ok_Lw_law_Lw_deliver d_Lw_law_1684 (fun wA hA => W_deliver (IVm.nil hA hI) _) rfl rfl (Nat.le_of_ble_eq_true rfl) (by omega) (by omega) (fun wA1684 hA1684 E wB1684 hx => ?_) (fun wA1684 hA1684 v wB1684 hx => ?_)
  · obtain ⟨⟨v9, e1⟩, -⟩ := hx
    cases e1
  · obtain ⟨⟨v9, e1⟩, uC, huC, hI2⟩ := hx
    cases e1
    refine yw_st (st2 := [.int v9]) rfl ?_
    have hI := hI2
    refine y_base (cs := []) (z_I.nil _) ?_
    refine y_istore (lv' := [(6, .int v9), (5, .int (nI (7 * j))), (4, .ref (ad 70)), (3, .ref (ad 69)), (2, .ref (ad 52)), (1, .ref (ad 0)), (0, .ref (g.2.2 40))]) d_Lw_law_1687 (by decide) rfl ?_
    refine y_aload_n d_Lw_law_1689 rfl 4 rfl ?_
    refine y_aload_n d_Lw_law_1690 rfl 6 rfl ?_
    refine y_iload d_Lw_law_1691 1 rfl ?_
    refine y_iconst d_Lw_law_1693 (v := 1) (by decide) ?_
    refine y_iadd d_Lw_law_1694 (v := nI ((7 * j) + 1)) (nI_add _ _) ?_
    refine y_sld (v := zs g (7 * j + 1)) d_Lw_law_1695 (vp_in_nI (by omega) (by omega)) (by rw [nI_clamp (by omega)]; rfl) ?_
    refine yw_callVL (As := [.int (zs g (7 * j + 1))]) (rest := []) (ci := 12) rfl (fun wA hA => (IVm.nil hA hI).rm) ln_Lw_322 w_im_Mm_deliver w_se_Mm_deliver ok_Lw_law_Mm_deliver d_Lw_law_1696 (fun wA hA => K_Mm_deliver (IVm.nil hA hI) _) rfl rfl (Nat.le_of_ble_eq_true rfl) (by omega) (by omega) (fun wA1696 hA1696 E wB1696 hx => ?_) (fun wA1696 hA1696 v wB1696 hx => ?_)
    · obtain ⟨⟨v8, e1⟩, -⟩ := hx
      cases e1
    · obtain ⟨⟨v8, e1⟩, uM, huM, hI2⟩ := hx
      cases e1
      refine yw_st (st2 := [.int v8]) rfl ?_
      have hI := hI2
      refine y_base (cs := []) (z_I.nil _) ?_
      refine y_istore (lv' := [(7, .int v8), (6, .int v9), (5, .int (nI (7 * j))), (4, .ref (ad 70)), (3, .ref (ad 69)), (2, .ref (ad 52)), (1, .ref (ad 0)), (0, .ref (g.2.2 40))]) d_Lw_law_1699 (by decide) rfl ?_
      refine y_goto (tgt := 1808) d_Lw_law_1701 (by decide) ?_
      refine y_lv (lv' := [(5, .int (nI (7 * j))), (4, .ref (ad 70)), (3, .ref (ad 69)), (2, .ref (ad 52)), (1, .ref (ad 0)), (0, .ref (g.2.2 40))]) [2, 3, 4, 5, 6, 7] rfl ?_
      refine y_end (fun wC hC => ?_)
      exact LC_next (IVm.nil hC hI) ((R_deliver _ hR huC huM).up (by omega)) hJ hL ih (by omega) (by omega)
theorem d_Lw_law_1704 : decode code 1704 = .ok (.aload_n 1, 1) := zo_43 (zd_b zq_code_53 8 rfl rfl rfl)
theorem d_Lw_law_1705 : decode code 1705 = .ok (.aload_n 0, 1) := zo_42 (zd_b zq_code_53 9 rfl rfl rfl)
theorem d_Lw_law_1706 : decode code 1706 = .ok (.iload 5, 2) := zo_21 (d := 5) (zd_b zq_code_53 10 rfl rfl rfl) (zd_b zq_code_53 11 rfl rfl rfl)
theorem d_Lw_law_1708 : decode code 1708 = .ok (.iconst 1, 1) := zo_4 (zd_b zq_code_53 12 rfl rfl rfl)
theorem d_Lw_law_1709 : decode code 1709 = .ok (.iadd, 1) := zo_96 (zd_b zq_code_53 13 rfl rfl rfl)
theorem d_Lw_law_1710 : decode code 1710 = .ok (.iaload, 1) := zo_46 (zd_b zq_code_53 14 rfl rfl rfl)
theorem d_Lw_law_1711 : decode code 1711 = .ok (.aload_n 3, 1) := zo_45 (zd_b zq_code_53 15 rfl rfl rfl)
theorem d_Lw_law_1712 : decode code 1712 = .ok (.invokestatic 323, 3) := zo_184 (d := 1) (e := 67) (zd_b zq_code_53 16 rfl rfl rfl) (zd_b zq_code_53 17 rfl rfl rfl) (zd_b zq_code_53 18 rfl rfl rfl)
theorem ok_Lw_law_Lw_breakUp : z_okX M_Lw_law M_Lw_breakUp 3 := ⟨z_mj7 (i := 20) rfl (by decide +kernel), by decide, ⟨by decide +kernel, by decide +kernel, by decide +kernel⟩, ⟨by decide, by decide⟩, z_mj1 (i := 0) rfl (by decide +kernel), rfl⟩
theorem ln_Lw_323 : Cond.methodLink "IronpourLaw" 323 M_Lw_breakUp.1 ∈ z_gw := z_mj7 (i := 18) rfl (by decide +kernel)
theorem w_st_Lw_breakUp : Cond.static M_Lw_breakUp.1 ∈ z_gw := z_mj7 (i := 19) rfl (by decide +kernel)
theorem d_Lw_law_1715 : decode code 1715 = .ok (.istore 6, 2) := zo_54 (d := 6) (zd_b zq_code_53 19 rfl rfl rfl) (zd_b zq_code_53 20 rfl rfl rfl)
theorem d_Lw_law_1717 : decode code 1717 = .ok (.aload_n 2, 1) := zo_44 (zd_b zq_code_53 21 rfl rfl rfl)
theorem d_Lw_law_1718 : decode code 1718 = .ok (.aload_n 0, 1) := zo_42 (zd_b zq_code_53 22 rfl rfl rfl)
theorem d_Lw_law_1719 : decode code 1719 = .ok (.iload 5, 2) := zo_21 (d := 5) (zd_b zq_code_53 23 rfl rfl rfl) (zd_b zq_code_53 24 rfl rfl rfl)
theorem d_Lw_law_1721 : decode code 1721 = .ok (.iconst 1, 1) := zo_4 (zd_b zq_code_53 25 rfl rfl rfl)
theorem d_Lw_law_1722 : decode code 1722 = .ok (.iadd, 1) := zo_96 (zd_b zq_code_53 26 rfl rfl rfl)
theorem d_Lw_law_1723 : decode code 1723 = .ok (.iaload, 1) := zo_46 (zd_b zq_code_53 27 rfl rfl rfl)
theorem d_Lw_law_1724 : decode code 1724 = .ok (.invokevirtual 325, 3) := zo_182 (d := 1) (e := 69) (zd_b zq_code_53 28 rfl rfl rfl) (zd_b zq_code_53 29 rfl rfl rfl) (zd_b zq_code_53 30 rfl rfl rfl)
theorem ok_Lw_law_Mm_breakUp : z_ok M_Lw_law M_Mm_breakUp 1 := ⟨z_mj9 (i := 55) rfl (by decide +kernel), rfl, ⟨by decide +kernel, by decide +kernel, by decide +kernel⟩, ⟨by decide, by decide⟩, z_mj1 (i := 14) rfl (by decide +kernel), rfl⟩
theorem ln_Lw_325 : Cond.methodLink "IronpourLaw" 325 M_Mm_breakUp.1 ∈ z_gw := z_mj9 (i := 52) rfl (by decide +kernel)
theorem w_im_Mm_breakUp : Cond.instanceMethod M_Mm_breakUp.1 ∈ z_gw := z_mj9 (i := 53) rfl (by decide +kernel)
theorem w_se_Mm_breakUp : Cond.selects M_Mm_breakUp.1.cls M_Mm_breakUp.1 M_Mm_breakUp.1 ∈ z_gw := z_mj9 (i := 54) rfl (by decide +kernel)
theorem d_Lw_law_1727 : decode code 1727 = .ok (.istore 7, 2) := zo_54 (d := 7) (zd_b zq_code_53 31 rfl rfl rfl) (zd_b zq_code_54 0 rfl rfl rfl)
theorem d_Lw_law_1729 : decode code 1729 = .ok (.goto 79, 3) := zo_167 (d := 0) (e := 79) (zd_b zq_code_54 1 rfl rfl rfl) (zd_b zq_code_54 2 rfl rfl rfl) (zd_b zq_code_54 3 rfl rfl rfl) (by decide +kernel)
set_option maxHeartbeats 4000000 in
set_option maxRecDepth 100000 in
theorem LC_breakUp {g : zG} {ad : Nat → Nat} {t : zTT} {u : zNN} {w : zW} {j : Nat} (hI : IVm g ad t u w) (hR : REL t u.1 (48 * j)) {r : Nat} (hJ : 7 * j + 7 ≤ g.2.2 41) (hL : g.2.2 41 ≤ 3584) (ih : LWI g ad j r) : DW g M_Lw_law lwQ w 1704 [(5, .int (nI (7 * j))), (4, .ref (ad 70)), (3, .ref (ad 69)), (2, .ref (ad 52)), (1, .ref (ad 0)), (0, .ref (g.2.2 40))] [] (100 * (r + 1)) (1000 * (r + 1)) := by
  refine y_base (cs := []) (z_I.nil w) ?_
  refine y_aload_n d_Lw_law_1704 rfl 4 rfl ?_
  refine y_aload_n d_Lw_law_1705 rfl 5 rfl ?_
  refine y_iload d_Lw_law_1706 0 rfl ?_
  refine y_iconst d_Lw_law_1708 (v := 1) (by decide) ?_
  refine y_iadd d_Lw_law_1709 (v := nI ((7 * j) + 1)) (nI_add _ _) ?_
  refine y_sld (v := zs g (7 * j + 1)) d_Lw_law_1710 (vp_in_nI (by omega) (by omega)) (by rw [nI_clamp (by omega)]; rfl) ?_
  refine y_aload_n d_Lw_law_1711 rfl 2 rfl ?_
  refine yw_callSX (As := [.ref (ad 0), .int (zs g (7 * j + 1)), .ref (ad 69)]) (rest := []) ln_Lw_323 w_st_Lw_breakUp ok_Lw_law_Lw_breakUp d_Lw_law_1712 (fun wA hA => W_breakUp (IVm.nil hA hI) _) rfl rfl (Nat.le_of_ble_eq_true rfl) (by omega) (by omega) (fun wA1712 hA1712 E wB1712 hx => ?_) (fun wA1712 hA1712 v wB1712 hx => ?_)
  · obtain ⟨⟨v9, e1⟩, -⟩ := hx
    cases e1
  · obtain ⟨⟨v9, e1⟩, uC, huC, hI2⟩ := hx
    cases e1
    refine yw_st (st2 := [.int v9]) rfl ?_
    have hI := hI2
    refine y_base (cs := []) (z_I.nil _) ?_
    refine y_istore (lv' := [(6, .int v9), (5, .int (nI (7 * j))), (4, .ref (ad 70)), (3, .ref (ad 69)), (2, .ref (ad 52)), (1, .ref (ad 0)), (0, .ref (g.2.2 40))]) d_Lw_law_1715 (by decide) rfl ?_
    refine y_aload_n d_Lw_law_1717 rfl 4 rfl ?_
    refine y_aload_n d_Lw_law_1718 rfl 6 rfl ?_
    refine y_iload d_Lw_law_1719 1 rfl ?_
    refine y_iconst d_Lw_law_1721 (v := 1) (by decide) ?_
    refine y_iadd d_Lw_law_1722 (v := nI ((7 * j) + 1)) (nI_add _ _) ?_
    refine y_sld (v := zs g (7 * j + 1)) d_Lw_law_1723 (vp_in_nI (by omega) (by omega)) (by rw [nI_clamp (by omega)]; rfl) ?_
    refine yw_callVL (As := [.int (zs g (7 * j + 1))]) (rest := []) (ci := 12) rfl (fun wA hA => (IVm.nil hA hI).rm) ln_Lw_325 w_im_Mm_breakUp w_se_Mm_breakUp ok_Lw_law_Mm_breakUp d_Lw_law_1724 (fun wA hA => K_Mm_breakUp (IVm.nil hA hI) _) rfl rfl (Nat.le_of_ble_eq_true rfl) (by omega) (by omega) (fun wA1724 hA1724 E wB1724 hx => ?_) (fun wA1724 hA1724 v wB1724 hx => ?_)
    · obtain ⟨⟨v8, e1⟩, -⟩ := hx
      cases e1
    · obtain ⟨⟨v8, e1⟩, uM, huM, hI2⟩ := hx
      cases e1
      refine yw_st (st2 := [.int v8]) rfl ?_
      have hI := hI2
      refine y_base (cs := []) (z_I.nil _) ?_
      refine y_istore (lv' := [(7, .int v8), (6, .int v9), (5, .int (nI (7 * j))), (4, .ref (ad 70)), (3, .ref (ad 69)), (2, .ref (ad 52)), (1, .ref (ad 0)), (0, .ref (g.2.2 40))]) d_Lw_law_1727 (by decide) rfl ?_
      refine y_goto (tgt := 1808) d_Lw_law_1729 (by decide) ?_
      refine y_lv (lv' := [(5, .int (nI (7 * j))), (4, .ref (ad 70)), (3, .ref (ad 69)), (2, .ref (ad 52)), (1, .ref (ad 0)), (0, .ref (g.2.2 40))]) [2, 3, 4, 5, 6, 7] rfl ?_
      refine y_end (fun wC hC => ?_)
      exact LC_next (IVm.nil hC hI) ((R_breakUp _ hR huC huM).up (by omega)) hJ hL ih (by omega) (by omega)
theorem d_Lw_law_1732 : decode code 1732 = .ok (.aload_n 1, 1) := zo_43 (zd_b zq_code_54 4 rfl rfl rfl)
theorem d_Lw_law_1733 : decode code 1733 = .ok (.aload_n 3, 1) := zo_45 (zd_b zq_code_54 5 rfl rfl rfl)
theorem d_Lw_law_1734 : decode code 1734 = .ok (.invokestatic 326, 3) := zo_184 (d := 1) (e := 70) (zd_b zq_code_54 6 rfl rfl rfl) (zd_b zq_code_54 7 rfl rfl rfl) (zd_b zq_code_54 8 rfl rfl rfl)
theorem ok_Lw_law_Lw_worst : z_okX M_Lw_law M_Lw_worst 2 := ⟨z_mj7 (i := 31) rfl (by decide +kernel), by decide, ⟨by decide +kernel, by decide +kernel, by decide +kernel⟩, ⟨by decide, by decide⟩, z_mj1 (i := 0) rfl (by decide +kernel), rfl⟩
theorem ln_Lw_326 : Cond.methodLink "IronpourLaw" 326 M_Lw_worst.1 ∈ z_gw := z_mj7 (i := 29) rfl (by decide +kernel)
theorem w_st_Lw_worst : Cond.static M_Lw_worst.1 ∈ z_gw := z_mj7 (i := 30) rfl (by decide +kernel)
theorem d_Lw_law_1737 : decode code 1737 = .ok (.istore 6, 2) := zo_54 (d := 6) (zd_b zq_code_54 9 rfl rfl rfl) (zd_b zq_code_54 10 rfl rfl rfl)
theorem d_Lw_law_1739 : decode code 1739 = .ok (.aload_n 2, 1) := zo_44 (zd_b zq_code_54 11 rfl rfl rfl)
theorem d_Lw_law_1740 : decode code 1740 = .ok (.invokevirtual 328, 3) := zo_182 (d := 1) (e := 72) (zd_b zq_code_54 12 rfl rfl rfl) (zd_b zq_code_54 13 rfl rfl rfl) (zd_b zq_code_54 14 rfl rfl rfl)
theorem ok_Lw_law_Mm_worst : z_ok M_Lw_law M_Mm_worst 0 := ⟨z_mj9 (i := 59) rfl (by decide +kernel), rfl, ⟨by decide +kernel, by decide +kernel, by decide +kernel⟩, ⟨by decide, by decide⟩, z_mj1 (i := 14) rfl (by decide +kernel), rfl⟩
theorem ln_Lw_328 : Cond.methodLink "IronpourLaw" 328 M_Mm_worst.1 ∈ z_gw := z_mj9 (i := 56) rfl (by decide +kernel)
theorem w_im_Mm_worst : Cond.instanceMethod M_Mm_worst.1 ∈ z_gw := z_mj9 (i := 57) rfl (by decide +kernel)
theorem w_se_Mm_worst : Cond.selects M_Mm_worst.1.cls M_Mm_worst.1 M_Mm_worst.1 ∈ z_gw := z_mj9 (i := 58) rfl (by decide +kernel)
theorem d_Lw_law_1743 : decode code 1743 = .ok (.istore 7, 2) := zo_54 (d := 7) (zd_b zq_code_54 15 rfl rfl rfl) (zd_b zq_code_54 16 rfl rfl rfl)
theorem d_Lw_law_1745 : decode code 1745 = .ok (.goto 63, 3) := zo_167 (d := 0) (e := 63) (zd_b zq_code_54 17 rfl rfl rfl) (zd_b zq_code_54 18 rfl rfl rfl) (zd_b zq_code_54 19 rfl rfl rfl) (by decide +kernel)
set_option maxHeartbeats 4000000 in
set_option maxRecDepth 100000 in
theorem LC_worst {g : zG} {ad : Nat → Nat} {t : zTT} {u : zNN} {w : zW} {j : Nat} (hI : IVm g ad t u w) (hR : REL t u.1 (48 * j)) {r : Nat} (hJ : 7 * j + 7 ≤ g.2.2 41) (hL : g.2.2 41 ≤ 3584) (ih : LWI g ad j r) : DW g M_Lw_law lwQ w 1732 [(5, .int (nI (7 * j))), (4, .ref (ad 70)), (3, .ref (ad 69)), (2, .ref (ad 52)), (1, .ref (ad 0)), (0, .ref (g.2.2 40))] [] (100 * (r + 1)) (1000 * (r + 1)) := by
  refine y_base (cs := []) (z_I.nil w) ?_
  refine y_aload_n d_Lw_law_1732 rfl 4 rfl ?_
  refine y_aload_n d_Lw_law_1733 rfl 2 rfl ?_
  refine yw_callSX (As := [.ref (ad 0), .ref (ad 69)]) (rest := []) ln_Lw_326 w_st_Lw_worst ok_Lw_law_Lw_worst d_Lw_law_1734 (fun wA hA => W_worst (IVm.nil hA hI)) rfl rfl (Nat.le_of_ble_eq_true rfl) (by omega) (by omega) (fun wA1734 hA1734 E wB1734 hx => ?_) (fun wA1734 hA1734 v wB1734 hx => ?_)
  · obtain ⟨⟨v9, e1⟩, -⟩ := hx
    cases e1
  · obtain ⟨⟨v9, e1⟩, uC, huC, hI2⟩ := hx
    cases e1
    refine yw_st (st2 := [.int v9]) rfl ?_
    have hI := hI2
    refine y_base (cs := []) (z_I.nil _) ?_
    refine y_istore (lv' := [(6, .int v9), (5, .int (nI (7 * j))), (4, .ref (ad 70)), (3, .ref (ad 69)), (2, .ref (ad 52)), (1, .ref (ad 0)), (0, .ref (g.2.2 40))]) d_Lw_law_1737 (by decide) rfl ?_
    refine y_aload_n d_Lw_law_1739 rfl 4 rfl ?_
    refine yw_callVL (As := []) (rest := []) (ci := 12) rfl (fun wA hA => (IVm.nil hA hI).rm) ln_Lw_328 w_im_Mm_worst w_se_Mm_worst ok_Lw_law_Mm_worst d_Lw_law_1740 (fun wA hA => K_Mm_worst (IVm.nil hA hI)) rfl rfl (Nat.le_of_ble_eq_true rfl) (by omega) (by omega) (fun wA1740 hA1740 E wB1740 hx => ?_) (fun wA1740 hA1740 v wB1740 hx => ?_)
    · obtain ⟨⟨v8, e1⟩, -⟩ := hx
      cases e1
    · obtain ⟨⟨v8, e1⟩, uM, huM, hI2⟩ := hx
      cases e1
      refine yw_st (st2 := [.int v8]) rfl ?_
      have hI := hI2
      refine y_base (cs := []) (z_I.nil _) ?_
      refine y_istore (lv' := [(7, .int v8), (6, .int v9), (5, .int (nI (7 * j))), (4, .ref (ad 70)), (3, .ref (ad 69)), (2, .ref (ad 52)), (1, .ref (ad 0)), (0, .ref (g.2.2 40))]) d_Lw_law_1743 (by decide) rfl ?_
      refine y_goto (tgt := 1808) d_Lw_law_1745 (by decide) ?_
      refine y_lv (lv' := [(5, .int (nI (7 * j))), (4, .ref (ad 70)), (3, .ref (ad 69)), (2, .ref (ad 52)), (1, .ref (ad 0)), (0, .ref (g.2.2 40))]) [2, 3, 4, 5, 6, 7] rfl ?_
      refine y_end (fun wC hC => ?_)
      exact LC_next (IVm.nil hC hI) ((hR.n (huM.trans huC)).up (by omega)) hJ hL ih (by omega) (by omega)
theorem d_Lw_law_1795 : decode code 1795 = .ok (.aload_n 1, 1) := zo_43 (zd_b zq_code_56 3 rfl rfl rfl)
theorem d_Lw_law_1796 : decode code 1796 = .ok (.invokevirtual 341, 3) := zo_182 (d := 1) (e := 85) (zd_b zq_code_56 4 rfl rfl rfl) (zd_b zq_code_56 5 rfl rfl rfl) (zd_b zq_code_56 6 rfl rfl rfl)
theorem ok_Lw_law_Ip_isSound : z_ok M_Lw_law M_Ip_isSound 0 := ⟨z_mj2 (i := 195) rfl (by decide +kernel), rfl, ⟨by decide +kernel, by decide +kernel, by decide +kernel⟩, ⟨by decide, by decide⟩, z_mj1 (i := 1) rfl (by decide +kernel), rfl⟩
theorem ln_Lw_341 : Cond.methodLink "IronpourLaw" 341 M_Ip_isSound.1 ∈ z_gw := z_mj2 (i := 192) rfl (by decide +kernel)
theorem w_im_Ip_isSound : Cond.instanceMethod M_Ip_isSound.1 ∈ z_gw := z_mj2 (i := 193) rfl (by decide +kernel)
theorem w_se_Ip_isSound : Cond.selects M_Ip_isSound.1.cls M_Ip_isSound.1 M_Ip_isSound.1 ∈ z_gw := z_mj2 (i := 194) rfl (by decide +kernel)
theorem d_Lw_law_1799 : decode code 1799 = .ok (.pop, 1) := zo_87 (zd_b zq_code_56 7 rfl rfl rfl)
theorem d_Lw_law_1800 : decode code 1800 = .ok (.aload_n 2, 1) := zo_44 (zd_b zq_code_56 8 rfl rfl rfl)
theorem d_Lw_law_1801 : decode code 1801 = .ok (.invokevirtual 345, 3) := zo_182 (d := 1) (e := 89) (zd_b zq_code_56 9 rfl rfl rfl) (zd_b zq_code_56 10 rfl rfl rfl) (zd_b zq_code_56 11 rfl rfl rfl)
theorem ok_Lw_law_Mm_isSound : z_ok M_Lw_law M_Mm_isSound 0 := ⟨z_mj9 (i := 79) rfl (by decide +kernel), rfl, ⟨by decide +kernel, by decide +kernel, by decide +kernel⟩, ⟨by decide, by decide⟩, z_mj1 (i := 14) rfl (by decide +kernel), rfl⟩
theorem ln_Lw_345 : Cond.methodLink "IronpourLaw" 345 M_Mm_isSound.1 ∈ z_gw := z_mj9 (i := 76) rfl (by decide +kernel)
theorem w_im_Mm_isSound : Cond.instanceMethod M_Mm_isSound.1 ∈ z_gw := z_mj9 (i := 77) rfl (by decide +kernel)
theorem w_se_Mm_isSound : Cond.selects M_Mm_isSound.1.cls M_Mm_isSound.1 M_Mm_isSound.1 ∈ z_gw := z_mj9 (i := 78) rfl (by decide +kernel)
theorem d_Lw_law_1804 : decode code 1804 = .ok (.pop, 1) := zo_87 (zd_b zq_code_56 12 rfl rfl rfl)
theorem d_Lw_law_1805 : decode code 1805 = .ok (.goto 3, 3) := zo_167 (d := 0) (e := 3) (zd_b zq_code_56 13 rfl rfl rfl) (zd_b zq_code_56 14 rfl rfl rfl) (zd_b zq_code_56 15 rfl rfl rfl) (by decide +kernel)
set_option maxHeartbeats 4000000 in
set_option maxRecDepth 100000 in
theorem LC_isSound {g : zG} {ad : Nat → Nat} {t : zTT} {u : zNN} {w : zW} {j : Nat} (hI : IVm g ad t u w) (hR : REL t u.1 (48 * j)) {r : Nat} (hJ : 7 * j + 7 ≤ g.2.2 41) (hL : g.2.2 41 ≤ 3584) (ih : LWI g ad j r) : DW g M_Lw_law lwQ w 1795 [(5, .int (nI (7 * j))), (4, .ref (ad 70)), (3, .ref (ad 69)), (2, .ref (ad 52)), (1, .ref (ad 0)), (0, .ref (g.2.2 40))] [] (100 * (r + 1)) (1000 * (r + 1)) := by
  refine y_base (cs := []) (z_I.nil w) ?_
  refine y_aload_n d_Lw_law_1795 rfl 4 rfl ?_
  refine yw_callVL (As := []) (rest := []) (ci := 11) rfl (fun wA hA => (IVm.nil hA hI).ra) ln_Lw_341 w_im_Ip_isSound w_se_Ip_isSound ok_Lw_law_Ip_isSound d_Lw_law_1796 (fun wA hA => K_Ip_isSound (IVm.nil hA hI)) rfl rfl (Nat.le_of_ble_eq_true rfl) (by omega) (by omega) (fun wA1796 hA1796 E wB1796 hx => ?_) (fun wA1796 hA1796 v wB1796 hx => ?_)
  · obtain ⟨h1, -⟩ := hx
    cases zriE h1
  · obtain ⟨h1, uC, huC, hI2⟩ := hx
    obtain ⟨v9, rfl⟩ := zriV h1
    refine yw_st (st2 := [.int v9]) rfl ?_
    have hI := hI2
    refine y_base (cs := []) (z_I.nil _) ?_
    refine y_pop d_Lw_law_1799 rfl ?_
    refine y_aload_n d_Lw_law_1800 rfl 3 rfl ?_
    refine yw_callVL (As := []) (rest := []) (ci := 12) rfl (fun wA hA => (IVm.nil hA hI).rm) ln_Lw_345 w_im_Mm_isSound w_se_Mm_isSound ok_Lw_law_Mm_isSound d_Lw_law_1801 (fun wA hA => K_Mm_isSound (IVm.nil hA hI)) rfl rfl (Nat.le_of_ble_eq_true rfl) (by omega) (by omega) (fun wA1801 hA1801 E wB1801 hx => ?_) (fun wA1801 hA1801 v wB1801 hx => ?_)
    · obtain ⟨⟨v8, e1⟩, -⟩ := hx
      cases e1
    · obtain ⟨⟨v8, e1⟩, uM, huM, hI2⟩ := hx
      cases e1
      refine yw_st (st2 := [.int v8]) rfl ?_
      have hI := hI2
      refine y_base (cs := []) (z_I.nil _) ?_
      refine y_pop d_Lw_law_1804 rfl ?_
      refine y_goto (tgt := 1808) d_Lw_law_1805 (by decide) ?_
      refine y_lv (lv' := [(5, .int (nI (7 * j))), (4, .ref (ad 70)), (3, .ref (ad 69)), (2, .ref (ad 52)), (1, .ref (ad 0)), (0, .ref (g.2.2 40))]) [0, 1, 2, 3, 4, 5] rfl ?_
      refine y_end (fun wC hC => ?_)
      exact LC_next (IVm.nil hC hI) ((hR.n (huM.trans huC)).up (by omega)) hJ hL ih (by omega) (by omega)
