theorem d_Lw_law_1676 : decode code 1676 = .ok (.aload_n 1, 1) := by decide +kernel
theorem d_Lw_law_1677 : decode code 1677 = .ok (.aload_n 0, 1) := by decide +kernel
theorem d_Lw_law_1678 : decode code 1678 = .ok (.iload 5, 2) := by decide +kernel
theorem d_Lw_law_1680 : decode code 1680 = .ok (.iconst 1, 1) := by decide +kernel
theorem d_Lw_law_1681 : decode code 1681 = .ok (.iadd, 1) := by decide +kernel
theorem d_Lw_law_1682 : decode code 1682 = .ok (.iaload, 1) := by decide +kernel
theorem d_Lw_law_1683 : decode code 1683 = .ok (.aload_n 3, 1) := by decide +kernel
theorem d_Lw_law_1684 : decode code 1684 = .ok (.invokestatic 320, 3) := by decide +kernel
theorem ok_Lw_law_Lw_deliver : z_okX M_Lw_law M_Lw_deliver 3 := ⟨z_mem (i := 1510) (by decide +kernel) (by decide +kernel), by decide, ⟨by decide +kernel, by decide +kernel, by decide +kernel⟩, ⟨by decide, by decide⟩, z_mem (i := 57) (by decide +kernel) (by decide +kernel), rfl⟩
theorem ln_Lw_320 : Cond.methodLink "IronpourLaw" 320 M_Lw_deliver.1 ∈ z_gw := z_mem (i := 1508) (by decide +kernel) (by decide +kernel)
theorem w_st_Lw_deliver : Cond.static M_Lw_deliver.1 ∈ z_gw := z_mem (i := 1509) (by decide +kernel) (by decide +kernel)
theorem d_Lw_law_1687 : decode code 1687 = .ok (.istore 6, 2) := by decide +kernel
theorem d_Lw_law_1689 : decode code 1689 = .ok (.aload_n 2, 1) := by decide +kernel
theorem d_Lw_law_1690 : decode code 1690 = .ok (.aload_n 0, 1) := by decide +kernel
theorem d_Lw_law_1691 : decode code 1691 = .ok (.iload 5, 2) := by decide +kernel
theorem d_Lw_law_1693 : decode code 1693 = .ok (.iconst 1, 1) := by decide +kernel
theorem d_Lw_law_1694 : decode code 1694 = .ok (.iadd, 1) := by decide +kernel
theorem d_Lw_law_1695 : decode code 1695 = .ok (.iaload, 1) := by decide +kernel
theorem d_Lw_law_1696 : decode code 1696 = .ok (.invokevirtual 322, 3) := by decide +kernel
theorem ok_Lw_law_Mm_deliver : z_ok M_Lw_law M_Mm_deliver 1 := ⟨z_mem (i := 2028) (by decide +kernel) (by decide +kernel), rfl, ⟨by decide +kernel, by decide +kernel, by decide +kernel⟩, ⟨by decide, by decide⟩, z_mem (i := 71) (by decide +kernel) (by decide +kernel), rfl⟩
theorem ln_Lw_322 : Cond.methodLink "IronpourLaw" 322 M_Mm_deliver.1 ∈ z_gw := z_mem (i := 2025) (by decide +kernel) (by decide +kernel)
theorem w_im_Mm_deliver : Cond.instanceMethod M_Mm_deliver.1 ∈ z_gw := z_mem (i := 2026) (by decide +kernel) (by decide +kernel)
theorem w_se_Mm_deliver : Cond.selects M_Mm_deliver.1.cls M_Mm_deliver.1 M_Mm_deliver.1 ∈ z_gw := z_mem (i := 2027) (by decide +kernel) (by decide +kernel)
theorem d_Lw_law_1699 : decode code 1699 = .ok (.istore 7, 2) := by decide +kernel
theorem d_Lw_law_1701 : decode code 1701 = .ok (.goto 107, 3) := by decide +kernel
set_option maxHeartbeats 4000000 in
set_option maxRecDepth 100000 in
theorem LC_deliver {g : zG} {ad : Nat → Nat} {t : zTT} {u : zNN} {w : zW} (hI : IV g ad t u w) (hR : REL t) {j r : Nat} (hJ : 7 * j + 7 ≤ g.2.2 41) (hL : g.2.2 41 < 2 ^ 31) (ih : LWI g ad j r) : DW g M_Lw_law lwQ w 1676 [(5, .int (nI (7 * j))), (4, .ref (ad 70)), (3, .ref (ad 69)), (2, .ref (ad 52)), (1, .ref (ad 0)), (0, .ref (g.2.2 40))] [] (100 * (r + 1)) (1000 * (r + 1)) := by
  refine y_base (cs := []) (z_I.nil w) ?_
  refine y_aload_n d_Lw_law_1676 rfl 4 rfl ?_
  refine y_aload_n d_Lw_law_1677 rfl 5 rfl ?_
  refine y_iload d_Lw_law_1678 0 rfl ?_
  refine y_iconst d_Lw_law_1680 (v := 1) (by decide) ?_
  refine y_iadd d_Lw_law_1681 (v := nI ((7 * j) + 1)) (nI_add _ _) ?_
  refine y_sld (v := zs g (7 * j + 1)) d_Lw_law_1682 (vp_in_nI (by omega) (by omega)) (by rw [nI_clamp (by omega)]; rfl) ?_
  refine y_aload_n d_Lw_law_1683 rfl 2 rfl ?_
  refine yw_callSX (As := [.ref (ad 0), .int (zs g (7 * j + 1)), .ref (ad 69)]) (rest := []) ln_Lw_320 w_st_Lw_deliver ok_Lw_law_Lw_deliver d_Lw_law_1684 (fun wA hA => W_deliver (IV.nil hA hI) _) rfl rfl (Nat.le_of_ble_eq_true rfl) (by omega) (by omega) (fun wA1684 hA1684 E wB1684 hx => ?_) (fun wA1684 hA1684 v wB1684 hx => ?_)
  · obtain ⟨⟨v9, e1⟩, -⟩ := hx
    cases e1
  · obtain ⟨⟨v9, e1⟩, u2, hI2⟩ := hx
    cases e1
    refine yw_st (st2 := [.int v9]) rfl ?_
    have hI := hI2
    refine y_base (cs := []) (z_I.nil _) ?_
    refine y_istore (lv' := [(6, .int v9), (5, .int (nI (7 * j))), (4, .ref (ad 70)), (3, .ref (ad 69)), (2, .ref (ad 52)), (1, .ref (ad 0)), (0, .ref (g.2.2 40))]) d_Lw_law_1687 (by decide) rfl ?_
    refine y_aload_n d_Lw_law_1689 rfl 4 rfl ?_
    refine y_aload_n d_Lw_law_1690 rfl 6 rfl ?_
    refine y_iload d_Lw_law_1691 1 rfl ?_
    refine y_iconst d_Lw_law_1693 (v := 1) (by decide) ?_
    refine y_iadd d_Lw_law_1694 (v := nI ((7 * j) + 1)) (nI_add _ _) ?_
    refine y_sld (v := zs g (7 * j + 1)) d_Lw_law_1695 (vp_in_nI (by omega) (by omega)) (by rw [nI_clamp (by omega)]; rfl) ?_
    refine yw_callVL (As := [.int (zs g (7 * j + 1))]) (rest := []) (ci := 12) rfl (fun wA hA => (IV.nil hA hI).rm) ln_Lw_322 w_im_Mm_deliver w_se_Mm_deliver ok_Lw_law_Mm_deliver d_Lw_law_1696 (fun wA hA => K_Mm_deliver (IV.nil hA hI) _) rfl rfl (Nat.le_of_ble_eq_true rfl) (by omega) (by omega) (fun wA1696 hA1696 E wB1696 hx => ?_) (fun wA1696 hA1696 v wB1696 hx => ?_)
    · obtain ⟨⟨v8, e1⟩, -⟩ := hx
      cases e1
    · obtain ⟨⟨v8, e1⟩, u2, hI2⟩ := hx
      cases e1
      refine yw_st (st2 := [.int v8]) rfl ?_
      have hI := hI2
      refine y_base (cs := []) (z_I.nil _) ?_
      refine y_istore (lv' := [(7, .int v8), (6, .int v9), (5, .int (nI (7 * j))), (4, .ref (ad 70)), (3, .ref (ad 69)), (2, .ref (ad 52)), (1, .ref (ad 0)), (0, .ref (g.2.2 40))]) d_Lw_law_1699 (by decide) rfl ?_
      refine y_goto (tgt := 1808) d_Lw_law_1701 (by decide) ?_
      refine y_lv (lv' := [(5, .int (nI (7 * j))), (4, .ref (ad 70)), (3, .ref (ad 69)), (2, .ref (ad 52)), (1, .ref (ad 0)), (0, .ref (g.2.2 40))]) [2, 3, 4, 5, 6, 7] rfl ?_
      refine y_end (fun wC hC => ?_)
      exact LC_next (IV.nil hC hI) hR hJ hL ih (by omega) (by omega)
theorem d_Lw_law_1704 : decode code 1704 = .ok (.aload_n 1, 1) := by decide +kernel
theorem d_Lw_law_1705 : decode code 1705 = .ok (.aload_n 0, 1) := by decide +kernel
theorem d_Lw_law_1706 : decode code 1706 = .ok (.iload 5, 2) := by decide +kernel
theorem d_Lw_law_1708 : decode code 1708 = .ok (.iconst 1, 1) := by decide +kernel
theorem d_Lw_law_1709 : decode code 1709 = .ok (.iadd, 1) := by decide +kernel
theorem d_Lw_law_1710 : decode code 1710 = .ok (.iaload, 1) := by decide +kernel
theorem d_Lw_law_1711 : decode code 1711 = .ok (.aload_n 3, 1) := by decide +kernel
theorem d_Lw_law_1712 : decode code 1712 = .ok (.invokestatic 323, 3) := by decide +kernel
theorem ok_Lw_law_Lw_breakUp : z_okX M_Lw_law M_Lw_breakUp 3 := ⟨z_mem (i := 1517) (by decide +kernel) (by decide +kernel), by decide, ⟨by decide +kernel, by decide +kernel, by decide +kernel⟩, ⟨by decide, by decide⟩, z_mem (i := 57) (by decide +kernel) (by decide +kernel), rfl⟩
theorem ln_Lw_323 : Cond.methodLink "IronpourLaw" 323 M_Lw_breakUp.1 ∈ z_gw := z_mem (i := 1515) (by decide +kernel) (by decide +kernel)
theorem w_st_Lw_breakUp : Cond.static M_Lw_breakUp.1 ∈ z_gw := z_mem (i := 1516) (by decide +kernel) (by decide +kernel)
theorem d_Lw_law_1715 : decode code 1715 = .ok (.istore 6, 2) := by decide +kernel
theorem d_Lw_law_1717 : decode code 1717 = .ok (.aload_n 2, 1) := by decide +kernel
theorem d_Lw_law_1718 : decode code 1718 = .ok (.aload_n 0, 1) := by decide +kernel
theorem d_Lw_law_1719 : decode code 1719 = .ok (.iload 5, 2) := by decide +kernel
theorem d_Lw_law_1721 : decode code 1721 = .ok (.iconst 1, 1) := by decide +kernel
theorem d_Lw_law_1722 : decode code 1722 = .ok (.iadd, 1) := by decide +kernel
theorem d_Lw_law_1723 : decode code 1723 = .ok (.iaload, 1) := by decide +kernel
theorem d_Lw_law_1724 : decode code 1724 = .ok (.invokevirtual 325, 3) := by decide +kernel
theorem ok_Lw_law_Mm_breakUp : z_ok M_Lw_law M_Mm_breakUp 1 := ⟨z_mem (i := 2032) (by decide +kernel) (by decide +kernel), rfl, ⟨by decide +kernel, by decide +kernel, by decide +kernel⟩, ⟨by decide, by decide⟩, z_mem (i := 71) (by decide +kernel) (by decide +kernel), rfl⟩
theorem ln_Lw_325 : Cond.methodLink "IronpourLaw" 325 M_Mm_breakUp.1 ∈ z_gw := z_mem (i := 2029) (by decide +kernel) (by decide +kernel)
theorem w_im_Mm_breakUp : Cond.instanceMethod M_Mm_breakUp.1 ∈ z_gw := z_mem (i := 2030) (by decide +kernel) (by decide +kernel)
theorem w_se_Mm_breakUp : Cond.selects M_Mm_breakUp.1.cls M_Mm_breakUp.1 M_Mm_breakUp.1 ∈ z_gw := z_mem (i := 2031) (by decide +kernel) (by decide +kernel)
theorem d_Lw_law_1727 : decode code 1727 = .ok (.istore 7, 2) := by decide +kernel
theorem d_Lw_law_1729 : decode code 1729 = .ok (.goto 79, 3) := by decide +kernel
set_option maxHeartbeats 4000000 in
set_option maxRecDepth 100000 in
theorem LC_breakUp {g : zG} {ad : Nat → Nat} {t : zTT} {u : zNN} {w : zW} (hI : IV g ad t u w) (hR : REL t) {j r : Nat} (hJ : 7 * j + 7 ≤ g.2.2 41) (hL : g.2.2 41 < 2 ^ 31) (ih : LWI g ad j r) : DW g M_Lw_law lwQ w 1704 [(5, .int (nI (7 * j))), (4, .ref (ad 70)), (3, .ref (ad 69)), (2, .ref (ad 52)), (1, .ref (ad 0)), (0, .ref (g.2.2 40))] [] (100 * (r + 1)) (1000 * (r + 1)) := by
  refine y_base (cs := []) (z_I.nil w) ?_
  refine y_aload_n d_Lw_law_1704 rfl 4 rfl ?_
  refine y_aload_n d_Lw_law_1705 rfl 5 rfl ?_
  refine y_iload d_Lw_law_1706 0 rfl ?_
  refine y_iconst d_Lw_law_1708 (v := 1) (by decide) ?_
  refine y_iadd d_Lw_law_1709 (v := nI ((7 * j) + 1)) (nI_add _ _) ?_
  refine y_sld (v := zs g (7 * j + 1)) d_Lw_law_1710 (vp_in_nI (by omega) (by omega)) (by rw [nI_clamp (by omega)]; rfl) ?_
  refine y_aload_n d_Lw_law_1711 rfl 2 rfl ?_
  refine yw_callSX (As := [.ref (ad 0), .int (zs g (7 * j + 1)), .ref (ad 69)]) (rest := []) ln_Lw_323 w_st_Lw_breakUp ok_Lw_law_Lw_breakUp d_Lw_law_1712 (fun wA hA => W_breakUp (IV.nil hA hI) _) rfl rfl (Nat.le_of_ble_eq_true rfl) (by omega) (by omega) (fun wA1712 hA1712 E wB1712 hx => ?_) (fun wA1712 hA1712 v wB1712 hx => ?_)
  · obtain ⟨⟨v9, e1⟩, -⟩ := hx
    cases e1
  · obtain ⟨⟨v9, e1⟩, u2, hI2⟩ := hx
    cases e1
    refine yw_st (st2 := [.int v9]) rfl ?_
    have hI := hI2
    refine y_base (cs := []) (z_I.nil _) ?_
    refine y_istore (lv' := [(6, .int v9), (5, .int (nI (7 * j))), (4, .ref (ad 70)), (3, .ref (ad 69)), (2, .ref (ad 52)), (1, .ref (ad 0)), (0, .ref (g.2.2 40))]) d_Lw_law_1715 (by decide) rfl ?_
    refine y_aload_n d_Lw_law_1717 rfl 4 rfl ?_
    refine y_aload_n d_Lw_law_1718 rfl 6 rfl ?_
    refine y_iload d_Lw_law_1719 1 rfl ?_
    refine y_iconst d_Lw_law_1721 (v := 1) (by decide) ?_
    refine y_iadd d_Lw_law_1722 (v := nI ((7 * j) + 1)) (nI_add _ _) ?_
    refine y_sld (v := zs g (7 * j + 1)) d_Lw_law_1723 (vp_in_nI (by omega) (by omega)) (by rw [nI_clamp (by omega)]; rfl) ?_
    refine yw_callVL (As := [.int (zs g (7 * j + 1))]) (rest := []) (ci := 12) rfl (fun wA hA => (IV.nil hA hI).rm) ln_Lw_325 w_im_Mm_breakUp w_se_Mm_breakUp ok_Lw_law_Mm_breakUp d_Lw_law_1724 (fun wA hA => K_Mm_breakUp (IV.nil hA hI) _) rfl rfl (Nat.le_of_ble_eq_true rfl) (by omega) (by omega) (fun wA1724 hA1724 E wB1724 hx => ?_) (fun wA1724 hA1724 v wB1724 hx => ?_)
    · obtain ⟨⟨v8, e1⟩, -⟩ := hx
      cases e1
    · obtain ⟨⟨v8, e1⟩, u2, hI2⟩ := hx
      cases e1
      refine yw_st (st2 := [.int v8]) rfl ?_
      have hI := hI2
      refine y_base (cs := []) (z_I.nil _) ?_
      refine y_istore (lv' := [(7, .int v8), (6, .int v9), (5, .int (nI (7 * j))), (4, .ref (ad 70)), (3, .ref (ad 69)), (2, .ref (ad 52)), (1, .ref (ad 0)), (0, .ref (g.2.2 40))]) d_Lw_law_1727 (by decide) rfl ?_
      refine y_goto (tgt := 1808) d_Lw_law_1729 (by decide) ?_
      refine y_lv (lv' := [(5, .int (nI (7 * j))), (4, .ref (ad 70)), (3, .ref (ad 69)), (2, .ref (ad 52)), (1, .ref (ad 0)), (0, .ref (g.2.2 40))]) [2, 3, 4, 5, 6, 7] rfl ?_
      refine y_end (fun wC hC => ?_)
      exact LC_next (IV.nil hC hI) hR hJ hL ih (by omega) (by omega)
theorem d_Lw_law_1732 : decode code 1732 = .ok (.aload_n 1, 1) := by decide +kernel
theorem d_Lw_law_1733 : decode code 1733 = .ok (.aload_n 3, 1) := by decide +kernel
theorem d_Lw_law_1734 : decode code 1734 = .ok (.invokestatic 326, 3) := by decide +kernel
theorem ok_Lw_law_Lw_worst : z_okX M_Lw_law M_Lw_worst 2 := ⟨z_mem (i := 1528) (by decide +kernel) (by decide +kernel), by decide, ⟨by decide +kernel, by decide +kernel, by decide +kernel⟩, ⟨by decide, by decide⟩, z_mem (i := 57) (by decide +kernel) (by decide +kernel), rfl⟩
theorem ln_Lw_326 : Cond.methodLink "IronpourLaw" 326 M_Lw_worst.1 ∈ z_gw := z_mem (i := 1526) (by decide +kernel) (by decide +kernel)
theorem w_st_Lw_worst : Cond.static M_Lw_worst.1 ∈ z_gw := z_mem (i := 1527) (by decide +kernel) (by decide +kernel)
theorem d_Lw_law_1737 : decode code 1737 = .ok (.istore 6, 2) := by decide +kernel
theorem d_Lw_law_1739 : decode code 1739 = .ok (.aload_n 2, 1) := by decide +kernel
theorem d_Lw_law_1740 : decode code 1740 = .ok (.invokevirtual 328, 3) := by decide +kernel
theorem ok_Lw_law_Mm_worst : z_ok M_Lw_law M_Mm_worst 0 := ⟨z_mem (i := 2036) (by decide +kernel) (by decide +kernel), rfl, ⟨by decide +kernel, by decide +kernel, by decide +kernel⟩, ⟨by decide, by decide⟩, z_mem (i := 71) (by decide +kernel) (by decide +kernel), rfl⟩
theorem ln_Lw_328 : Cond.methodLink "IronpourLaw" 328 M_Mm_worst.1 ∈ z_gw := z_mem (i := 2033) (by decide +kernel) (by decide +kernel)
theorem w_im_Mm_worst : Cond.instanceMethod M_Mm_worst.1 ∈ z_gw := z_mem (i := 2034) (by decide +kernel) (by decide +kernel)
theorem w_se_Mm_worst : Cond.selects M_Mm_worst.1.cls M_Mm_worst.1 M_Mm_worst.1 ∈ z_gw := z_mem (i := 2035) (by decide +kernel) (by decide +kernel)
theorem d_Lw_law_1743 : decode code 1743 = .ok (.istore 7, 2) := by decide +kernel
theorem d_Lw_law_1745 : decode code 1745 = .ok (.goto 63, 3) := by decide +kernel
set_option maxHeartbeats 4000000 in
set_option maxRecDepth 100000 in
theorem LC_worst {g : zG} {ad : Nat → Nat} {t : zTT} {u : zNN} {w : zW} (hI : IV g ad t u w) (hR : REL t) {j r : Nat} (hJ : 7 * j + 7 ≤ g.2.2 41) (hL : g.2.2 41 < 2 ^ 31) (ih : LWI g ad j r) : DW g M_Lw_law lwQ w 1732 [(5, .int (nI (7 * j))), (4, .ref (ad 70)), (3, .ref (ad 69)), (2, .ref (ad 52)), (1, .ref (ad 0)), (0, .ref (g.2.2 40))] [] (100 * (r + 1)) (1000 * (r + 1)) := by
  refine y_base (cs := []) (z_I.nil w) ?_
  refine y_aload_n d_Lw_law_1732 rfl 4 rfl ?_
  refine y_aload_n d_Lw_law_1733 rfl 2 rfl ?_
  refine yw_callSX (As := [.ref (ad 0), .ref (ad 69)]) (rest := []) ln_Lw_326 w_st_Lw_worst ok_Lw_law_Lw_worst d_Lw_law_1734 (fun wA hA => W_worst (IV.nil hA hI)) rfl rfl (Nat.le_of_ble_eq_true rfl) (by omega) (by omega) (fun wA1734 hA1734 E wB1734 hx => ?_) (fun wA1734 hA1734 v wB1734 hx => ?_)
  · obtain ⟨⟨v9, e1⟩, -⟩ := hx
    cases e1
  · obtain ⟨⟨v9, e1⟩, u2, hI2⟩ := hx
    cases e1
    refine yw_st (st2 := [.int v9]) rfl ?_
    have hI := hI2
    refine y_base (cs := []) (z_I.nil _) ?_
    refine y_istore (lv' := [(6, .int v9), (5, .int (nI (7 * j))), (4, .ref (ad 70)), (3, .ref (ad 69)), (2, .ref (ad 52)), (1, .ref (ad 0)), (0, .ref (g.2.2 40))]) d_Lw_law_1737 (by decide) rfl ?_
    refine y_aload_n d_Lw_law_1739 rfl 4 rfl ?_
    refine yw_callVL (As := []) (rest := []) (ci := 12) rfl (fun wA hA => (IV.nil hA hI).rm) ln_Lw_328 w_im_Mm_worst w_se_Mm_worst ok_Lw_law_Mm_worst d_Lw_law_1740 (fun wA hA => K_Mm_worst (IV.nil hA hI)) rfl rfl (Nat.le_of_ble_eq_true rfl) (by omega) (by omega) (fun wA1740 hA1740 E wB1740 hx => ?_) (fun wA1740 hA1740 v wB1740 hx => ?_)
    · obtain ⟨⟨v8, e1⟩, -⟩ := hx
      cases e1
    · obtain ⟨⟨v8, e1⟩, u2, hI2⟩ := hx
      cases e1
      refine yw_st (st2 := [.int v8]) rfl ?_
      have hI := hI2
      refine y_base (cs := []) (z_I.nil _) ?_
      refine y_istore (lv' := [(7, .int v8), (6, .int v9), (5, .int (nI (7 * j))), (4, .ref (ad 70)), (3, .ref (ad 69)), (2, .ref (ad 52)), (1, .ref (ad 0)), (0, .ref (g.2.2 40))]) d_Lw_law_1743 (by decide) rfl ?_
      refine y_goto (tgt := 1808) d_Lw_law_1745 (by decide) ?_
      refine y_lv (lv' := [(5, .int (nI (7 * j))), (4, .ref (ad 70)), (3, .ref (ad 69)), (2, .ref (ad 52)), (1, .ref (ad 0)), (0, .ref (g.2.2 40))]) [2, 3, 4, 5, 6, 7] rfl ?_
      refine y_end (fun wC hC => ?_)
      exact LC_next (IV.nil hC hI) hR hJ hL ih (by omega) (by omega)
theorem d_Lw_law_1795 : decode code 1795 = .ok (.aload_n 1, 1) := by decide +kernel
theorem d_Lw_law_1796 : decode code 1796 = .ok (.invokevirtual 341, 3) := by decide +kernel
theorem ok_Lw_law_Ip_isSound : z_ok M_Lw_law M_Ip_isSound 0 := ⟨z_mem (i := 492) (by decide +kernel) (by decide +kernel), rfl, ⟨by decide +kernel, by decide +kernel, by decide +kernel⟩, ⟨by decide, by decide⟩, z_mem (i := 58) (by decide +kernel) (by decide +kernel), rfl⟩
theorem ln_Lw_341 : Cond.methodLink "IronpourLaw" 341 M_Ip_isSound.1 ∈ z_gw := z_mem (i := 489) (by decide +kernel) (by decide +kernel)
theorem w_im_Ip_isSound : Cond.instanceMethod M_Ip_isSound.1 ∈ z_gw := z_mem (i := 490) (by decide +kernel) (by decide +kernel)
theorem w_se_Ip_isSound : Cond.selects M_Ip_isSound.1.cls M_Ip_isSound.1 M_Ip_isSound.1 ∈ z_gw := z_mem (i := 491) (by decide +kernel) (by decide +kernel)
theorem d_Lw_law_1799 : decode code 1799 = .ok (.pop, 1) := by decide +kernel
theorem d_Lw_law_1800 : decode code 1800 = .ok (.aload_n 2, 1) := by decide +kernel
theorem d_Lw_law_1801 : decode code 1801 = .ok (.invokevirtual 345, 3) := by decide +kernel
theorem ok_Lw_law_Mm_isSound : z_ok M_Lw_law M_Mm_isSound 0 := ⟨z_mem (i := 2056) (by decide +kernel) (by decide +kernel), rfl, ⟨by decide +kernel, by decide +kernel, by decide +kernel⟩, ⟨by decide, by decide⟩, z_mem (i := 71) (by decide +kernel) (by decide +kernel), rfl⟩
theorem ln_Lw_345 : Cond.methodLink "IronpourLaw" 345 M_Mm_isSound.1 ∈ z_gw := z_mem (i := 2053) (by decide +kernel) (by decide +kernel)
theorem w_im_Mm_isSound : Cond.instanceMethod M_Mm_isSound.1 ∈ z_gw := z_mem (i := 2054) (by decide +kernel) (by decide +kernel)
theorem w_se_Mm_isSound : Cond.selects M_Mm_isSound.1.cls M_Mm_isSound.1 M_Mm_isSound.1 ∈ z_gw := z_mem (i := 2055) (by decide +kernel) (by decide +kernel)
theorem d_Lw_law_1804 : decode code 1804 = .ok (.pop, 1) := by decide +kernel
theorem d_Lw_law_1805 : decode code 1805 = .ok (.goto 3, 3) := by decide +kernel
set_option maxHeartbeats 4000000 in
set_option maxRecDepth 100000 in
theorem LC_isSound {g : zG} {ad : Nat → Nat} {t : zTT} {u : zNN} {w : zW} (hI : IV g ad t u w) (hR : REL t) {j r : Nat} (hJ : 7 * j + 7 ≤ g.2.2 41) (hL : g.2.2 41 < 2 ^ 31) (ih : LWI g ad j r) : DW g M_Lw_law lwQ w 1795 [(5, .int (nI (7 * j))), (4, .ref (ad 70)), (3, .ref (ad 69)), (2, .ref (ad 52)), (1, .ref (ad 0)), (0, .ref (g.2.2 40))] [] (100 * (r + 1)) (1000 * (r + 1)) := by
  refine y_base (cs := []) (z_I.nil w) ?_
  refine y_aload_n d_Lw_law_1795 rfl 4 rfl ?_
  refine yw_callVL (As := []) (rest := []) (ci := 11) rfl (fun wA hA => (IV.nil hA hI).ra) ln_Lw_341 w_im_Ip_isSound w_se_Ip_isSound ok_Lw_law_Ip_isSound d_Lw_law_1796 (fun wA hA => K_Ip_isSound (IV.nil hA hI)) rfl rfl (Nat.le_of_ble_eq_true rfl) (by omega) (by omega) (fun wA1796 hA1796 E wB1796 hx => ?_) (fun wA1796 hA1796 v wB1796 hx => ?_)
  · obtain ⟨h1, -⟩ := hx
    cases zriE h1
  · obtain ⟨h1, u2, hI2⟩ := hx
    obtain ⟨v9, rfl⟩ := zriV h1
    refine yw_st (st2 := [.int v9]) rfl ?_
    have hI := hI2
    refine y_base (cs := []) (z_I.nil _) ?_
    refine y_pop d_Lw_law_1799 rfl ?_
    refine y_aload_n d_Lw_law_1800 rfl 3 rfl ?_
    refine yw_callVL (As := []) (rest := []) (ci := 12) rfl (fun wA hA => (IV.nil hA hI).rm) ln_Lw_345 w_im_Mm_isSound w_se_Mm_isSound ok_Lw_law_Mm_isSound d_Lw_law_1801 (fun wA hA => K_Mm_isSound (IV.nil hA hI)) rfl rfl (Nat.le_of_ble_eq_true rfl) (by omega) (by omega) (fun wA1801 hA1801 E wB1801 hx => ?_) (fun wA1801 hA1801 v wB1801 hx => ?_)
    · obtain ⟨⟨v8, e1⟩, -⟩ := hx
      cases e1
    · obtain ⟨⟨v8, e1⟩, u2, hI2⟩ := hx
      cases e1
      refine yw_st (st2 := [.int v8]) rfl ?_
      have hI := hI2
      refine y_base (cs := []) (z_I.nil _) ?_
      refine y_pop d_Lw_law_1804 rfl ?_
      refine y_goto (tgt := 1808) d_Lw_law_1805 (by decide) ?_
      refine y_lv (lv' := [(5, .int (nI (7 * j))), (4, .ref (ad 70)), (3, .ref (ad 69)), (2, .ref (ad 52)), (1, .ref (ad 0)), (0, .ref (g.2.2 40))]) [0, 1, 2, 3, 4, 5] rfl ?_
      refine y_end (fun wC hC => ?_)
      exact LC_next (IV.nil hC hI) hR hJ hL ih (by omega) (by omega)
theorem d_Lw_law_1406 : decode code 1406 = .ok (.aload_n 3, 1) := by decide +kernel
theorem d_Lw_law_1407 : decode code 1407 = .ok (.iconst 0, 1) := by decide +kernel
theorem d_Lw_law_1408 : decode code 1408 = .ok (.laload, 1) := by decide +kernel
theorem d_Lw_law_1409 : decode code 1409 = .ok (.iload 7, 2) := by decide +kernel
theorem d_Lw_law_1411 : decode code 1411 = .ok (.i2l, 1) := by decide +kernel
theorem d_Lw_law_1412 : decode code 1412 = .ok (.lcmp, 1) := by decide +kernel
theorem d_Lw_law_1413 : decode code 1413 = .ok (.ifCond .eq 5, 3) := by decide +kernel
set_option maxHeartbeats 4000000 in
set_option maxRecDepth 100000 in
theorem LC_cheapest112 {g : zG} {ad : Nat → Nat} {t : zTT} {u : zNN} {w : zW} (hI : IV g ad t u w) (hR : REL t) {j r : Nat} (hJ : 7 * j + 7 ≤ g.2.2 41) (hL : g.2.2 41 < 2 ^ 31) (ih : LWI g ad j r) (q : zc g (7 * j + 1) = 112) (hf : ¬ t.2.2.2.2 2 = 0) (h0 : t.2.2.2.2 0 = t.2.2.2.2 3) (h1 : t.2.2.2.2 1 = t.2.2.2.2 4) (hm : ¬ t.2.2.2.2 3 = -1) : DW g M_Lw_law lwQ w 1363 [(5, .int (nI (7 * j))), (4, .ref (ad 70)), (3, .ref (ad 69)), (2, .ref (ad 52)), (1, .ref (ad 0)), (0, .ref (g.2.2 40))] [] (100 * (r + 1)) (1000 * (r + 1)) := by
  refine y_base (cs := []) (z_I.nil w) ?_
  refine y_aload_n d_Lw_law_1363 rfl 4 rfl ?_
  refine y_aload_n d_Lw_law_1364 rfl 5 rfl ?_
  refine y_iload d_Lw_law_1365 0 rfl ?_
  refine y_iconst d_Lw_law_1367 (v := 1) (by decide) ?_
  refine y_iadd d_Lw_law_1368 (v := nI ((7 * j) + 1)) (nI_add _ _) ?_
  refine y_sld (v := zs g (7 * j + 1)) d_Lw_law_1369 (vp_in_nI (by omega) (by omega)) (by rw [nI_clamp (by omega)]; rfl) ?_
  refine y_i2c d_Lw_law_1370 (v := 112) q ?_
  refine y_aload_n d_Lw_law_1371 rfl 2 rfl ?_
  refine yw_callSX (As := [.ref (ad 0), .int 112, .ref (ad 69)]) (rest := []) ln_Lw_282 w_st_Lw_cheapest ok_Lw_law_Lw_cheapest d_Lw_law_1372 (fun wA hA => WX_cheapest112 (IV.nil hA hI) hf) rfl rfl (Nat.le_of_ble_eq_true rfl) (by omega) (by omega) (fun wA1372 hA1372 E wB1372 hx => ?_) (fun wA1372 hA1372 v wB1372 hx => ?_)
  · obtain ⟨e0, -⟩ := hx
    cases e0
  · obtain ⟨e0, hI2, f9, hw9, hf9⟩ := hx
    cases e0
    refine yw_st (st2 := [.int 0]) rfl ?_
    have hI := hI2
    obtain ⟨e_m, wf_m, k_m⟩ := hI.1.2 52 (by decide)
    obtain ⟨v_m_th, v_m_cl, v_m_wa, v_m_co_, v_m_fi, v_m_bu, v_m_ho, v_m_lh, v_m_mg, v_m_wd, v_m_po, v_m_de, rfl⟩ := kd_52.mp k_m
    refine y_base (cs := [((ad 52), .inr (12, [.int v_m_th, .ref (ad 53), .int (nI t.2.2.2.1), .ref (ad 54), .ref (ad 55), .ref (ad 56), .ref (ad 57), .ref (ad 58), .ref (ad 59), .ref (ad 60), .ref (ad 61), .int v_m_cl, .int v_m_wa, .int v_m_co_, .int v_m_fi, .int v_m_bu, .int v_m_ho, .ref (ad 62), .ref (ad 63), .ref (ad 64), .int v_m_lh, .int v_m_mg, .int v_m_wd, .int (t.2.2.2.2 3), .int (t.2.2.2.2 4), .ref (ad 65), .ref (ad 66), .ref (ad 67), .ref (ad 68), .long v_m_po, .long v_m_de])), ((ad 69), .inl (3, 1, .inr (.inl f9)))]) (hI.1.I [52, 69] _ rfl (by decide) (by decide) (List.forall_mem_cons.mpr ⟨wf_m, (List.forall_mem_cons.mpr ⟨hw9, (fun _ h => nomatch h)⟩)⟩)) ?_
    refine y_istore (lv' := [(6, .int 0), (5, .int (nI (7 * j))), (4, .ref (ad 70)), (3, .ref (ad 69)), (2, .ref (ad 52)), (1, .ref (ad 0)), (0, .ref (g.2.2 40))]) d_Lw_law_1375 (by decide) rfl ?_
    refine y_aload_n d_Lw_law_1377 rfl 4 rfl ?_
    refine y_aload_n d_Lw_law_1378 rfl 6 rfl ?_
    refine y_iload d_Lw_law_1379 1 rfl ?_
    refine y_iconst d_Lw_law_1381 (v := 1) (by decide) ?_
    refine y_iadd d_Lw_law_1382 (v := nI ((7 * j) + 1)) (nI_add _ _) ?_
    refine y_sld (v := zs g (7 * j + 1)) d_Lw_law_1383 (vp_in_nI (by omega) (by omega)) (by rw [nI_clamp (by omega)]; rfl) ?_
    refine y_i2c d_Lw_law_1384 (v := 112) q ?_
    refine y_callV (As := [.int 112]) (rest := []) (csC := [((ad 52), .inr (12, [.int v_m_th, .ref (ad 53), .int (nI t.2.2.2.1), .ref (ad 54), .ref (ad 55), .ref (ad 56), .ref (ad 57), .ref (ad 58), .ref (ad 59), .ref (ad 60), .ref (ad 61), .int v_m_cl, .int v_m_wa, .int v_m_co_, .int v_m_fi, .int v_m_bu, .int v_m_ho, .ref (ad 62), .ref (ad 63), .ref (ad 64), .int v_m_lh, .int v_m_mg, .int v_m_wd, .int (t.2.2.2.2 3), .int (t.2.2.2.2 4), .ref (ad 65), .ref (ad 66), .ref (ad 67), .ref (ad 68), .long v_m_po, .long v_m_de]))]) (is := [0]) (q0 := 0) rfl rfl ln_Lw_284 w_im_Mm_cheapest w_se_Mm_cheapest ok_Lw_law_Mm_cheapest d_Lw_law_1385 (C_Mm_cheapest112 g (ad 52) (ad 53) (ad 54) (ad 55) (ad 56) (ad 57) (ad 58) (ad 59) (ad 60) (ad 61) (ad 62) (ad 63) (ad 64) (ad 65) (ad 66) (ad 67) (ad 68) v_m_th (nI t.2.2.2.1) v_m_cl v_m_wa v_m_co_ v_m_fi v_m_bu v_m_ho v_m_lh v_m_mg v_m_wd (t.2.2.2.2 3) (t.2.2.2.2 4) v_m_po v_m_de hm) rfl rfl (Nat.le_of_ble_eq_true rfl) rfl (by decide) (by omega) (by omega) (fun E cs1 hx => ?_) (fun v cs1 hx => ?_)
    · exact absurd hx.1 (by simp)
    · obtain ⟨e1, rfl⟩ := hx
      cases e1
      refine ⟨rfl, ?_⟩
      refine y_st (st2 := [.int (t.2.2.2.2 3)]) rfl ?_
      refine y_cs (cs2 := [((ad 52), .inr (12, [.int 0, .ref (ad 53), .int (nI t.2.2.2.1), .ref (ad 54), .ref (ad 55), .ref (ad 56), .ref (ad 57), .ref (ad 58), .ref (ad 59), .ref (ad 60), .ref (ad 61), .int v_m_cl, .int v_m_wa, .int v_m_co_, .int v_m_fi, .int v_m_bu, .int v_m_ho, .ref (ad 62), .ref (ad 63), .ref (ad 64), .int v_m_lh, .int v_m_mg, .int v_m_wd, .int (t.2.2.2.2 3), .int (t.2.2.2.2 4), .ref (ad 65), .ref (ad 66), .ref (ad 67), .ref (ad 68), .long v_m_po, .long v_m_de])), ((ad 69), .inl (3, 1, .inr (.inl f9)))]) rfl ?_
      refine y_istore (lv' := [(7, .int (t.2.2.2.2 3)), (6, .int 0), (5, .int (nI (7 * j))), (4, .ref (ad 70)), (3, .ref (ad 69)), (2, .ref (ad 52)), (1, .ref (ad 0)), (0, .ref (g.2.2 40))]) d_Lw_law_1388 (by decide) rfl ?_
      refine y_aload_n d_Lw_law_1390 rfl 5 rfl ?_
      refine y_callV (As := []) (rest := []) (csC := [((ad 52), .inr (12, [.int 0, .ref (ad 53), .int (nI t.2.2.2.1), .ref (ad 54), .ref (ad 55), .ref (ad 56), .ref (ad 57), .ref (ad 58), .ref (ad 59), .ref (ad 60), .ref (ad 61), .int v_m_cl, .int v_m_wa, .int v_m_co_, .int v_m_fi, .int v_m_bu, .int v_m_ho, .ref (ad 62), .ref (ad 63), .ref (ad 64), .int v_m_lh, .int v_m_mg, .int v_m_wd, .int (t.2.2.2.2 3), .int (t.2.2.2.2 4), .ref (ad 65), .ref (ad 66), .ref (ad 67), .ref (ad 68), .long v_m_po, .long v_m_de]))]) (is := [0]) (q0 := 0) rfl rfl ln_Lw_285 w_im_Mm_thrown w_se_Mm_thrown ok_Lw_law_Mm_thrown d_Lw_law_1391 (C_Mm_thrown g (ad 52) (ad 53) (ad 54) (ad 55) (ad 56) (ad 57) (ad 58) (ad 59) (ad 60) (ad 61) (ad 62) (ad 63) (ad 64) (ad 65) (ad 66) (ad 67) (ad 68) 0 (nI t.2.2.2.1) v_m_cl v_m_wa v_m_co_ v_m_fi v_m_bu v_m_ho v_m_lh v_m_mg v_m_wd (t.2.2.2.2 3) (t.2.2.2.2 4) v_m_po v_m_de) rfl rfl (Nat.le_of_ble_eq_true rfl) rfl (by decide) (by omega) (by omega) (fun E cs1 hx => ?_) (fun v cs1 hx => ?_)
      · exact absurd hx.1 (by simp)
      · obtain ⟨e1, rfl⟩ := hx
        cases e1
        refine ⟨rfl, ?_⟩
        refine y_st (st2 := [.int 0]) rfl ?_
        refine y_cs (cs2 := [((ad 52), .inr (12, [.int 0, .ref (ad 53), .int (nI t.2.2.2.1), .ref (ad 54), .ref (ad 55), .ref (ad 56), .ref (ad 57), .ref (ad 58), .ref (ad 59), .ref (ad 60), .ref (ad 61), .int v_m_cl, .int v_m_wa, .int v_m_co_, .int v_m_fi, .int v_m_bu, .int v_m_ho, .ref (ad 62), .ref (ad 63), .ref (ad 64), .int v_m_lh, .int v_m_mg, .int v_m_wd, .int (t.2.2.2.2 3), .int (t.2.2.2.2 4), .ref (ad 65), .ref (ad 66), .ref (ad 67), .ref (ad 68), .long v_m_po, .long v_m_de])), ((ad 69), .inl (3, 1, .inr (.inl f9)))]) rfl ?_
        refine y_iload d_Lw_law_1394 1 rfl ?_
        refine y_icmp_eq (tgt := 1401) d_Lw_law_1396 (by decide) (fun c_1396 => ?_) (fun c_1396 => ?_)
        · refine y_iload d_Lw_law_1401 1 rfl ?_
          refine y_if_ne (tgt := 1418) d_Lw_law_1403 (by decide) (fun c_1403 => ?_) (fun c_1403 => ?_)
          · exact absurd c_1403 (by decide)
          · refine y_aload_n d_Lw_law_1406 rfl 4 rfl ?_
            refine y_iconst d_Lw_law_1407 (v := 0) (by decide) ?_
            refine y_lald d_Lw_law_1408 (q0 := 1) rfl (fun q => q.elim (by decide) (by decide)) (v := f9 0) rfl ?_
            refine y_iload d_Lw_law_1409 0 rfl ?_
            refine y_i2l d_Lw_law_1411 (v := (t.2.2.2.2 3).toInt64) rfl ?_
            refine y_lcmp d_Lw_law_1412 (v := 0) (by rw [hf9]; exact zl_cmp (h0)) ?_
            refine y_if_eq (tgt := 1418) d_Lw_law_1413 (by decide) (fun c_1413 => ?_) (fun c_1413 => ?_)
            · refine y_goto (tgt := 1808) d_Lw_law_1418 (by decide) ?_
              refine y_lv (lv' := [(5, .int (nI (7 * j))), (4, .ref (ad 70)), (3, .ref (ad 69)), (2, .ref (ad 52)), (1, .ref (ad 0)), (0, .ref (g.2.2 40))]) [2, 3, 4, 5, 6, 7] rfl ?_
              refine y_end (fun wC hC => ?_)
              exact LC_next ((hI.gen (t2 := t) (is := [52, 69]) (L2 := []) hC rfl ⟨kd_52.mpr ⟨_, _, _, _, _, _, _, _, _, _, _, _, rfl⟩, kd_69.mpr ⟨_, rfl⟩, trivial⟩ (by decide) (by decide) (fun _ h => nomatch h) (fun _ h => nomatch h) (fun _ _ _ _ h => h) (fun h => h))) hR hJ hL ih (by omega) (by omega)
            · exact absurd c_1413 (by decide)
        · exact absurd c_1396 (by decide)
set_option maxHeartbeats 4000000 in
set_option maxRecDepth 100000 in
theorem LC_cheapest115 {g : zG} {ad : Nat → Nat} {t : zTT} {u : zNN} {w : zW} (hI : IV g ad t u w) (hR : REL t) {j r : Nat} (hJ : 7 * j + 7 ≤ g.2.2 41) (hL : g.2.2 41 < 2 ^ 31) (ih : LWI g ad j r) (q : zc g (7 * j + 1) = 115) (hf : ¬ t.2.2.2.2 2 = 0) (h0 : t.2.2.2.2 0 = t.2.2.2.2 3) (h1 : t.2.2.2.2 1 = t.2.2.2.2 4) (hm : ¬ t.2.2.2.2 3 = -1) : DW g M_Lw_law lwQ w 1363 [(5, .int (nI (7 * j))), (4, .ref (ad 70)), (3, .ref (ad 69)), (2, .ref (ad 52)), (1, .ref (ad 0)), (0, .ref (g.2.2 40))] [] (100 * (r + 1)) (1000 * (r + 1)) := by
  refine y_base (cs := []) (z_I.nil w) ?_
  refine y_aload_n d_Lw_law_1363 rfl 4 rfl ?_
  refine y_aload_n d_Lw_law_1364 rfl 5 rfl ?_
  refine y_iload d_Lw_law_1365 0 rfl ?_
  refine y_iconst d_Lw_law_1367 (v := 1) (by decide) ?_
  refine y_iadd d_Lw_law_1368 (v := nI ((7 * j) + 1)) (nI_add _ _) ?_
  refine y_sld (v := zs g (7 * j + 1)) d_Lw_law_1369 (vp_in_nI (by omega) (by omega)) (by rw [nI_clamp (by omega)]; rfl) ?_
  refine y_i2c d_Lw_law_1370 (v := 115) q ?_
  refine y_aload_n d_Lw_law_1371 rfl 2 rfl ?_
  refine yw_callSX (As := [.ref (ad 0), .int 115, .ref (ad 69)]) (rest := []) ln_Lw_282 w_st_Lw_cheapest ok_Lw_law_Lw_cheapest d_Lw_law_1372 (fun wA hA => WX_cheapest115 (IV.nil hA hI) hf) rfl rfl (Nat.le_of_ble_eq_true rfl) (by omega) (by omega) (fun wA1372 hA1372 E wB1372 hx => ?_) (fun wA1372 hA1372 v wB1372 hx => ?_)
  · obtain ⟨e0, -⟩ := hx
    cases e0
  · obtain ⟨e0, hI2, f9, hw9, hf9⟩ := hx
    cases e0
    refine yw_st (st2 := [.int 0]) rfl ?_
    have hI := hI2
    obtain ⟨e_m, wf_m, k_m⟩ := hI.1.2 52 (by decide)
    obtain ⟨v_m_th, v_m_cl, v_m_wa, v_m_co_, v_m_fi, v_m_bu, v_m_ho, v_m_lh, v_m_mg, v_m_wd, v_m_po, v_m_de, rfl⟩ := kd_52.mp k_m
    refine y_base (cs := [((ad 52), .inr (12, [.int v_m_th, .ref (ad 53), .int (nI t.2.2.2.1), .ref (ad 54), .ref (ad 55), .ref (ad 56), .ref (ad 57), .ref (ad 58), .ref (ad 59), .ref (ad 60), .ref (ad 61), .int v_m_cl, .int v_m_wa, .int v_m_co_, .int v_m_fi, .int v_m_bu, .int v_m_ho, .ref (ad 62), .ref (ad 63), .ref (ad 64), .int v_m_lh, .int v_m_mg, .int v_m_wd, .int (t.2.2.2.2 3), .int (t.2.2.2.2 4), .ref (ad 65), .ref (ad 66), .ref (ad 67), .ref (ad 68), .long v_m_po, .long v_m_de])), ((ad 69), .inl (3, 1, .inr (.inl f9)))]) (hI.1.I [52, 69] _ rfl (by decide) (by decide) (List.forall_mem_cons.mpr ⟨wf_m, (List.forall_mem_cons.mpr ⟨hw9, (fun _ h => nomatch h)⟩)⟩)) ?_
    refine y_istore (lv' := [(6, .int 0), (5, .int (nI (7 * j))), (4, .ref (ad 70)), (3, .ref (ad 69)), (2, .ref (ad 52)), (1, .ref (ad 0)), (0, .ref (g.2.2 40))]) d_Lw_law_1375 (by decide) rfl ?_
    refine y_aload_n d_Lw_law_1377 rfl 4 rfl ?_
    refine y_aload_n d_Lw_law_1378 rfl 6 rfl ?_
    refine y_iload d_Lw_law_1379 1 rfl ?_
    refine y_iconst d_Lw_law_1381 (v := 1) (by decide) ?_
    refine y_iadd d_Lw_law_1382 (v := nI ((7 * j) + 1)) (nI_add _ _) ?_
    refine y_sld (v := zs g (7 * j + 1)) d_Lw_law_1383 (vp_in_nI (by omega) (by omega)) (by rw [nI_clamp (by omega)]; rfl) ?_
    refine y_i2c d_Lw_law_1384 (v := 115) q ?_
    refine y_callV (As := [.int 115]) (rest := []) (csC := [((ad 52), .inr (12, [.int v_m_th, .ref (ad 53), .int (nI t.2.2.2.1), .ref (ad 54), .ref (ad 55), .ref (ad 56), .ref (ad 57), .ref (ad 58), .ref (ad 59), .ref (ad 60), .ref (ad 61), .int v_m_cl, .int v_m_wa, .int v_m_co_, .int v_m_fi, .int v_m_bu, .int v_m_ho, .ref (ad 62), .ref (ad 63), .ref (ad 64), .int v_m_lh, .int v_m_mg, .int v_m_wd, .int (t.2.2.2.2 3), .int (t.2.2.2.2 4), .ref (ad 65), .ref (ad 66), .ref (ad 67), .ref (ad 68), .long v_m_po, .long v_m_de]))]) (is := [0]) (q0 := 0) rfl rfl ln_Lw_284 w_im_Mm_cheapest w_se_Mm_cheapest ok_Lw_law_Mm_cheapest d_Lw_law_1385 (C_Mm_cheapest115 g (ad 52) (ad 53) (ad 54) (ad 55) (ad 56) (ad 57) (ad 58) (ad 59) (ad 60) (ad 61) (ad 62) (ad 63) (ad 64) (ad 65) (ad 66) (ad 67) (ad 68) v_m_th (nI t.2.2.2.1) v_m_cl v_m_wa v_m_co_ v_m_fi v_m_bu v_m_ho v_m_lh v_m_mg v_m_wd (t.2.2.2.2 3) (t.2.2.2.2 4) v_m_po v_m_de hm) rfl rfl (Nat.le_of_ble_eq_true rfl) rfl (by decide) (by omega) (by omega) (fun E cs1 hx => ?_) (fun v cs1 hx => ?_)
    · exact absurd hx.1 (by simp)
    · obtain ⟨e1, rfl⟩ := hx
      cases e1
      refine ⟨rfl, ?_⟩
      refine y_st (st2 := [.int (100 - (t.2.2.2.2 3) - (t.2.2.2.2 4))]) rfl ?_
      refine y_cs (cs2 := [((ad 52), .inr (12, [.int 0, .ref (ad 53), .int (nI t.2.2.2.1), .ref (ad 54), .ref (ad 55), .ref (ad 56), .ref (ad 57), .ref (ad 58), .ref (ad 59), .ref (ad 60), .ref (ad 61), .int v_m_cl, .int v_m_wa, .int v_m_co_, .int v_m_fi, .int v_m_bu, .int v_m_ho, .ref (ad 62), .ref (ad 63), .ref (ad 64), .int v_m_lh, .int v_m_mg, .int v_m_wd, .int (t.2.2.2.2 3), .int (t.2.2.2.2 4), .ref (ad 65), .ref (ad 66), .ref (ad 67), .ref (ad 68), .long v_m_po, .long v_m_de])), ((ad 69), .inl (3, 1, .inr (.inl f9)))]) rfl ?_
      refine y_istore (lv' := [(7, .int (100 - (t.2.2.2.2 3) - (t.2.2.2.2 4))), (6, .int 0), (5, .int (nI (7 * j))), (4, .ref (ad 70)), (3, .ref (ad 69)), (2, .ref (ad 52)), (1, .ref (ad 0)), (0, .ref (g.2.2 40))]) d_Lw_law_1388 (by decide) rfl ?_
      refine y_aload_n d_Lw_law_1390 rfl 5 rfl ?_
      refine y_callV (As := []) (rest := []) (csC := [((ad 52), .inr (12, [.int 0, .ref (ad 53), .int (nI t.2.2.2.1), .ref (ad 54), .ref (ad 55), .ref (ad 56), .ref (ad 57), .ref (ad 58), .ref (ad 59), .ref (ad 60), .ref (ad 61), .int v_m_cl, .int v_m_wa, .int v_m_co_, .int v_m_fi, .int v_m_bu, .int v_m_ho, .ref (ad 62), .ref (ad 63), .ref (ad 64), .int v_m_lh, .int v_m_mg, .int v_m_wd, .int (t.2.2.2.2 3), .int (t.2.2.2.2 4), .ref (ad 65), .ref (ad 66), .ref (ad 67), .ref (ad 68), .long v_m_po, .long v_m_de]))]) (is := [0]) (q0 := 0) rfl rfl ln_Lw_285 w_im_Mm_thrown w_se_Mm_thrown ok_Lw_law_Mm_thrown d_Lw_law_1391 (C_Mm_thrown g (ad 52) (ad 53) (ad 54) (ad 55) (ad 56) (ad 57) (ad 58) (ad 59) (ad 60) (ad 61) (ad 62) (ad 63) (ad 64) (ad 65) (ad 66) (ad 67) (ad 68) 0 (nI t.2.2.2.1) v_m_cl v_m_wa v_m_co_ v_m_fi v_m_bu v_m_ho v_m_lh v_m_mg v_m_wd (t.2.2.2.2 3) (t.2.2.2.2 4) v_m_po v_m_de) rfl rfl (Nat.le_of_ble_eq_true rfl) rfl (by decide) (by omega) (by omega) (fun E cs1 hx => ?_) (fun v cs1 hx => ?_)
      · exact absurd hx.1 (by simp)
      · obtain ⟨e1, rfl⟩ := hx
        cases e1
        refine ⟨rfl, ?_⟩
        refine y_st (st2 := [.int 0]) rfl ?_
        refine y_cs (cs2 := [((ad 52), .inr (12, [.int 0, .ref (ad 53), .int (nI t.2.2.2.1), .ref (ad 54), .ref (ad 55), .ref (ad 56), .ref (ad 57), .ref (ad 58), .ref (ad 59), .ref (ad 60), .ref (ad 61), .int v_m_cl, .int v_m_wa, .int v_m_co_, .int v_m_fi, .int v_m_bu, .int v_m_ho, .ref (ad 62), .ref (ad 63), .ref (ad 64), .int v_m_lh, .int v_m_mg, .int v_m_wd, .int (t.2.2.2.2 3), .int (t.2.2.2.2 4), .ref (ad 65), .ref (ad 66), .ref (ad 67), .ref (ad 68), .long v_m_po, .long v_m_de])), ((ad 69), .inl (3, 1, .inr (.inl f9)))]) rfl ?_
        refine y_iload d_Lw_law_1394 1 rfl ?_
        refine y_icmp_eq (tgt := 1401) d_Lw_law_1396 (by decide) (fun c_1396 => ?_) (fun c_1396 => ?_)
        · refine y_iload d_Lw_law_1401 1 rfl ?_
          refine y_if_ne (tgt := 1418) d_Lw_law_1403 (by decide) (fun c_1403 => ?_) (fun c_1403 => ?_)
          · exact absurd c_1403 (by decide)
          · refine y_aload_n d_Lw_law_1406 rfl 4 rfl ?_
            refine y_iconst d_Lw_law_1407 (v := 0) (by decide) ?_
            refine y_lald d_Lw_law_1408 (q0 := 1) rfl (fun q => q.elim (by decide) (by decide)) (v := f9 0) rfl ?_
            refine y_iload d_Lw_law_1409 0 rfl ?_
            refine y_i2l d_Lw_law_1411 (v := (100 - (t.2.2.2.2 3) - (t.2.2.2.2 4)).toInt64) rfl ?_
            refine y_lcmp d_Lw_law_1412 (v := 0) (by rw [hf9]; exact zl_cmp ((by show 100 - t.2.2.2.2 0 - t.2.2.2.2 1 = 100 - t.2.2.2.2 3 - t.2.2.2.2 4; rw [h0, h1]))) ?_
            refine y_if_eq (tgt := 1418) d_Lw_law_1413 (by decide) (fun c_1413 => ?_) (fun c_1413 => ?_)
            · refine y_goto (tgt := 1808) d_Lw_law_1418 (by decide) ?_
              refine y_lv (lv' := [(5, .int (nI (7 * j))), (4, .ref (ad 70)), (3, .ref (ad 69)), (2, .ref (ad 52)), (1, .ref (ad 0)), (0, .ref (g.2.2 40))]) [2, 3, 4, 5, 6, 7] rfl ?_
              refine y_end (fun wC hC => ?_)
              exact LC_next ((hI.gen (t2 := t) (is := [52, 69]) (L2 := []) hC rfl ⟨kd_52.mpr ⟨_, _, _, _, _, _, _, _, _, _, _, _, rfl⟩, kd_69.mpr ⟨_, rfl⟩, trivial⟩ (by decide) (by decide) (fun _ h => nomatch h) (fun _ h => nomatch h) (fun _ _ _ _ h => h) (fun h => h))) hR hJ hL ih (by omega) (by omega)
            · exact absurd c_1413 (by decide)
        · exact absurd c_1396 (by decide)
set_option maxHeartbeats 4000000 in
set_option maxRecDepth 100000 in
theorem LC_cheapest102 {g : zG} {ad : Nat → Nat} {t : zTT} {u : zNN} {w : zW} (hI : IV g ad t u w) (hR : REL t) {j r : Nat} (hJ : 7 * j + 7 ≤ g.2.2 41) (hL : g.2.2 41 < 2 ^ 31) (ih : LWI g ad j r) (q : zc g (7 * j + 1) = 102) (hf : ¬ t.2.2.2.2 2 = 0) (h0 : t.2.2.2.2 0 = t.2.2.2.2 3) (h1 : t.2.2.2.2 1 = t.2.2.2.2 4) (hm : ¬ t.2.2.2.2 3 = -1) : DW g M_Lw_law lwQ w 1363 [(5, .int (nI (7 * j))), (4, .ref (ad 70)), (3, .ref (ad 69)), (2, .ref (ad 52)), (1, .ref (ad 0)), (0, .ref (g.2.2 40))] [] (100 * (r + 1)) (1000 * (r + 1)) := by
  refine y_base (cs := []) (z_I.nil w) ?_
  refine y_aload_n d_Lw_law_1363 rfl 4 rfl ?_
  refine y_aload_n d_Lw_law_1364 rfl 5 rfl ?_
  refine y_iload d_Lw_law_1365 0 rfl ?_
  refine y_iconst d_Lw_law_1367 (v := 1) (by decide) ?_
  refine y_iadd d_Lw_law_1368 (v := nI ((7 * j) + 1)) (nI_add _ _) ?_
  refine y_sld (v := zs g (7 * j + 1)) d_Lw_law_1369 (vp_in_nI (by omega) (by omega)) (by rw [nI_clamp (by omega)]; rfl) ?_
  refine y_i2c d_Lw_law_1370 (v := 102) q ?_
  refine y_aload_n d_Lw_law_1371 rfl 2 rfl ?_
  refine yw_callSX (As := [.ref (ad 0), .int 102, .ref (ad 69)]) (rest := []) ln_Lw_282 w_st_Lw_cheapest ok_Lw_law_Lw_cheapest d_Lw_law_1372 (fun wA hA => WX_cheapest102 (IV.nil hA hI) hf) rfl rfl (Nat.le_of_ble_eq_true rfl) (by omega) (by omega) (fun wA1372 hA1372 E wB1372 hx => ?_) (fun wA1372 hA1372 v wB1372 hx => ?_)
  · obtain ⟨e0, -⟩ := hx
    cases e0
  · obtain ⟨e0, hI2, f9, hw9, hf9⟩ := hx
    cases e0
    refine yw_st (st2 := [.int 0]) rfl ?_
    have hI := hI2
    obtain ⟨e_m, wf_m, k_m⟩ := hI.1.2 52 (by decide)
    obtain ⟨v_m_th, v_m_cl, v_m_wa, v_m_co_, v_m_fi, v_m_bu, v_m_ho, v_m_lh, v_m_mg, v_m_wd, v_m_po, v_m_de, rfl⟩ := kd_52.mp k_m
    refine y_base (cs := [((ad 52), .inr (12, [.int v_m_th, .ref (ad 53), .int (nI t.2.2.2.1), .ref (ad 54), .ref (ad 55), .ref (ad 56), .ref (ad 57), .ref (ad 58), .ref (ad 59), .ref (ad 60), .ref (ad 61), .int v_m_cl, .int v_m_wa, .int v_m_co_, .int v_m_fi, .int v_m_bu, .int v_m_ho, .ref (ad 62), .ref (ad 63), .ref (ad 64), .int v_m_lh, .int v_m_mg, .int v_m_wd, .int (t.2.2.2.2 3), .int (t.2.2.2.2 4), .ref (ad 65), .ref (ad 66), .ref (ad 67), .ref (ad 68), .long v_m_po, .long v_m_de])), ((ad 69), .inl (3, 1, .inr (.inl f9)))]) (hI.1.I [52, 69] _ rfl (by decide) (by decide) (List.forall_mem_cons.mpr ⟨wf_m, (List.forall_mem_cons.mpr ⟨hw9, (fun _ h => nomatch h)⟩)⟩)) ?_
    refine y_istore (lv' := [(6, .int 0), (5, .int (nI (7 * j))), (4, .ref (ad 70)), (3, .ref (ad 69)), (2, .ref (ad 52)), (1, .ref (ad 0)), (0, .ref (g.2.2 40))]) d_Lw_law_1375 (by decide) rfl ?_
    refine y_aload_n d_Lw_law_1377 rfl 4 rfl ?_
    refine y_aload_n d_Lw_law_1378 rfl 6 rfl ?_
    refine y_iload d_Lw_law_1379 1 rfl ?_
    refine y_iconst d_Lw_law_1381 (v := 1) (by decide) ?_
    refine y_iadd d_Lw_law_1382 (v := nI ((7 * j) + 1)) (nI_add _ _) ?_
    refine y_sld (v := zs g (7 * j + 1)) d_Lw_law_1383 (vp_in_nI (by omega) (by omega)) (by rw [nI_clamp (by omega)]; rfl) ?_
    refine y_i2c d_Lw_law_1384 (v := 102) q ?_
    refine y_callV (As := [.int 102]) (rest := []) (csC := [((ad 52), .inr (12, [.int v_m_th, .ref (ad 53), .int (nI t.2.2.2.1), .ref (ad 54), .ref (ad 55), .ref (ad 56), .ref (ad 57), .ref (ad 58), .ref (ad 59), .ref (ad 60), .ref (ad 61), .int v_m_cl, .int v_m_wa, .int v_m_co_, .int v_m_fi, .int v_m_bu, .int v_m_ho, .ref (ad 62), .ref (ad 63), .ref (ad 64), .int v_m_lh, .int v_m_mg, .int v_m_wd, .int (t.2.2.2.2 3), .int (t.2.2.2.2 4), .ref (ad 65), .ref (ad 66), .ref (ad 67), .ref (ad 68), .long v_m_po, .long v_m_de]))]) (is := [0]) (q0 := 0) rfl rfl ln_Lw_284 w_im_Mm_cheapest w_se_Mm_cheapest ok_Lw_law_Mm_cheapest d_Lw_law_1385 (C_Mm_cheapest102 g (ad 52) (ad 53) (ad 54) (ad 55) (ad 56) (ad 57) (ad 58) (ad 59) (ad 60) (ad 61) (ad 62) (ad 63) (ad 64) (ad 65) (ad 66) (ad 67) (ad 68) v_m_th (nI t.2.2.2.1) v_m_cl v_m_wa v_m_co_ v_m_fi v_m_bu v_m_ho v_m_lh v_m_mg v_m_wd (t.2.2.2.2 3) (t.2.2.2.2 4) v_m_po v_m_de hm) rfl rfl (Nat.le_of_ble_eq_true rfl) rfl (by decide) (by omega) (by omega) (fun E cs1 hx => ?_) (fun v cs1 hx => ?_)
    · exact absurd hx.1 (by simp)
    · obtain ⟨e1, rfl⟩ := hx
      cases e1
      refine ⟨rfl, ?_⟩
      refine y_st (st2 := [.int (t.2.2.2.2 4)]) rfl ?_
      refine y_cs (cs2 := [((ad 52), .inr (12, [.int 0, .ref (ad 53), .int (nI t.2.2.2.1), .ref (ad 54), .ref (ad 55), .ref (ad 56), .ref (ad 57), .ref (ad 58), .ref (ad 59), .ref (ad 60), .ref (ad 61), .int v_m_cl, .int v_m_wa, .int v_m_co_, .int v_m_fi, .int v_m_bu, .int v_m_ho, .ref (ad 62), .ref (ad 63), .ref (ad 64), .int v_m_lh, .int v_m_mg, .int v_m_wd, .int (t.2.2.2.2 3), .int (t.2.2.2.2 4), .ref (ad 65), .ref (ad 66), .ref (ad 67), .ref (ad 68), .long v_m_po, .long v_m_de])), ((ad 69), .inl (3, 1, .inr (.inl f9)))]) rfl ?_
      refine y_istore (lv' := [(7, .int (t.2.2.2.2 4)), (6, .int 0), (5, .int (nI (7 * j))), (4, .ref (ad 70)), (3, .ref (ad 69)), (2, .ref (ad 52)), (1, .ref (ad 0)), (0, .ref (g.2.2 40))]) d_Lw_law_1388 (by decide) rfl ?_
      refine y_aload_n d_Lw_law_1390 rfl 5 rfl ?_
      refine y_callV (As := []) (rest := []) (csC := [((ad 52), .inr (12, [.int 0, .ref (ad 53), .int (nI t.2.2.2.1), .ref (ad 54), .ref (ad 55), .ref (ad 56), .ref (ad 57), .ref (ad 58), .ref (ad 59), .ref (ad 60), .ref (ad 61), .int v_m_cl, .int v_m_wa, .int v_m_co_, .int v_m_fi, .int v_m_bu, .int v_m_ho, .ref (ad 62), .ref (ad 63), .ref (ad 64), .int v_m_lh, .int v_m_mg, .int v_m_wd, .int (t.2.2.2.2 3), .int (t.2.2.2.2 4), .ref (ad 65), .ref (ad 66), .ref (ad 67), .ref (ad 68), .long v_m_po, .long v_m_de]))]) (is := [0]) (q0 := 0) rfl rfl ln_Lw_285 w_im_Mm_thrown w_se_Mm_thrown ok_Lw_law_Mm_thrown d_Lw_law_1391 (C_Mm_thrown g (ad 52) (ad 53) (ad 54) (ad 55) (ad 56) (ad 57) (ad 58) (ad 59) (ad 60) (ad 61) (ad 62) (ad 63) (ad 64) (ad 65) (ad 66) (ad 67) (ad 68) 0 (nI t.2.2.2.1) v_m_cl v_m_wa v_m_co_ v_m_fi v_m_bu v_m_ho v_m_lh v_m_mg v_m_wd (t.2.2.2.2 3) (t.2.2.2.2 4) v_m_po v_m_de) rfl rfl (Nat.le_of_ble_eq_true rfl) rfl (by decide) (by omega) (by omega) (fun E cs1 hx => ?_) (fun v cs1 hx => ?_)
      · exact absurd hx.1 (by simp)
      · obtain ⟨e1, rfl⟩ := hx
        cases e1
        refine ⟨rfl, ?_⟩
        refine y_st (st2 := [.int 0]) rfl ?_
        refine y_cs (cs2 := [((ad 52), .inr (12, [.int 0, .ref (ad 53), .int (nI t.2.2.2.1), .ref (ad 54), .ref (ad 55), .ref (ad 56), .ref (ad 57), .ref (ad 58), .ref (ad 59), .ref (ad 60), .ref (ad 61), .int v_m_cl, .int v_m_wa, .int v_m_co_, .int v_m_fi, .int v_m_bu, .int v_m_ho, .ref (ad 62), .ref (ad 63), .ref (ad 64), .int v_m_lh, .int v_m_mg, .int v_m_wd, .int (t.2.2.2.2 3), .int (t.2.2.2.2 4), .ref (ad 65), .ref (ad 66), .ref (ad 67), .ref (ad 68), .long v_m_po, .long v_m_de])), ((ad 69), .inl (3, 1, .inr (.inl f9)))]) rfl ?_
        refine y_iload d_Lw_law_1394 1 rfl ?_
        refine y_icmp_eq (tgt := 1401) d_Lw_law_1396 (by decide) (fun c_1396 => ?_) (fun c_1396 => ?_)
        · refine y_iload d_Lw_law_1401 1 rfl ?_
          refine y_if_ne (tgt := 1418) d_Lw_law_1403 (by decide) (fun c_1403 => ?_) (fun c_1403 => ?_)
          · exact absurd c_1403 (by decide)
          · refine y_aload_n d_Lw_law_1406 rfl 4 rfl ?_
            refine y_iconst d_Lw_law_1407 (v := 0) (by decide) ?_
            refine y_lald d_Lw_law_1408 (q0 := 1) rfl (fun q => q.elim (by decide) (by decide)) (v := f9 0) rfl ?_
            refine y_iload d_Lw_law_1409 0 rfl ?_
            refine y_i2l d_Lw_law_1411 (v := (t.2.2.2.2 4).toInt64) rfl ?_
            refine y_lcmp d_Lw_law_1412 (v := 0) (by rw [hf9]; exact zl_cmp (h1)) ?_
            refine y_if_eq (tgt := 1418) d_Lw_law_1413 (by decide) (fun c_1413 => ?_) (fun c_1413 => ?_)
            · refine y_goto (tgt := 1808) d_Lw_law_1418 (by decide) ?_
              refine y_lv (lv' := [(5, .int (nI (7 * j))), (4, .ref (ad 70)), (3, .ref (ad 69)), (2, .ref (ad 52)), (1, .ref (ad 0)), (0, .ref (g.2.2 40))]) [2, 3, 4, 5, 6, 7] rfl ?_
              refine y_end (fun wC hC => ?_)
              exact LC_next ((hI.gen (t2 := t) (is := [52, 69]) (L2 := []) hC rfl ⟨kd_52.mpr ⟨_, _, _, _, _, _, _, _, _, _, _, _, rfl⟩, kd_69.mpr ⟨_, rfl⟩, trivial⟩ (by decide) (by decide) (fun _ h => nomatch h) (fun _ h => nomatch h) (fun _ _ _ _ h => h) (fun h => h))) hR hJ hL ih (by omega) (by omega)
            · exact absurd c_1413 (by decide)
        · exact absurd c_1396 (by decide)
