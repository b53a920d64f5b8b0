theorem d_Lw_law_658 : decode code 658 = .ok (.aload_n 1, 1) := by decide +kernel
theorem d_Lw_law_659 : decode code 659 = .ok (.aload_n 0, 1) := by decide +kernel
theorem d_Lw_law_660 : decode code 660 = .ok (.iload 5, 2) := by decide +kernel
theorem d_Lw_law_662 : decode code 662 = .ok (.iconst 1, 1) := by decide +kernel
theorem d_Lw_law_663 : decode code 663 = .ok (.iadd, 1) := by decide +kernel
theorem d_Lw_law_664 : decode code 664 = .ok (.iaload, 1) := by decide +kernel
theorem d_Lw_law_665 : decode code 665 = .ok (.aload_n 0, 1) := by decide +kernel
theorem d_Lw_law_666 : decode code 666 = .ok (.iload 5, 2) := by decide +kernel
theorem d_Lw_law_668 : decode code 668 = .ok (.iconst 2, 1) := by decide +kernel
theorem d_Lw_law_669 : decode code 669 = .ok (.iadd, 1) := by decide +kernel
theorem d_Lw_law_670 : decode code 670 = .ok (.iaload, 1) := by decide +kernel
theorem d_Lw_law_671 : decode code 671 = .ok (.aload_n 0, 1) := by decide +kernel
theorem d_Lw_law_672 : decode code 672 = .ok (.iload 5, 2) := by decide +kernel
theorem d_Lw_law_674 : decode code 674 = .ok (.iconst 3, 1) := by decide +kernel
theorem d_Lw_law_675 : decode code 675 = .ok (.iadd, 1) := by decide +kernel
theorem d_Lw_law_676 : decode code 676 = .ok (.iaload, 1) := by decide +kernel
theorem d_Lw_law_677 : decode code 677 = .ok (.aload_n 3, 1) := by decide +kernel
theorem d_Lw_law_678 : decode code 678 = .ok (.invokestatic 217, 3) := by decide +kernel
theorem ok_Lw_law_Lw_isFed : z_okX M_Lw_law M_Lw_isFed 5 := ⟨z_mem (i := 890) (by decide +kernel) (by decide +kernel), by decide, ⟨by decide +kernel, by decide +kernel, by decide +kernel⟩, ⟨by decide, by decide⟩, z_mem (i := 57) (by decide +kernel) (by decide +kernel), rfl⟩
theorem ln_Lw_217 : Cond.methodLink "IronpourLaw" 217 M_Lw_isFed.1 ∈ z_gw := z_mem (i := 888) (by decide +kernel) (by decide +kernel)
theorem w_st_Lw_isFed : Cond.static M_Lw_isFed.1 ∈ z_gw := z_mem (i := 889) (by decide +kernel) (by decide +kernel)
theorem d_Lw_law_681 : decode code 681 = .ok (.istore 6, 2) := by decide +kernel
theorem d_Lw_law_683 : decode code 683 = .ok (.aload_n 2, 1) := by decide +kernel
theorem d_Lw_law_684 : decode code 684 = .ok (.aload_n 0, 1) := by decide +kernel
theorem d_Lw_law_685 : decode code 685 = .ok (.iload 5, 2) := by decide +kernel
theorem d_Lw_law_687 : decode code 687 = .ok (.iconst 1, 1) := by decide +kernel
theorem d_Lw_law_688 : decode code 688 = .ok (.iadd, 1) := by decide +kernel
theorem d_Lw_law_689 : decode code 689 = .ok (.iaload, 1) := by decide +kernel
theorem d_Lw_law_690 : decode code 690 = .ok (.aload_n 0, 1) := by decide +kernel
theorem d_Lw_law_691 : decode code 691 = .ok (.iload 5, 2) := by decide +kernel
theorem d_Lw_law_693 : decode code 693 = .ok (.iconst 2, 1) := by decide +kernel
theorem d_Lw_law_694 : decode code 694 = .ok (.iadd, 1) := by decide +kernel
theorem d_Lw_law_695 : decode code 695 = .ok (.iaload, 1) := by decide +kernel
theorem d_Lw_law_696 : decode code 696 = .ok (.aload_n 0, 1) := by decide +kernel
theorem d_Lw_law_697 : decode code 697 = .ok (.iload 5, 2) := by decide +kernel
theorem d_Lw_law_699 : decode code 699 = .ok (.iconst 3, 1) := by decide +kernel
theorem d_Lw_law_700 : decode code 700 = .ok (.iadd, 1) := by decide +kernel
theorem d_Lw_law_701 : decode code 701 = .ok (.iaload, 1) := by decide +kernel
theorem d_Lw_law_702 : decode code 702 = .ok (.invokevirtual 219, 3) := by decide +kernel
theorem ok_Lw_law_Mm_isFed : z_ok M_Lw_law M_Mm_isFed 3 := ⟨z_mem (i := 1801) (by decide +kernel) (by decide +kernel), rfl, ⟨by decide +kernel, by decide +kernel, by decide +kernel⟩, ⟨by decide, by decide⟩, z_mem (i := 71) (by decide +kernel) (by decide +kernel), rfl⟩
theorem ln_Lw_219 : Cond.methodLink "IronpourLaw" 219 M_Mm_isFed.1 ∈ z_gw := z_mem (i := 1798) (by decide +kernel) (by decide +kernel)
theorem w_im_Mm_isFed : Cond.instanceMethod M_Mm_isFed.1 ∈ z_gw := z_mem (i := 1799) (by decide +kernel) (by decide +kernel)
theorem w_se_Mm_isFed : Cond.selects M_Mm_isFed.1.cls M_Mm_isFed.1 M_Mm_isFed.1 ∈ z_gw := z_mem (i := 1800) (by decide +kernel) (by decide +kernel)
theorem d_Lw_law_705 : decode code 705 = .ok (.istore 7, 2) := by decide +kernel
theorem d_Lw_law_707 : decode code 707 = .ok (.goto 1101, 3) := by decide +kernel
set_option maxHeartbeats 4000000 in
set_option maxRecDepth 100000 in
theorem LC_isFed {g : zG} {ad : Nat → Nat} {t : zTT} {u : zNN} {w : zW} (hI : IV g ad t u w) (hR : REL t) {j r : Nat} (hJ : 7 * j + 7 ≤ g.2.2 41) (hL : g.2.2 41 < 2 ^ 31) (ih : LWI g ad j r) : DW g M_Lw_law lwQ w 658 [(5, .int (nI (7 * j))), (4, .ref (ad 70)), (3, .ref (ad 69)), (2, .ref (ad 52)), (1, .ref (ad 0)), (0, .ref (g.2.2 40))] [] (100 * (r + 1)) (1000 * (r + 1)) := by
  refine y_base (cs := []) (z_I.nil w) ?_
  refine y_aload_n d_Lw_law_658 rfl 4 rfl ?_
  refine y_aload_n d_Lw_law_659 rfl 5 rfl ?_
  refine y_iload d_Lw_law_660 0 rfl ?_
  refine y_iconst d_Lw_law_662 (v := 1) (by decide) ?_
  refine y_iadd d_Lw_law_663 (v := nI ((7 * j) + 1)) (nI_add _ _) ?_
  refine y_sld (v := zs g (7 * j + 1)) d_Lw_law_664 (vp_in_nI (by omega) (by omega)) (by rw [nI_clamp (by omega)]; rfl) ?_
  refine y_aload_n d_Lw_law_665 rfl 5 rfl ?_
  refine y_iload d_Lw_law_666 0 rfl ?_
  refine y_iconst d_Lw_law_668 (v := 2) (by decide) ?_
  refine y_iadd d_Lw_law_669 (v := nI ((7 * j) + 2)) (nI_add _ _) ?_
  refine y_sld (v := zs g (7 * j + 2)) d_Lw_law_670 (vp_in_nI (by omega) (by omega)) (by rw [nI_clamp (by omega)]; rfl) ?_
  refine y_aload_n d_Lw_law_671 rfl 5 rfl ?_
  refine y_iload d_Lw_law_672 0 rfl ?_
  refine y_iconst d_Lw_law_674 (v := 3) (by decide) ?_
  refine y_iadd d_Lw_law_675 (v := nI ((7 * j) + 3)) (nI_add _ _) ?_
  refine y_sld (v := zs g (7 * j + 3)) d_Lw_law_676 (vp_in_nI (by omega) (by omega)) (by rw [nI_clamp (by omega)]; rfl) ?_
  refine y_aload_n d_Lw_law_677 rfl 2 rfl ?_
  refine yw_callSX (As := [.ref (ad 0), .int (zs g (7 * j + 1)), .int (zs g (7 * j + 2)), .int (zs g (7 * j + 3)), .ref (ad 69)]) (rest := []) ln_Lw_217 w_st_Lw_isFed ok_Lw_law_Lw_isFed d_Lw_law_678 (fun wA hA => W_isFed (IV.nil hA hI) _ _ _) rfl rfl (Nat.le_of_ble_eq_true rfl) (by omega) (by omega) (fun wA678 hA678 E wB678 hx => ?_) (fun wA678 hA678 v wB678 hx => ?_)
  · obtain ⟨⟨v9, e1⟩, -⟩ := hx
    cases e1
  · obtain ⟨⟨v9, e1⟩, u2, hI2⟩ := hx
    cases e1
    refine yw_st (st2 := [.int v9]) rfl ?_
    have hI := hI2
    refine y_base (cs := []) (z_I.nil _) ?_
    refine y_istore (lv' := [(6, .int v9), (5, .int (nI (7 * j))), (4, .ref (ad 70)), (3, .ref (ad 69)), (2, .ref (ad 52)), (1, .ref (ad 0)), (0, .ref (g.2.2 40))]) d_Lw_law_681 (by decide) rfl ?_
    refine y_aload_n d_Lw_law_683 rfl 4 rfl ?_
    refine y_aload_n d_Lw_law_684 rfl 6 rfl ?_
    refine y_iload d_Lw_law_685 1 rfl ?_
    refine y_iconst d_Lw_law_687 (v := 1) (by decide) ?_
    refine y_iadd d_Lw_law_688 (v := nI ((7 * j) + 1)) (nI_add _ _) ?_
    refine y_sld (v := zs g (7 * j + 1)) d_Lw_law_689 (vp_in_nI (by omega) (by omega)) (by rw [nI_clamp (by omega)]; rfl) ?_
    refine y_aload_n d_Lw_law_690 rfl 6 rfl ?_
    refine y_iload d_Lw_law_691 1 rfl ?_
    refine y_iconst d_Lw_law_693 (v := 2) (by decide) ?_
    refine y_iadd d_Lw_law_694 (v := nI ((7 * j) + 2)) (nI_add _ _) ?_
    refine y_sld (v := zs g (7 * j + 2)) d_Lw_law_695 (vp_in_nI (by omega) (by omega)) (by rw [nI_clamp (by omega)]; rfl) ?_
    refine y_aload_n d_Lw_law_696 rfl 6 rfl ?_
    refine y_iload d_Lw_law_697 1 rfl ?_
    refine y_iconst d_Lw_law_699 (v := 3) (by decide) ?_
    refine y_iadd d_Lw_law_700 (v := nI ((7 * j) + 3)) (nI_add _ _) ?_
    refine y_sld (v := zs g (7 * j + 3)) d_Lw_law_701 (vp_in_nI (by omega) (by omega)) (by rw [nI_clamp (by omega)]; rfl) ?_
    refine yw_callVL (As := [.int (zs g (7 * j + 1)), .int (zs g (7 * j + 2)), .int (zs g (7 * j + 3))]) (rest := []) (ci := 12) rfl (fun wA hA => (IV.nil hA hI).rm) ln_Lw_219 w_im_Mm_isFed w_se_Mm_isFed ok_Lw_law_Mm_isFed d_Lw_law_702 (fun wA hA => K_Mm_isFed (IV.nil hA hI) _ _ _) rfl rfl (Nat.le_of_ble_eq_true rfl) (by omega) (by omega) (fun wA702 hA702 E wB702 hx => ?_) (fun wA702 hA702 v wB702 hx => ?_)
    · obtain ⟨⟨v8, e1⟩, -⟩ := hx
      cases e1
    · obtain ⟨⟨v8, e1⟩, u2, hI2⟩ := hx
      cases e1
      refine yw_st (st2 := [.int v8]) rfl ?_
      have hI := hI2
      refine y_base (cs := []) (z_I.nil _) ?_
      refine y_istore (lv' := [(7, .int v8), (6, .int v9), (5, .int (nI (7 * j))), (4, .ref (ad 70)), (3, .ref (ad 69)), (2, .ref (ad 52)), (1, .ref (ad 0)), (0, .ref (g.2.2 40))]) d_Lw_law_705 (by decide) rfl ?_
      refine y_goto (tgt := 1808) d_Lw_law_707 (by decide) ?_
      refine y_lv (lv' := [(5, .int (nI (7 * j))), (4, .ref (ad 70)), (3, .ref (ad 69)), (2, .ref (ad 52)), (1, .ref (ad 0)), (0, .ref (g.2.2 40))]) [2, 3, 4, 5, 6, 7] rfl ?_
      refine y_end (fun wC hC => ?_)
      exact LC_next (IV.nil hC hI) hR hJ hL ih (by omega) (by omega)
theorem d_Lw_law_710 : decode code 710 = .ok (.aload_n 1, 1) := by decide +kernel
theorem d_Lw_law_711 : decode code 711 = .ok (.aload_n 0, 1) := by decide +kernel
theorem d_Lw_law_712 : decode code 712 = .ok (.iload 5, 2) := by decide +kernel
theorem d_Lw_law_714 : decode code 714 = .ok (.iconst 1, 1) := by decide +kernel
theorem d_Lw_law_715 : decode code 715 = .ok (.iadd, 1) := by decide +kernel
theorem d_Lw_law_716 : decode code 716 = .ok (.iaload, 1) := by decide +kernel
theorem d_Lw_law_717 : decode code 717 = .ok (.aload_n 3, 1) := by decide +kernel
theorem d_Lw_law_718 : decode code 718 = .ok (.invokestatic 220, 3) := by decide +kernel
theorem ok_Lw_law_Lw_shrunk : z_okX M_Lw_law M_Lw_shrunk 3 := ⟨z_mem (i := 897) (by decide +kernel) (by decide +kernel), by decide, ⟨by decide +kernel, by decide +kernel, by decide +kernel⟩, ⟨by decide, by decide⟩, z_mem (i := 57) (by decide +kernel) (by decide +kernel), rfl⟩
theorem ln_Lw_220 : Cond.methodLink "IronpourLaw" 220 M_Lw_shrunk.1 ∈ z_gw := z_mem (i := 895) (by decide +kernel) (by decide +kernel)
theorem w_st_Lw_shrunk : Cond.static M_Lw_shrunk.1 ∈ z_gw := z_mem (i := 896) (by decide +kernel) (by decide +kernel)
theorem d_Lw_law_721 : decode code 721 = .ok (.istore 6, 2) := by decide +kernel
theorem d_Lw_law_723 : decode code 723 = .ok (.aload_n 2, 1) := by decide +kernel
theorem d_Lw_law_724 : decode code 724 = .ok (.aload_n 0, 1) := by decide +kernel
theorem d_Lw_law_725 : decode code 725 = .ok (.iload 5, 2) := by decide +kernel
theorem d_Lw_law_727 : decode code 727 = .ok (.iconst 1, 1) := by decide +kernel
theorem d_Lw_law_728 : decode code 728 = .ok (.iadd, 1) := by decide +kernel
theorem d_Lw_law_729 : decode code 729 = .ok (.iaload, 1) := by decide +kernel
theorem d_Lw_law_730 : decode code 730 = .ok (.invokevirtual 222, 3) := by decide +kernel
theorem ok_Lw_law_Mm_shrunk : z_ok M_Lw_law M_Mm_shrunk 1 := ⟨z_mem (i := 1809) (by decide +kernel) (by decide +kernel), rfl, ⟨by decide +kernel, by decide +kernel, by decide +kernel⟩, ⟨by decide, by decide⟩, z_mem (i := 71) (by decide +kernel) (by decide +kernel), rfl⟩
theorem ln_Lw_222 : Cond.methodLink "IronpourLaw" 222 M_Mm_shrunk.1 ∈ z_gw := z_mem (i := 1806) (by decide +kernel) (by decide +kernel)
theorem w_im_Mm_shrunk : Cond.instanceMethod M_Mm_shrunk.1 ∈ z_gw := z_mem (i := 1807) (by decide +kernel) (by decide +kernel)
theorem w_se_Mm_shrunk : Cond.selects M_Mm_shrunk.1.cls M_Mm_shrunk.1 M_Mm_shrunk.1 ∈ z_gw := z_mem (i := 1808) (by decide +kernel) (by decide +kernel)
theorem d_Lw_law_733 : decode code 733 = .ok (.istore 7, 2) := by decide +kernel
theorem d_Lw_law_735 : decode code 735 = .ok (.goto 1073, 3) := by decide +kernel
set_option maxHeartbeats 4000000 in
set_option maxRecDepth 100000 in
theorem LC_shrunk {g : zG} {ad : Nat → Nat} {t : zTT} {u : zNN} {w : zW} (hI : IV g ad t u w) (hR : REL t) {j r : Nat} (hJ : 7 * j + 7 ≤ g.2.2 41) (hL : g.2.2 41 < 2 ^ 31) (ih : LWI g ad j r) : DW g M_Lw_law lwQ w 710 [(5, .int (nI (7 * j))), (4, .ref (ad 70)), (3, .ref (ad 69)), (2, .ref (ad 52)), (1, .ref (ad 0)), (0, .ref (g.2.2 40))] [] (100 * (r + 1)) (1000 * (r + 1)) := by
  refine y_base (cs := []) (z_I.nil w) ?_
  refine y_aload_n d_Lw_law_710 rfl 4 rfl ?_
  refine y_aload_n d_Lw_law_711 rfl 5 rfl ?_
  refine y_iload d_Lw_law_712 0 rfl ?_
  refine y_iconst d_Lw_law_714 (v := 1) (by decide) ?_
  refine y_iadd d_Lw_law_715 (v := nI ((7 * j) + 1)) (nI_add _ _) ?_
  refine y_sld (v := zs g (7 * j + 1)) d_Lw_law_716 (vp_in_nI (by omega) (by omega)) (by rw [nI_clamp (by omega)]; rfl) ?_
  refine y_aload_n d_Lw_law_717 rfl 2 rfl ?_
  refine yw_callSX (As := [.ref (ad 0), .int (zs g (7 * j + 1)), .ref (ad 69)]) (rest := []) ln_Lw_220 w_st_Lw_shrunk ok_Lw_law_Lw_shrunk d_Lw_law_718 (fun wA hA => W_shrunk (IV.nil hA hI) _) rfl rfl (Nat.le_of_ble_eq_true rfl) (by omega) (by omega) (fun wA718 hA718 E wB718 hx => ?_) (fun wA718 hA718 v wB718 hx => ?_)
  · obtain ⟨⟨v9, e1⟩, -⟩ := hx
    cases e1
  · obtain ⟨⟨v9, e1⟩, u2, hI2⟩ := hx
    cases e1
    refine yw_st (st2 := [.int v9]) rfl ?_
    have hI := hI2
    refine y_base (cs := []) (z_I.nil _) ?_
    refine y_istore (lv' := [(6, .int v9), (5, .int (nI (7 * j))), (4, .ref (ad 70)), (3, .ref (ad 69)), (2, .ref (ad 52)), (1, .ref (ad 0)), (0, .ref (g.2.2 40))]) d_Lw_law_721 (by decide) rfl ?_
    refine y_aload_n d_Lw_law_723 rfl 4 rfl ?_
    refine y_aload_n d_Lw_law_724 rfl 6 rfl ?_
    refine y_iload d_Lw_law_725 1 rfl ?_
    refine y_iconst d_Lw_law_727 (v := 1) (by decide) ?_
    refine y_iadd d_Lw_law_728 (v := nI ((7 * j) + 1)) (nI_add _ _) ?_
    refine y_sld (v := zs g (7 * j + 1)) d_Lw_law_729 (vp_in_nI (by omega) (by omega)) (by rw [nI_clamp (by omega)]; rfl) ?_
    refine yw_callVL (As := [.int (zs g (7 * j + 1))]) (rest := []) (ci := 12) rfl (fun wA hA => (IV.nil hA hI).rm) ln_Lw_222 w_im_Mm_shrunk w_se_Mm_shrunk ok_Lw_law_Mm_shrunk d_Lw_law_730 (fun wA hA => K_Mm_shrunk (IV.nil hA hI) _) rfl rfl (Nat.le_of_ble_eq_true rfl) (by omega) (by omega) (fun wA730 hA730 E wB730 hx => ?_) (fun wA730 hA730 v wB730 hx => ?_)
    · obtain ⟨⟨v8, e1⟩, -⟩ := hx
      cases e1
    · obtain ⟨⟨v8, e1⟩, u2, hI2⟩ := hx
      cases e1
      refine yw_st (st2 := [.int v8]) rfl ?_
      have hI := hI2
      refine y_base (cs := []) (z_I.nil _) ?_
      refine y_istore (lv' := [(7, .int v8), (6, .int v9), (5, .int (nI (7 * j))), (4, .ref (ad 70)), (3, .ref (ad 69)), (2, .ref (ad 52)), (1, .ref (ad 0)), (0, .ref (g.2.2 40))]) d_Lw_law_733 (by decide) rfl ?_
      refine y_goto (tgt := 1808) d_Lw_law_735 (by decide) ?_
      refine y_lv (lv' := [(5, .int (nI (7 * j))), (4, .ref (ad 70)), (3, .ref (ad 69)), (2, .ref (ad 52)), (1, .ref (ad 0)), (0, .ref (g.2.2 40))]) [2, 3, 4, 5, 6, 7] rfl ?_
      refine y_end (fun wC hC => ?_)
      exact LC_next (IV.nil hC hI) hR hJ hL ih (by omega) (by omega)
theorem d_Lw_law_738 : decode code 738 = .ok (.aload_n 1, 1) := by decide +kernel
theorem d_Lw_law_739 : decode code 739 = .ok (.aload_n 0, 1) := by decide +kernel
theorem d_Lw_law_740 : decode code 740 = .ok (.iload 5, 2) := by decide +kernel
theorem d_Lw_law_742 : decode code 742 = .ok (.iconst 1, 1) := by decide +kernel
theorem d_Lw_law_743 : decode code 743 = .ok (.iadd, 1) := by decide +kernel
theorem d_Lw_law_744 : decode code 744 = .ok (.iaload, 1) := by decide +kernel
theorem d_Lw_law_745 : decode code 745 = .ok (.aload_n 3, 1) := by decide +kernel
theorem d_Lw_law_746 : decode code 746 = .ok (.invokestatic 223, 3) := by decide +kernel
theorem ok_Lw_law_Lw_shrunkAnew : z_okX M_Lw_law M_Lw_shrunkAnew 3 := ⟨z_mem (i := 908) (by decide +kernel) (by decide +kernel), by decide, ⟨by decide +kernel, by decide +kernel, by decide +kernel⟩, ⟨by decide, by decide⟩, z_mem (i := 57) (by decide +kernel) (by decide +kernel), rfl⟩
theorem ln_Lw_223 : Cond.methodLink "IronpourLaw" 223 M_Lw_shrunkAnew.1 ∈ z_gw := z_mem (i := 906) (by decide +kernel) (by decide +kernel)
theorem w_st_Lw_shrunkAnew : Cond.static M_Lw_shrunkAnew.1 ∈ z_gw := z_mem (i := 907) (by decide +kernel) (by decide +kernel)
theorem d_Lw_law_749 : decode code 749 = .ok (.istore 6, 2) := by decide +kernel
theorem d_Lw_law_751 : decode code 751 = .ok (.aload_n 2, 1) := by decide +kernel
theorem d_Lw_law_752 : decode code 752 = .ok (.aload_n 0, 1) := by decide +kernel
theorem d_Lw_law_753 : decode code 753 = .ok (.iload 5, 2) := by decide +kernel
theorem d_Lw_law_755 : decode code 755 = .ok (.iconst 1, 1) := by decide +kernel
theorem d_Lw_law_756 : decode code 756 = .ok (.iadd, 1) := by decide +kernel
theorem d_Lw_law_757 : decode code 757 = .ok (.iaload, 1) := by decide +kernel
theorem d_Lw_law_758 : decode code 758 = .ok (.invokevirtual 225, 3) := by decide +kernel
theorem ok_Lw_law_Mm_shrunkAnew : z_ok M_Lw_law M_Mm_shrunkAnew 1 := ⟨z_mem (i := 1817) (by decide +kernel) (by decide +kernel), rfl, ⟨by decide +kernel, by decide +kernel, by decide +kernel⟩, ⟨by decide, by decide⟩, z_mem (i := 71) (by decide +kernel) (by decide +kernel), rfl⟩
theorem ln_Lw_225 : Cond.methodLink "IronpourLaw" 225 M_Mm_shrunkAnew.1 ∈ z_gw := z_mem (i := 1814) (by decide +kernel) (by decide +kernel)
theorem w_im_Mm_shrunkAnew : Cond.instanceMethod M_Mm_shrunkAnew.1 ∈ z_gw := z_mem (i := 1815) (by decide +kernel) (by decide +kernel)
theorem w_se_Mm_shrunkAnew : Cond.selects M_Mm_shrunkAnew.1.cls M_Mm_shrunkAnew.1 M_Mm_shrunkAnew.1 ∈ z_gw := z_mem (i := 1816) (by decide +kernel) (by decide +kernel)
theorem d_Lw_law_761 : decode code 761 = .ok (.istore 7, 2) := by decide +kernel
theorem d_Lw_law_763 : decode code 763 = .ok (.goto 1045, 3) := by decide +kernel
set_option maxHeartbeats 4000000 in
set_option maxRecDepth 100000 in
theorem LC_shrunkAnew {g : zG} {ad : Nat → Nat} {t : zTT} {u : zNN} {w : zW} (hI : IV g ad t u w) (hR : REL t) {j r : Nat} (hJ : 7 * j + 7 ≤ g.2.2 41) (hL : g.2.2 41 < 2 ^ 31) (ih : LWI g ad j r) : DW g M_Lw_law lwQ w 738 [(5, .int (nI (7 * j))), (4, .ref (ad 70)), (3, .ref (ad 69)), (2, .ref (ad 52)), (1, .ref (ad 0)), (0, .ref (g.2.2 40))] [] (100 * (r + 1)) (1000 * (r + 1)) := by
  refine y_base (cs := []) (z_I.nil w) ?_
  refine y_aload_n d_Lw_law_738 rfl 4 rfl ?_
  refine y_aload_n d_Lw_law_739 rfl 5 rfl ?_
  refine y_iload d_Lw_law_740 0 rfl ?_
  refine y_iconst d_Lw_law_742 (v := 1) (by decide) ?_
  refine y_iadd d_Lw_law_743 (v := nI ((7 * j) + 1)) (nI_add _ _) ?_
  refine y_sld (v := zs g (7 * j + 1)) d_Lw_law_744 (vp_in_nI (by omega) (by omega)) (by rw [nI_clamp (by omega)]; rfl) ?_
  refine y_aload_n d_Lw_law_745 rfl 2 rfl ?_
  refine yw_callSX (As := [.ref (ad 0), .int (zs g (7 * j + 1)), .ref (ad 69)]) (rest := []) ln_Lw_223 w_st_Lw_shrunkAnew ok_Lw_law_Lw_shrunkAnew d_Lw_law_746 (fun wA hA => W_shrunkAnew (IV.nil hA hI) _) rfl rfl (Nat.le_of_ble_eq_true rfl) (by omega) (by omega) (fun wA746 hA746 E wB746 hx => ?_) (fun wA746 hA746 v wB746 hx => ?_)
  · obtain ⟨⟨v9, e1⟩, -⟩ := hx
    cases e1
  · obtain ⟨⟨v9, e1⟩, u2, hI2⟩ := hx
    cases e1
    refine yw_st (st2 := [.int v9]) rfl ?_
    have hI := hI2
    refine y_base (cs := []) (z_I.nil _) ?_
    refine y_istore (lv' := [(6, .int v9), (5, .int (nI (7 * j))), (4, .ref (ad 70)), (3, .ref (ad 69)), (2, .ref (ad 52)), (1, .ref (ad 0)), (0, .ref (g.2.2 40))]) d_Lw_law_749 (by decide) rfl ?_
    refine y_aload_n d_Lw_law_751 rfl 4 rfl ?_
    refine y_aload_n d_Lw_law_752 rfl 6 rfl ?_
    refine y_iload d_Lw_law_753 1 rfl ?_
    refine y_iconst d_Lw_law_755 (v := 1) (by decide) ?_
    refine y_iadd d_Lw_law_756 (v := nI ((7 * j) + 1)) (nI_add _ _) ?_
    refine y_sld (v := zs g (7 * j + 1)) d_Lw_law_757 (vp_in_nI (by omega) (by omega)) (by rw [nI_clamp (by omega)]; rfl) ?_
    refine yw_callVL (As := [.int (zs g (7 * j + 1))]) (rest := []) (ci := 12) rfl (fun wA hA => (IV.nil hA hI).rm) ln_Lw_225 w_im_Mm_shrunkAnew w_se_Mm_shrunkAnew ok_Lw_law_Mm_shrunkAnew d_Lw_law_758 (fun wA hA => K_Mm_shrunkAnew (IV.nil hA hI) _) rfl rfl (Nat.le_of_ble_eq_true rfl) (by omega) (by omega) (fun wA758 hA758 E wB758 hx => ?_) (fun wA758 hA758 v wB758 hx => ?_)
    · obtain ⟨⟨v8, e1⟩, -⟩ := hx
      cases e1
    · obtain ⟨⟨v8, e1⟩, u2, hI2⟩ := hx
      cases e1
      refine yw_st (st2 := [.int v8]) rfl ?_
      have hI := hI2
      refine y_base (cs := []) (z_I.nil _) ?_
      refine y_istore (lv' := [(7, .int v8), (6, .int v9), (5, .int (nI (7 * j))), (4, .ref (ad 70)), (3, .ref (ad 69)), (2, .ref (ad 52)), (1, .ref (ad 0)), (0, .ref (g.2.2 40))]) d_Lw_law_761 (by decide) rfl ?_
      refine y_goto (tgt := 1808) d_Lw_law_763 (by decide) ?_
      refine y_lv (lv' := [(5, .int (nI (7 * j))), (4, .ref (ad 70)), (3, .ref (ad 69)), (2, .ref (ad 52)), (1, .ref (ad 0)), (0, .ref (g.2.2 40))]) [2, 3, 4, 5, 6, 7] rfl ?_
      refine y_end (fun wC hC => ?_)
      exact LC_next (IV.nil hC hI) hR hJ hL ih (by omega) (by omega)
theorem d_Lw_law_766 : decode code 766 = .ok (.aload_n 1, 1) := by decide +kernel
theorem d_Lw_law_767 : decode code 767 = .ok (.aload_n 0, 1) := by decide +kernel
theorem d_Lw_law_768 : decode code 768 = .ok (.iload 5, 2) := by decide +kernel
theorem d_Lw_law_770 : decode code 770 = .ok (.iconst 1, 1) := by decide +kernel
theorem d_Lw_law_771 : decode code 771 = .ok (.iadd, 1) := by decide +kernel
theorem d_Lw_law_772 : decode code 772 = .ok (.iaload, 1) := by decide +kernel
theorem d_Lw_law_773 : decode code 773 = .ok (.aload_n 3, 1) := by decide +kernel
theorem d_Lw_law_774 : decode code 774 = .ok (.invokestatic 226, 3) := by decide +kernel
theorem ok_Lw_law_Lw_lastPlace : z_okX M_Lw_law M_Lw_lastPlace 3 := ⟨z_mem (i := 919) (by decide +kernel) (by decide +kernel), by decide, ⟨by decide +kernel, by decide +kernel, by decide +kernel⟩, ⟨by decide, by decide⟩, z_mem (i := 57) (by decide +kernel) (by decide +kernel), rfl⟩
theorem ln_Lw_226 : Cond.methodLink "IronpourLaw" 226 M_Lw_lastPlace.1 ∈ z_gw := z_mem (i := 917) (by decide +kernel) (by decide +kernel)
theorem w_st_Lw_lastPlace : Cond.static M_Lw_lastPlace.1 ∈ z_gw := z_mem (i := 918) (by decide +kernel) (by decide +kernel)
theorem d_Lw_law_777 : decode code 777 = .ok (.istore 6, 2) := by decide +kernel
theorem d_Lw_law_779 : decode code 779 = .ok (.aload_n 2, 1) := by decide +kernel
theorem d_Lw_law_780 : decode code 780 = .ok (.aload_n 0, 1) := by decide +kernel
theorem d_Lw_law_781 : decode code 781 = .ok (.iload 5, 2) := by decide +kernel
theorem d_Lw_law_783 : decode code 783 = .ok (.iconst 1, 1) := by decide +kernel
theorem d_Lw_law_784 : decode code 784 = .ok (.iadd, 1) := by decide +kernel
theorem d_Lw_law_785 : decode code 785 = .ok (.iaload, 1) := by decide +kernel
theorem d_Lw_law_786 : decode code 786 = .ok (.invokevirtual 228, 3) := by decide +kernel
theorem ok_Lw_law_Mm_lastPlace : z_ok M_Lw_law M_Mm_lastPlace 1 := ⟨z_mem (i := 1825) (by decide +kernel) (by decide +kernel), rfl, ⟨by decide +kernel, by decide +kernel, by decide +kernel⟩, ⟨by decide, by decide⟩, z_mem (i := 71) (by decide +kernel) (by decide +kernel), rfl⟩
theorem ln_Lw_228 : Cond.methodLink "IronpourLaw" 228 M_Mm_lastPlace.1 ∈ z_gw := z_mem (i := 1822) (by decide +kernel) (by decide +kernel)
theorem w_im_Mm_lastPlace : Cond.instanceMethod M_Mm_lastPlace.1 ∈ z_gw := z_mem (i := 1823) (by decide +kernel) (by decide +kernel)
theorem w_se_Mm_lastPlace : Cond.selects M_Mm_lastPlace.1.cls M_Mm_lastPlace.1 M_Mm_lastPlace.1 ∈ z_gw := z_mem (i := 1824) (by decide +kernel) (by decide +kernel)
theorem d_Lw_law_789 : decode code 789 = .ok (.istore 7, 2) := by decide +kernel
theorem d_Lw_law_791 : decode code 791 = .ok (.goto 1017, 3) := by decide +kernel
set_option maxHeartbeats 4000000 in
set_option maxRecDepth 100000 in
theorem LC_lastPlace {g : zG} {ad : Nat → Nat} {t : zTT} {u : zNN} {w : zW} (hI : IV g ad t u w) (hR : REL t) {j r : Nat} (hJ : 7 * j + 7 ≤ g.2.2 41) (hL : g.2.2 41 < 2 ^ 31) (ih : LWI g ad j r) : DW g M_Lw_law lwQ w 766 [(5, .int (nI (7 * j))), (4, .ref (ad 70)), (3, .ref (ad 69)), (2, .ref (ad 52)), (1, .ref (ad 0)), (0, .ref (g.2.2 40))] [] (100 * (r + 1)) (1000 * (r + 1)) := by
  refine y_base (cs := []) (z_I.nil w) ?_
  refine y_aload_n d_Lw_law_766 rfl 4 rfl ?_
  refine y_aload_n d_Lw_law_767 rfl 5 rfl ?_
  refine y_iload d_Lw_law_768 0 rfl ?_
  refine y_iconst d_Lw_law_770 (v := 1) (by decide) ?_
  refine y_iadd d_Lw_law_771 (v := nI ((7 * j) + 1)) (nI_add _ _) ?_
  refine y_sld (v := zs g (7 * j + 1)) d_Lw_law_772 (vp_in_nI (by omega) (by omega)) (by rw [nI_clamp (by omega)]; rfl) ?_
  refine y_aload_n d_Lw_law_773 rfl 2 rfl ?_
  refine yw_callSX (As := [.ref (ad 0), .int (zs g (7 * j + 1)), .ref (ad 69)]) (rest := []) ln_Lw_226 w_st_Lw_lastPlace ok_Lw_law_Lw_lastPlace d_Lw_law_774 (fun wA hA => W_lastPlace (IV.nil hA hI) _) rfl rfl (Nat.le_of_ble_eq_true rfl) (by omega) (by omega) (fun wA774 hA774 E wB774 hx => ?_) (fun wA774 hA774 v wB774 hx => ?_)
  · obtain ⟨⟨v9, e1⟩, -⟩ := hx
    cases e1
  · obtain ⟨⟨v9, e1⟩, u2, hI2⟩ := hx
    cases e1
    refine yw_st (st2 := [.int v9]) rfl ?_
    have hI := hI2
    refine y_base (cs := []) (z_I.nil _) ?_
    refine y_istore (lv' := [(6, .int v9), (5, .int (nI (7 * j))), (4, .ref (ad 70)), (3, .ref (ad 69)), (2, .ref (ad 52)), (1, .ref (ad 0)), (0, .ref (g.2.2 40))]) d_Lw_law_777 (by decide) rfl ?_
    refine y_aload_n d_Lw_law_779 rfl 4 rfl ?_
    refine y_aload_n d_Lw_law_780 rfl 6 rfl ?_
    refine y_iload d_Lw_law_781 1 rfl ?_
    refine y_iconst d_Lw_law_783 (v := 1) (by decide) ?_
    refine y_iadd d_Lw_law_784 (v := nI ((7 * j) + 1)) (nI_add _ _) ?_
    refine y_sld (v := zs g (7 * j + 1)) d_Lw_law_785 (vp_in_nI (by omega) (by omega)) (by rw [nI_clamp (by omega)]; rfl) ?_
    refine yw_callVL (As := [.int (zs g (7 * j + 1))]) (rest := []) (ci := 12) rfl (fun wA hA => (IV.nil hA hI).rm) ln_Lw_228 w_im_Mm_lastPlace w_se_Mm_lastPlace ok_Lw_law_Mm_lastPlace d_Lw_law_786 (fun wA hA => K_Mm_lastPlace (IV.nil hA hI) _) rfl rfl (Nat.le_of_ble_eq_true rfl) (by omega) (by omega) (fun wA786 hA786 E wB786 hx => ?_) (fun wA786 hA786 v wB786 hx => ?_)
    · obtain ⟨⟨v8, e1⟩, -⟩ := hx
      cases e1
    · obtain ⟨⟨v8, e1⟩, u2, hI2⟩ := hx
      cases e1
      refine yw_st (st2 := [.int v8]) rfl ?_
      have hI := hI2
      refine y_base (cs := []) (z_I.nil _) ?_
      refine y_istore (lv' := [(7, .int v8), (6, .int v9), (5, .int (nI (7 * j))), (4, .ref (ad 70)), (3, .ref (ad 69)), (2, .ref (ad 52)), (1, .ref (ad 0)), (0, .ref (g.2.2 40))]) d_Lw_law_789 (by decide) rfl ?_
      refine y_goto (tgt := 1808) d_Lw_law_791 (by decide) ?_
      refine y_lv (lv' := [(5, .int (nI (7 * j))), (4, .ref (ad 70)), (3, .ref (ad 69)), (2, .ref (ad 52)), (1, .ref (ad 0)), (0, .ref (g.2.2 40))]) [2, 3, 4, 5, 6, 7] rfl ?_
      refine y_end (fun wC hC => ?_)
      exact LC_next (IV.nil hC hI) hR hJ hL ih (by omega) (by omega)
theorem d_Lw_law_794 : decode code 794 = .ok (.aload_n 1, 1) := by decide +kernel
theorem d_Lw_law_795 : decode code 795 = .ok (.aload_n 0, 1) := by decide +kernel
theorem d_Lw_law_796 : decode code 796 = .ok (.iload 5, 2) := by decide +kernel
theorem d_Lw_law_798 : decode code 798 = .ok (.iconst 1, 1) := by decide +kernel
theorem d_Lw_law_799 : decode code 799 = .ok (.iadd, 1) := by decide +kernel
theorem d_Lw_law_800 : decode code 800 = .ok (.iaload, 1) := by decide +kernel
theorem d_Lw_law_801 : decode code 801 = .ok (.aload_n 3, 1) := by decide +kernel
theorem d_Lw_law_802 : decode code 802 = .ok (.invokestatic 229, 3) := by decide +kernel
theorem ok_Lw_law_Lw_bestFeeder : z_okX M_Lw_law M_Lw_bestFeeder 3 := ⟨z_mem (i := 931) (by decide +kernel) (by decide +kernel), by decide, ⟨by decide +kernel, by decide +kernel, by decide +kernel⟩, ⟨by decide, by decide⟩, z_mem (i := 57) (by decide +kernel) (by decide +kernel), rfl⟩
theorem ln_Lw_229 : Cond.methodLink "IronpourLaw" 229 M_Lw_bestFeeder.1 ∈ z_gw := z_mem (i := 929) (by decide +kernel) (by decide +kernel)
theorem w_st_Lw_bestFeeder : Cond.static M_Lw_bestFeeder.1 ∈ z_gw := z_mem (i := 930) (by decide +kernel) (by decide +kernel)
theorem d_Lw_law_805 : decode code 805 = .ok (.istore 6, 2) := by decide +kernel
theorem d_Lw_law_807 : decode code 807 = .ok (.aload_n 2, 1) := by decide +kernel
theorem d_Lw_law_808 : decode code 808 = .ok (.aload_n 0, 1) := by decide +kernel
theorem d_Lw_law_809 : decode code 809 = .ok (.iload 5, 2) := by decide +kernel
theorem d_Lw_law_811 : decode code 811 = .ok (.iconst 1, 1) := by decide +kernel
theorem d_Lw_law_812 : decode code 812 = .ok (.iadd, 1) := by decide +kernel
theorem d_Lw_law_813 : decode code 813 = .ok (.iaload, 1) := by decide +kernel
theorem d_Lw_law_814 : decode code 814 = .ok (.invokevirtual 231, 3) := by decide +kernel
theorem ok_Lw_law_Mm_bestFeeder : z_ok M_Lw_law M_Mm_bestFeeder 1 := ⟨z_mem (i := 1829) (by decide +kernel) (by decide +kernel), rfl, ⟨by decide +kernel, by decide +kernel, by decide +kernel⟩, ⟨by decide, by decide⟩, z_mem (i := 71) (by decide +kernel) (by decide +kernel), rfl⟩
theorem ln_Lw_231 : Cond.methodLink "IronpourLaw" 231 M_Mm_bestFeeder.1 ∈ z_gw := z_mem (i := 1826) (by decide +kernel) (by decide +kernel)
theorem w_im_Mm_bestFeeder : Cond.instanceMethod M_Mm_bestFeeder.1 ∈ z_gw := z_mem (i := 1827) (by decide +kernel) (by decide +kernel)
theorem w_se_Mm_bestFeeder : Cond.selects M_Mm_bestFeeder.1.cls M_Mm_bestFeeder.1 M_Mm_bestFeeder.1 ∈ z_gw := z_mem (i := 1828) (by decide +kernel) (by decide +kernel)
theorem d_Lw_law_817 : decode code 817 = .ok (.istore 7, 2) := by decide +kernel
theorem d_Lw_law_819 : decode code 819 = .ok (.goto 989, 3) := by decide +kernel
set_option maxHeartbeats 4000000 in
set_option maxRecDepth 100000 in
theorem LC_bestFeeder {g : zG} {ad : Nat → Nat} {t : zTT} {u : zNN} {w : zW} (hI : IV g ad t u w) (hR : REL t) {j r : Nat} (hJ : 7 * j + 7 ≤ g.2.2 41) (hL : g.2.2 41 < 2 ^ 31) (ih : LWI g ad j r) : DW g M_Lw_law lwQ w 794 [(5, .int (nI (7 * j))), (4, .ref (ad 70)), (3, .ref (ad 69)), (2, .ref (ad 52)), (1, .ref (ad 0)), (0, .ref (g.2.2 40))] [] (100 * (r + 1)) (1000 * (r + 1)) := by
  refine y_base (cs := []) (z_I.nil w) ?_
  refine y_aload_n d_Lw_law_794 rfl 4 rfl ?_
  refine y_aload_n d_Lw_law_795 rfl 5 rfl ?_
  refine y_iload d_Lw_law_796 0 rfl ?_
  refine y_iconst d_Lw_law_798 (v := 1) (by decide) ?_
  refine y_iadd d_Lw_law_799 (v := nI ((7 * j) + 1)) (nI_add _ _) ?_
  refine y_sld (v := zs g (7 * j + 1)) d_Lw_law_800 (vp_in_nI (by omega) (by omega)) (by rw [nI_clamp (by omega)]; rfl) ?_
  refine y_aload_n d_Lw_law_801 rfl 2 rfl ?_
  refine yw_callSX (As := [.ref (ad 0), .int (zs g (7 * j + 1)), .ref (ad 69)]) (rest := []) ln_Lw_229 w_st_Lw_bestFeeder ok_Lw_law_Lw_bestFeeder d_Lw_law_802 (fun wA hA => W_bestFeeder (IV.nil hA hI) _) rfl rfl (Nat.le_of_ble_eq_true rfl) (by omega) (by omega) (fun wA802 hA802 E wB802 hx => ?_) (fun wA802 hA802 v wB802 hx => ?_)
  · obtain ⟨⟨v9, e1⟩, -⟩ := hx
    cases e1
  · obtain ⟨⟨v9, e1⟩, u2, hI2⟩ := hx
    cases e1
    refine yw_st (st2 := [.int v9]) rfl ?_
    have hI := hI2
    refine y_base (cs := []) (z_I.nil _) ?_
    refine y_istore (lv' := [(6, .int v9), (5, .int (nI (7 * j))), (4, .ref (ad 70)), (3, .ref (ad 69)), (2, .ref (ad 52)), (1, .ref (ad 0)), (0, .ref (g.2.2 40))]) d_Lw_law_805 (by decide) rfl ?_
    refine y_aload_n d_Lw_law_807 rfl 4 rfl ?_
    refine y_aload_n d_Lw_law_808 rfl 6 rfl ?_
    refine y_iload d_Lw_law_809 1 rfl ?_
    refine y_iconst d_Lw_law_811 (v := 1) (by decide) ?_
    refine y_iadd d_Lw_law_812 (v := nI ((7 * j) + 1)) (nI_add _ _) ?_
    refine y_sld (v := zs g (7 * j + 1)) d_Lw_law_813 (vp_in_nI (by omega) (by omega)) (by rw [nI_clamp (by omega)]; rfl) ?_
    refine yw_callVL (As := [.int (zs g (7 * j + 1))]) (rest := []) (ci := 12) rfl (fun wA hA => (IV.nil hA hI).rm) ln_Lw_231 w_im_Mm_bestFeeder w_se_Mm_bestFeeder ok_Lw_law_Mm_bestFeeder d_Lw_law_814 (fun wA hA => K_Mm_bestFeeder (IV.nil hA hI) _) rfl rfl (Nat.le_of_ble_eq_true rfl) (by omega) (by omega) (fun wA814 hA814 E wB814 hx => ?_) (fun wA814 hA814 v wB814 hx => ?_)
    · obtain ⟨⟨v8, e1⟩, -⟩ := hx
      cases e1
    · obtain ⟨⟨v8, e1⟩, u2, hI2⟩ := hx
      cases e1
      refine yw_st (st2 := [.int v8]) rfl ?_
      have hI := hI2
      refine y_base (cs := []) (z_I.nil _) ?_
      refine y_istore (lv' := [(7, .int v8), (6, .int v9), (5, .int (nI (7 * j))), (4, .ref (ad 70)), (3, .ref (ad 69)), (2, .ref (ad 52)), (1, .ref (ad 0)), (0, .ref (g.2.2 40))]) d_Lw_law_817 (by decide) rfl ?_
      refine y_goto (tgt := 1808) d_Lw_law_819 (by decide) ?_
      refine y_lv (lv' := [(5, .int (nI (7 * j))), (4, .ref (ad 70)), (3, .ref (ad 69)), (2, .ref (ad 52)), (1, .ref (ad 0)), (0, .ref (g.2.2 40))]) [2, 3, 4, 5, 6, 7] rfl ?_
      refine y_end (fun wC hC => ?_)
      exact LC_next (IV.nil hC hI) hR hJ hL ih (by omega) (by omega)
theorem d_Lw_law_822 : decode code 822 = .ok (.aload_n 1, 1) := by decide +kernel
theorem d_Lw_law_823 : decode code 823 = .ok (.aload_n 0, 1) := by decide +kernel
theorem d_Lw_law_824 : decode code 824 = .ok (.iload 5, 2) := by decide +kernel
theorem d_Lw_law_826 : decode code 826 = .ok (.iconst 1, 1) := by decide +kernel
theorem d_Lw_law_827 : decode code 827 = .ok (.iadd, 1) := by decide +kernel
theorem d_Lw_law_828 : decode code 828 = .ok (.iaload, 1) := by decide +kernel
theorem d_Lw_law_829 : decode code 829 = .ok (.aload_n 0, 1) := by decide +kernel
theorem d_Lw_law_830 : decode code 830 = .ok (.iload 5, 2) := by decide +kernel
theorem d_Lw_law_832 : decode code 832 = .ok (.iconst 2, 1) := by decide +kernel
theorem d_Lw_law_833 : decode code 833 = .ok (.iadd, 1) := by decide +kernel
theorem d_Lw_law_834 : decode code 834 = .ok (.iaload, 1) := by decide +kernel
theorem d_Lw_law_835 : decode code 835 = .ok (.aload_n 0, 1) := by decide +kernel
theorem d_Lw_law_836 : decode code 836 = .ok (.iload 5, 2) := by decide +kernel
theorem d_Lw_law_838 : decode code 838 = .ok (.iconst 3, 1) := by decide +kernel
theorem d_Lw_law_839 : decode code 839 = .ok (.iadd, 1) := by decide +kernel
theorem d_Lw_law_840 : decode code 840 = .ok (.iaload, 1) := by decide +kernel
theorem d_Lw_law_841 : decode code 841 = .ok (.aload_n 0, 1) := by decide +kernel
theorem d_Lw_law_842 : decode code 842 = .ok (.iload 5, 2) := by decide +kernel
theorem d_Lw_law_844 : decode code 844 = .ok (.iconst 4, 1) := by decide +kernel
theorem d_Lw_law_845 : decode code 845 = .ok (.iadd, 1) := by decide +kernel
theorem d_Lw_law_846 : decode code 846 = .ok (.iaload, 1) := by decide +kernel
theorem d_Lw_law_847 : decode code 847 = .ok (.aload_n 3, 1) := by decide +kernel
theorem d_Lw_law_848 : decode code 848 = .ok (.invokestatic 232, 3) := by decide +kernel
theorem ok_Lw_law_Lw_mill : z_okX M_Lw_law M_Lw_mill 6 := ⟨z_mem (i := 947) (by decide +kernel) (by decide +kernel), by decide, ⟨by decide +kernel, by decide +kernel, by decide +kernel⟩, ⟨by decide, by decide⟩, z_mem (i := 57) (by decide +kernel) (by decide +kernel), rfl⟩
theorem ln_Lw_232 : Cond.methodLink "IronpourLaw" 232 M_Lw_mill.1 ∈ z_gw := z_mem (i := 945) (by decide +kernel) (by decide +kernel)
theorem w_st_Lw_mill : Cond.static M_Lw_mill.1 ∈ z_gw := z_mem (i := 946) (by decide +kernel) (by decide +kernel)
theorem d_Lw_law_851 : decode code 851 = .ok (.istore 6, 2) := by decide +kernel
theorem d_Lw_law_853 : decode code 853 = .ok (.aload_n 2, 1) := by decide +kernel
theorem d_Lw_law_854 : decode code 854 = .ok (.aload_n 0, 1) := by decide +kernel
theorem d_Lw_law_855 : decode code 855 = .ok (.iload 5, 2) := by decide +kernel
theorem d_Lw_law_857 : decode code 857 = .ok (.iconst 1, 1) := by decide +kernel
theorem d_Lw_law_858 : decode code 858 = .ok (.iadd, 1) := by decide +kernel
theorem d_Lw_law_859 : decode code 859 = .ok (.iaload, 1) := by decide +kernel
theorem d_Lw_law_860 : decode code 860 = .ok (.aload_n 0, 1) := by decide +kernel
theorem d_Lw_law_861 : decode code 861 = .ok (.iload 5, 2) := by decide +kernel
theorem d_Lw_law_863 : decode code 863 = .ok (.iconst 2, 1) := by decide +kernel
theorem d_Lw_law_864 : decode code 864 = .ok (.iadd, 1) := by decide +kernel
theorem d_Lw_law_865 : decode code 865 = .ok (.iaload, 1) := by decide +kernel
theorem d_Lw_law_866 : decode code 866 = .ok (.aload_n 0, 1) := by decide +kernel
theorem d_Lw_law_867 : decode code 867 = .ok (.iload 5, 2) := by decide +kernel
theorem d_Lw_law_869 : decode code 869 = .ok (.iconst 3, 1) := by decide +kernel
theorem d_Lw_law_870 : decode code 870 = .ok (.iadd, 1) := by decide +kernel
theorem d_Lw_law_871 : decode code 871 = .ok (.iaload, 1) := by decide +kernel
theorem d_Lw_law_872 : decode code 872 = .ok (.aload_n 0, 1) := by decide +kernel
theorem d_Lw_law_873 : decode code 873 = .ok (.iload 5, 2) := by decide +kernel
theorem d_Lw_law_875 : decode code 875 = .ok (.iconst 4, 1) := by decide +kernel
theorem d_Lw_law_876 : decode code 876 = .ok (.iadd, 1) := by decide +kernel
theorem d_Lw_law_877 : decode code 877 = .ok (.iaload, 1) := by decide +kernel
theorem d_Lw_law_878 : decode code 878 = .ok (.invokevirtual 234, 3) := by decide +kernel
theorem ok_Lw_law_Mm_mill : z_ok M_Lw_law M_Mm_mill 4 := ⟨z_mem (i := 1838) (by decide +kernel) (by decide +kernel), rfl, ⟨by decide +kernel, by decide +kernel, by decide +kernel⟩, ⟨by decide, by decide⟩, z_mem (i := 71) (by decide +kernel) (by decide +kernel), rfl⟩
theorem ln_Lw_234 : Cond.methodLink "IronpourLaw" 234 M_Mm_mill.1 ∈ z_gw := z_mem (i := 1835) (by decide +kernel) (by decide +kernel)
theorem w_im_Mm_mill : Cond.instanceMethod M_Mm_mill.1 ∈ z_gw := z_mem (i := 1836) (by decide +kernel) (by decide +kernel)
theorem w_se_Mm_mill : Cond.selects M_Mm_mill.1.cls M_Mm_mill.1 M_Mm_mill.1 ∈ z_gw := z_mem (i := 1837) (by decide +kernel) (by decide +kernel)
theorem d_Lw_law_881 : decode code 881 = .ok (.istore 7, 2) := by decide +kernel
theorem d_Lw_law_883 : decode code 883 = .ok (.goto 925, 3) := by decide +kernel
set_option maxHeartbeats 4000000 in
set_option maxRecDepth 100000 in
theorem LC_mill {g : zG} {ad : Nat → Nat} {t : zTT} {u : zNN} {w : zW} (hI : IV g ad t u w) (hR : REL t) {j r : Nat} (hJ : 7 * j + 7 ≤ g.2.2 41) (hL : g.2.2 41 < 2 ^ 31) (ih : LWI g ad j r) : DW g M_Lw_law lwQ w 822 [(5, .int (nI (7 * j))), (4, .ref (ad 70)), (3, .ref (ad 69)), (2, .ref (ad 52)), (1, .ref (ad 0)), (0, .ref (g.2.2 40))] [] (100 * (r + 1)) (1000 * (r + 1)) := by
  refine y_base (cs := []) (z_I.nil w) ?_
  refine y_aload_n d_Lw_law_822 rfl 4 rfl ?_
  refine y_aload_n d_Lw_law_823 rfl 5 rfl ?_
  refine y_iload d_Lw_law_824 0 rfl ?_
  refine y_iconst d_Lw_law_826 (v := 1) (by decide) ?_
  refine y_iadd d_Lw_law_827 (v := nI ((7 * j) + 1)) (nI_add _ _) ?_
  refine y_sld (v := zs g (7 * j + 1)) d_Lw_law_828 (vp_in_nI (by omega) (by omega)) (by rw [nI_clamp (by omega)]; rfl) ?_
  refine y_aload_n d_Lw_law_829 rfl 5 rfl ?_
  refine y_iload d_Lw_law_830 0 rfl ?_
  refine y_iconst d_Lw_law_832 (v := 2) (by decide) ?_
  refine y_iadd d_Lw_law_833 (v := nI ((7 * j) + 2)) (nI_add _ _) ?_
  refine y_sld (v := zs g (7 * j + 2)) d_Lw_law_834 (vp_in_nI (by omega) (by omega)) (by rw [nI_clamp (by omega)]; rfl) ?_
  refine y_aload_n d_Lw_law_835 rfl 5 rfl ?_
  refine y_iload d_Lw_law_836 0 rfl ?_
  refine y_iconst d_Lw_law_838 (v := 3) (by decide) ?_
  refine y_iadd d_Lw_law_839 (v := nI ((7 * j) + 3)) (nI_add _ _) ?_
  refine y_sld (v := zs g (7 * j + 3)) d_Lw_law_840 (vp_in_nI (by omega) (by omega)) (by rw [nI_clamp (by omega)]; rfl) ?_
  refine y_aload_n d_Lw_law_841 rfl 5 rfl ?_
  refine y_iload d_Lw_law_842 0 rfl ?_
  refine y_iconst d_Lw_law_844 (v := 4) (by decide) ?_
  refine y_iadd d_Lw_law_845 (v := nI ((7 * j) + 4)) (nI_add _ _) ?_
  refine y_sld (v := zs g (7 * j + 4)) d_Lw_law_846 (vp_in_nI (by omega) (by omega)) (by rw [nI_clamp (by omega)]; rfl) ?_
  refine y_aload_n d_Lw_law_847 rfl 2 rfl ?_
  refine yw_callSX (As := [.ref (ad 0), .int (zs g (7 * j + 1)), .int (zs g (7 * j + 2)), .int (zs g (7 * j + 3)), .int (zs g (7 * j + 4)), .ref (ad 69)]) (rest := []) ln_Lw_232 w_st_Lw_mill ok_Lw_law_Lw_mill d_Lw_law_848 (fun wA hA => W_mill (IV.nil hA hI) _ _ _ _) rfl rfl (Nat.le_of_ble_eq_true rfl) (by omega) (by omega) (fun wA848 hA848 E wB848 hx => ?_) (fun wA848 hA848 v wB848 hx => ?_)
  · obtain ⟨⟨v9, e1⟩, -⟩ := hx
    cases e1
  · obtain ⟨⟨v9, e1⟩, u2, hI2⟩ := hx
    cases e1
    refine yw_st (st2 := [.int v9]) rfl ?_
    have hI := hI2
    refine y_base (cs := []) (z_I.nil _) ?_
    refine y_istore (lv' := [(6, .int v9), (5, .int (nI (7 * j))), (4, .ref (ad 70)), (3, .ref (ad 69)), (2, .ref (ad 52)), (1, .ref (ad 0)), (0, .ref (g.2.2 40))]) d_Lw_law_851 (by decide) rfl ?_
    refine y_aload_n d_Lw_law_853 rfl 4 rfl ?_
    refine y_aload_n d_Lw_law_854 rfl 6 rfl ?_
    refine y_iload d_Lw_law_855 1 rfl ?_
    refine y_iconst d_Lw_law_857 (v := 1) (by decide) ?_
    refine y_iadd d_Lw_law_858 (v := nI ((7 * j) + 1)) (nI_add _ _) ?_
    refine y_sld (v := zs g (7 * j + 1)) d_Lw_law_859 (vp_in_nI (by omega) (by omega)) (by rw [nI_clamp (by omega)]; rfl) ?_
    refine y_aload_n d_Lw_law_860 rfl 6 rfl ?_
    refine y_iload d_Lw_law_861 1 rfl ?_
    refine y_iconst d_Lw_law_863 (v := 2) (by decide) ?_
    refine y_iadd d_Lw_law_864 (v := nI ((7 * j) + 2)) (nI_add _ _) ?_
    refine y_sld (v := zs g (7 * j + 2)) d_Lw_law_865 (vp_in_nI (by omega) (by omega)) (by rw [nI_clamp (by omega)]; rfl) ?_
    refine y_aload_n d_Lw_law_866 rfl 6 rfl ?_
    refine y_iload d_Lw_law_867 1 rfl ?_
    refine y_iconst d_Lw_law_869 (v := 3) (by decide) ?_
    refine y_iadd d_Lw_law_870 (v := nI ((7 * j) + 3)) (nI_add _ _) ?_
    refine y_sld (v := zs g (7 * j + 3)) d_Lw_law_871 (vp_in_nI (by omega) (by omega)) (by rw [nI_clamp (by omega)]; rfl) ?_
    refine y_aload_n d_Lw_law_872 rfl 6 rfl ?_
    refine y_iload d_Lw_law_873 1 rfl ?_
    refine y_iconst d_Lw_law_875 (v := 4) (by decide) ?_
    refine y_iadd d_Lw_law_876 (v := nI ((7 * j) + 4)) (nI_add _ _) ?_
    refine y_sld (v := zs g (7 * j + 4)) d_Lw_law_877 (vp_in_nI (by omega) (by omega)) (by rw [nI_clamp (by omega)]; rfl) ?_
    refine yw_callVL (As := [.int (zs g (7 * j + 1)), .int (zs g (7 * j + 2)), .int (zs g (7 * j + 3)), .int (zs g (7 * j + 4))]) (rest := []) (ci := 12) rfl (fun wA hA => (IV.nil hA hI).rm) ln_Lw_234 w_im_Mm_mill w_se_Mm_mill ok_Lw_law_Mm_mill d_Lw_law_878 (fun wA hA => K_Mm_mill (IV.nil hA hI) _ _ _ _) rfl rfl (Nat.le_of_ble_eq_true rfl) (by omega) (by omega) (fun wA878 hA878 E wB878 hx => ?_) (fun wA878 hA878 v wB878 hx => ?_)
    · obtain ⟨⟨v8, e1⟩, -⟩ := hx
      cases e1
    · obtain ⟨⟨v8, e1⟩, u2, hI2⟩ := hx
      cases e1
      refine yw_st (st2 := [.int v8]) rfl ?_
      have hI := hI2
      refine y_base (cs := []) (z_I.nil _) ?_
      refine y_istore (lv' := [(7, .int v8), (6, .int v9), (5, .int (nI (7 * j))), (4, .ref (ad 70)), (3, .ref (ad 69)), (2, .ref (ad 52)), (1, .ref (ad 0)), (0, .ref (g.2.2 40))]) d_Lw_law_881 (by decide) rfl ?_
      refine y_goto (tgt := 1808) d_Lw_law_883 (by decide) ?_
      refine y_lv (lv' := [(5, .int (nI (7 * j))), (4, .ref (ad 70)), (3, .ref (ad 69)), (2, .ref (ad 52)), (1, .ref (ad 0)), (0, .ref (g.2.2 40))]) [2, 3, 4, 5, 6, 7] rfl ?_
      refine y_end (fun wC hC => ?_)
      exact LC_next (IV.nil hC hI) hR hJ hL ih (by omega) (by omega)
theorem d_Lw_law_886 : decode code 886 = .ok (.aload_n 1, 1) := by decide +kernel
theorem d_Lw_law_887 : decode code 887 = .ok (.aload_n 0, 1) := by decide +kernel
theorem d_Lw_law_888 : decode code 888 = .ok (.iload 5, 2) := by decide +kernel
theorem d_Lw_law_890 : decode code 890 = .ok (.iconst 1, 1) := by decide +kernel
theorem d_Lw_law_891 : decode code 891 = .ok (.iadd, 1) := by decide +kernel
theorem d_Lw_law_892 : decode code 892 = .ok (.iaload, 1) := by decide +kernel
theorem d_Lw_law_893 : decode code 893 = .ok (.i2c, 1) := by decide +kernel
theorem d_Lw_law_894 : decode code 894 = .ok (.aload_n 3, 1) := by decide +kernel
theorem d_Lw_law_895 : decode code 895 = .ok (.invokestatic 235, 3) := by decide +kernel
theorem ok_Lw_law_Lw_sand : z_okX M_Lw_law M_Lw_sand 3 := ⟨z_mem (i := 968) (by decide +kernel) (by decide +kernel), by decide, ⟨by decide +kernel, by decide +kernel, by decide +kernel⟩, ⟨by decide, by decide⟩, z_mem (i := 57) (by decide +kernel) (by decide +kernel), rfl⟩
theorem ln_Lw_235 : Cond.methodLink "IronpourLaw" 235 M_Lw_sand.1 ∈ z_gw := z_mem (i := 966) (by decide +kernel) (by decide +kernel)
theorem w_st_Lw_sand : Cond.static M_Lw_sand.1 ∈ z_gw := z_mem (i := 967) (by decide +kernel) (by decide +kernel)
theorem d_Lw_law_898 : decode code 898 = .ok (.istore 6, 2) := by decide +kernel
theorem d_Lw_law_900 : decode code 900 = .ok (.aload_n 2, 1) := by decide +kernel
theorem d_Lw_law_901 : decode code 901 = .ok (.aload_n 0, 1) := by decide +kernel
theorem d_Lw_law_902 : decode code 902 = .ok (.iload 5, 2) := by decide +kernel
theorem d_Lw_law_904 : decode code 904 = .ok (.iconst 1, 1) := by decide +kernel
theorem d_Lw_law_905 : decode code 905 = .ok (.iadd, 1) := by decide +kernel
theorem d_Lw_law_906 : decode code 906 = .ok (.iaload, 1) := by decide +kernel
theorem d_Lw_law_907 : decode code 907 = .ok (.i2c, 1) := by decide +kernel
theorem d_Lw_law_908 : decode code 908 = .ok (.invokevirtual 238, 3) := by decide +kernel
theorem ok_Lw_law_Mm_sand : z_ok M_Lw_law M_Mm_sand 1 := ⟨z_mem (i := 1851) (by decide +kernel) (by decide +kernel), rfl, ⟨by decide +kernel, by decide +kernel, by decide +kernel⟩, ⟨by decide, by decide⟩, z_mem (i := 71) (by decide +kernel) (by decide +kernel), rfl⟩
theorem ln_Lw_238 : Cond.methodLink "IronpourLaw" 238 M_Mm_sand.1 ∈ z_gw := z_mem (i := 1848) (by decide +kernel) (by decide +kernel)
theorem w_im_Mm_sand : Cond.instanceMethod M_Mm_sand.1 ∈ z_gw := z_mem (i := 1849) (by decide +kernel) (by decide +kernel)
theorem w_se_Mm_sand : Cond.selects M_Mm_sand.1.cls M_Mm_sand.1 M_Mm_sand.1 ∈ z_gw := z_mem (i := 1850) (by decide +kernel) (by decide +kernel)
theorem d_Lw_law_911 : decode code 911 = .ok (.istore 7, 2) := by decide +kernel
theorem d_Lw_law_913 : decode code 913 = .ok (.goto 895, 3) := by decide +kernel
set_option maxHeartbeats 4000000 in
set_option maxRecDepth 100000 in
theorem LC_sand {g : zG} {ad : Nat → Nat} {t : zTT} {u : zNN} {w : zW} (hI : IV g ad t u w) (hR : REL t) {j r : Nat} (hJ : 7 * j + 7 ≤ g.2.2 41) (hL : g.2.2 41 < 2 ^ 31) (ih : LWI g ad j r) : DW g M_Lw_law lwQ w 886 [(5, .int (nI (7 * j))), (4, .ref (ad 70)), (3, .ref (ad 69)), (2, .ref (ad 52)), (1, .ref (ad 0)), (0, .ref (g.2.2 40))] [] (100 * (r + 1)) (1000 * (r + 1)) := by
  refine y_base (cs := []) (z_I.nil w) ?_
  refine y_aload_n d_Lw_law_886 rfl 4 rfl ?_
  refine y_aload_n d_Lw_law_887 rfl 5 rfl ?_
  refine y_iload d_Lw_law_888 0 rfl ?_
  refine y_iconst d_Lw_law_890 (v := 1) (by decide) ?_
  refine y_iadd d_Lw_law_891 (v := nI ((7 * j) + 1)) (nI_add _ _) ?_
  refine y_sld (v := zs g (7 * j + 1)) d_Lw_law_892 (vp_in_nI (by omega) (by omega)) (by rw [nI_clamp (by omega)]; rfl) ?_
  refine y_i2c d_Lw_law_893 (v := zc g (7 * j + 1)) rfl ?_
  refine y_aload_n d_Lw_law_894 rfl 2 rfl ?_
  refine yw_callSX (As := [.ref (ad 0), .int (zc g (7 * j + 1)), .ref (ad 69)]) (rest := []) ln_Lw_235 w_st_Lw_sand ok_Lw_law_Lw_sand d_Lw_law_895 (fun wA hA => W_sand (IV.nil hA hI) _) rfl rfl (Nat.le_of_ble_eq_true rfl) (by omega) (by omega) (fun wA895 hA895 E wB895 hx => ?_) (fun wA895 hA895 v wB895 hx => ?_)
  · obtain ⟨⟨v9, e1⟩, -⟩ := hx
    cases e1
  · obtain ⟨⟨v9, e1⟩, u2, hI2⟩ := hx
    cases e1
    refine yw_st (st2 := [.int v9]) rfl ?_
    have hI := hI2
    refine y_base (cs := []) (z_I.nil _) ?_
    refine y_istore (lv' := [(6, .int v9), (5, .int (nI (7 * j))), (4, .ref (ad 70)), (3, .ref (ad 69)), (2, .ref (ad 52)), (1, .ref (ad 0)), (0, .ref (g.2.2 40))]) d_Lw_law_898 (by decide) rfl ?_
    refine y_aload_n d_Lw_law_900 rfl 4 rfl ?_
    refine y_aload_n d_Lw_law_901 rfl 6 rfl ?_
    refine y_iload d_Lw_law_902 1 rfl ?_
    refine y_iconst d_Lw_law_904 (v := 1) (by decide) ?_
    refine y_iadd d_Lw_law_905 (v := nI ((7 * j) + 1)) (nI_add _ _) ?_
    refine y_sld (v := zs g (7 * j + 1)) d_Lw_law_906 (vp_in_nI (by omega) (by omega)) (by rw [nI_clamp (by omega)]; rfl) ?_
    refine y_i2c d_Lw_law_907 (v := zc g (7 * j + 1)) rfl ?_
    refine yw_callVL (As := [.int (zc g (7 * j + 1))]) (rest := []) (ci := 12) rfl (fun wA hA => (IV.nil hA hI).rm) ln_Lw_238 w_im_Mm_sand w_se_Mm_sand ok_Lw_law_Mm_sand d_Lw_law_908 (fun wA hA => K_Mm_sand (IV.nil hA hI) _) rfl rfl (Nat.le_of_ble_eq_true rfl) (by omega) (by omega) (fun wA908 hA908 E wB908 hx => ?_) (fun wA908 hA908 v wB908 hx => ?_)
    · obtain ⟨⟨v8, e1⟩, -⟩ := hx
      cases e1
    · obtain ⟨⟨v8, e1⟩, u2, hI2⟩ := hx
      cases e1
      refine yw_st (st2 := [.int v8]) rfl ?_
      have hI := hI2
      refine y_base (cs := []) (z_I.nil _) ?_
      refine y_istore (lv' := [(7, .int v8), (6, .int v9), (5, .int (nI (7 * j))), (4, .ref (ad 70)), (3, .ref (ad 69)), (2, .ref (ad 52)), (1, .ref (ad 0)), (0, .ref (g.2.2 40))]) d_Lw_law_911 (by decide) rfl ?_
      refine y_goto (tgt := 1808) d_Lw_law_913 (by decide) ?_
      refine y_lv (lv' := [(5, .int (nI (7 * j))), (4, .ref (ad 70)), (3, .ref (ad 69)), (2, .ref (ad 52)), (1, .ref (ad 0)), (0, .ref (g.2.2 40))]) [2, 3, 4, 5, 6, 7] rfl ?_
      refine y_end (fun wC hC => ?_)
      exact LC_next (IV.nil hC hI) hR hJ hL ih (by omega) (by omega)
theorem d_Lw_law_916 : decode code 916 = .ok (.aload_n 1, 1) := by decide +kernel
theorem d_Lw_law_917 : decode code 917 = .ok (.aload_n 0, 1) := by decide +kernel
theorem d_Lw_law_918 : decode code 918 = .ok (.iload 5, 2) := by decide +kernel
theorem d_Lw_law_920 : decode code 920 = .ok (.iconst 1, 1) := by decide +kernel
theorem d_Lw_law_921 : decode code 921 = .ok (.iadd, 1) := by decide +kernel
theorem d_Lw_law_922 : decode code 922 = .ok (.iaload, 1) := by decide +kernel
theorem d_Lw_law_923 : decode code 923 = .ok (.aload_n 0, 1) := by decide +kernel
theorem d_Lw_law_924 : decode code 924 = .ok (.iload 5, 2) := by decide +kernel
theorem d_Lw_law_926 : decode code 926 = .ok (.iconst 2, 1) := by decide +kernel
theorem d_Lw_law_927 : decode code 927 = .ok (.iadd, 1) := by decide +kernel
theorem d_Lw_law_928 : decode code 928 = .ok (.iaload, 1) := by decide +kernel
theorem d_Lw_law_929 : decode code 929 = .ok (.aload_n 3, 1) := by decide +kernel
theorem d_Lw_law_930 : decode code 930 = .ok (.invokestatic 239, 3) := by decide +kernel
theorem ok_Lw_law_Lw_makeCores : z_okX M_Lw_law M_Lw_makeCores 4 := ⟨z_mem (i := 980) (by decide +kernel) (by decide +kernel), by decide, ⟨by decide +kernel, by decide +kernel, by decide +kernel⟩, ⟨by decide, by decide⟩, z_mem (i := 57) (by decide +kernel) (by decide +kernel), rfl⟩
theorem ln_Lw_239 : Cond.methodLink "IronpourLaw" 239 M_Lw_makeCores.1 ∈ z_gw := z_mem (i := 978) (by decide +kernel) (by decide +kernel)
theorem w_st_Lw_makeCores : Cond.static M_Lw_makeCores.1 ∈ z_gw := z_mem (i := 979) (by decide +kernel) (by decide +kernel)
theorem d_Lw_law_933 : decode code 933 = .ok (.istore 6, 2) := by decide +kernel
theorem d_Lw_law_935 : decode code 935 = .ok (.aload_n 2, 1) := by decide +kernel
theorem d_Lw_law_936 : decode code 936 = .ok (.aload_n 0, 1) := by decide +kernel
theorem d_Lw_law_937 : decode code 937 = .ok (.iload 5, 2) := by decide +kernel
theorem d_Lw_law_939 : decode code 939 = .ok (.iconst 1, 1) := by decide +kernel
theorem d_Lw_law_940 : decode code 940 = .ok (.iadd, 1) := by decide +kernel
theorem d_Lw_law_941 : decode code 941 = .ok (.iaload, 1) := by decide +kernel
theorem d_Lw_law_942 : decode code 942 = .ok (.aload_n 0, 1) := by decide +kernel
theorem d_Lw_law_943 : decode code 943 = .ok (.iload 5, 2) := by decide +kernel
theorem d_Lw_law_945 : decode code 945 = .ok (.iconst 2, 1) := by decide +kernel
theorem d_Lw_law_946 : decode code 946 = .ok (.iadd, 1) := by decide +kernel
theorem d_Lw_law_947 : decode code 947 = .ok (.iaload, 1) := by decide +kernel
theorem d_Lw_law_948 : decode code 948 = .ok (.invokevirtual 241, 3) := by decide +kernel
theorem ok_Lw_law_Mm_makeCores : z_ok M_Lw_law M_Mm_makeCores 2 := ⟨z_mem (i := 1860) (by decide +kernel) (by decide +kernel), rfl, ⟨by decide +kernel, by decide +kernel, by decide +kernel⟩, ⟨by decide, by decide⟩, z_mem (i := 71) (by decide +kernel) (by decide +kernel), rfl⟩
theorem ln_Lw_241 : Cond.methodLink "IronpourLaw" 241 M_Mm_makeCores.1 ∈ z_gw := z_mem (i := 1857) (by decide +kernel) (by decide +kernel)
theorem w_im_Mm_makeCores : Cond.instanceMethod M_Mm_makeCores.1 ∈ z_gw := z_mem (i := 1858) (by decide +kernel) (by decide +kernel)
theorem w_se_Mm_makeCores : Cond.selects M_Mm_makeCores.1.cls M_Mm_makeCores.1 M_Mm_makeCores.1 ∈ z_gw := z_mem (i := 1859) (by decide +kernel) (by decide +kernel)
theorem d_Lw_law_951 : decode code 951 = .ok (.istore 7, 2) := by decide +kernel
theorem d_Lw_law_953 : decode code 953 = .ok (.goto 855, 3) := by decide +kernel
set_option maxHeartbeats 4000000 in
set_option maxRecDepth 100000 in
theorem LC_makeCores {g : zG} {ad : Nat → Nat} {t : zTT} {u : zNN} {w : zW} (hI : IV g ad t u w) (hR : REL t) {j r : Nat} (hJ : 7 * j + 7 ≤ g.2.2 41) (hL : g.2.2 41 < 2 ^ 31) (ih : LWI g ad j r) : DW g M_Lw_law lwQ w 916 [(5, .int (nI (7 * j))), (4, .ref (ad 70)), (3, .ref (ad 69)), (2, .ref (ad 52)), (1, .ref (ad 0)), (0, .ref (g.2.2 40))] [] (100 * (r + 1)) (1000 * (r + 1)) := by
  refine y_base (cs := []) (z_I.nil w) ?_
  refine y_aload_n d_Lw_law_916 rfl 4 rfl ?_
  refine y_aload_n d_Lw_law_917 rfl 5 rfl ?_
  refine y_iload d_Lw_law_918 0 rfl ?_
  refine y_iconst d_Lw_law_920 (v := 1) (by decide) ?_
  refine y_iadd d_Lw_law_921 (v := nI ((7 * j) + 1)) (nI_add _ _) ?_
  refine y_sld (v := zs g (7 * j + 1)) d_Lw_law_922 (vp_in_nI (by omega) (by omega)) (by rw [nI_clamp (by omega)]; rfl) ?_
  refine y_aload_n d_Lw_law_923 rfl 5 rfl ?_
  refine y_iload d_Lw_law_924 0 rfl ?_
  refine y_iconst d_Lw_law_926 (v := 2) (by decide) ?_
  refine y_iadd d_Lw_law_927 (v := nI ((7 * j) + 2)) (nI_add _ _) ?_
  refine y_sld (v := zs g (7 * j + 2)) d_Lw_law_928 (vp_in_nI (by omega) (by omega)) (by rw [nI_clamp (by omega)]; rfl) ?_
  refine y_aload_n d_Lw_law_929 rfl 2 rfl ?_
  refine yw_callSX (As := [.ref (ad 0), .int (zs g (7 * j + 1)), .int (zs g (7 * j + 2)), .ref (ad 69)]) (rest := []) ln_Lw_239 w_st_Lw_makeCores ok_Lw_law_Lw_makeCores d_Lw_law_930 (fun wA hA => W_makeCores (IV.nil hA hI) _ _) rfl rfl (Nat.le_of_ble_eq_true rfl) (by omega) (by omega) (fun wA930 hA930 E wB930 hx => ?_) (fun wA930 hA930 v wB930 hx => ?_)
  · obtain ⟨⟨v9, e1⟩, -⟩ := hx
    cases e1
  · obtain ⟨⟨v9, e1⟩, u2, hI2⟩ := hx
    cases e1
    refine yw_st (st2 := [.int v9]) rfl ?_
    have hI := hI2
    refine y_base (cs := []) (z_I.nil _) ?_
    refine y_istore (lv' := [(6, .int v9), (5, .int (nI (7 * j))), (4, .ref (ad 70)), (3, .ref (ad 69)), (2, .ref (ad 52)), (1, .ref (ad 0)), (0, .ref (g.2.2 40))]) d_Lw_law_933 (by decide) rfl ?_
    refine y_aload_n d_Lw_law_935 rfl 4 rfl ?_
    refine y_aload_n d_Lw_law_936 rfl 6 rfl ?_
    refine y_iload d_Lw_law_937 1 rfl ?_
    refine y_iconst d_Lw_law_939 (v := 1) (by decide) ?_
    refine y_iadd d_Lw_law_940 (v := nI ((7 * j) + 1)) (nI_add _ _) ?_
    refine y_sld (v := zs g (7 * j + 1)) d_Lw_law_941 (vp_in_nI (by omega) (by omega)) (by rw [nI_clamp (by omega)]; rfl) ?_
    refine y_aload_n d_Lw_law_942 rfl 6 rfl ?_
    refine y_iload d_Lw_law_943 1 rfl ?_
    refine y_iconst d_Lw_law_945 (v := 2) (by decide) ?_
    refine y_iadd d_Lw_law_946 (v := nI ((7 * j) + 2)) (nI_add _ _) ?_
    refine y_sld (v := zs g (7 * j + 2)) d_Lw_law_947 (vp_in_nI (by omega) (by omega)) (by rw [nI_clamp (by omega)]; rfl) ?_
    refine yw_callVL (As := [.int (zs g (7 * j + 1)), .int (zs g (7 * j + 2))]) (rest := []) (ci := 12) rfl (fun wA hA => (IV.nil hA hI).rm) ln_Lw_241 w_im_Mm_makeCores w_se_Mm_makeCores ok_Lw_law_Mm_makeCores d_Lw_law_948 (fun wA hA => K_Mm_makeCores (IV.nil hA hI) _ _) rfl rfl (Nat.le_of_ble_eq_true rfl) (by omega) (by omega) (fun wA948 hA948 E wB948 hx => ?_) (fun wA948 hA948 v wB948 hx => ?_)
    · obtain ⟨⟨v8, e1⟩, -⟩ := hx
      cases e1
    · obtain ⟨⟨v8, e1⟩, u2, hI2⟩ := hx
      cases e1
      refine yw_st (st2 := [.int v8]) rfl ?_
      have hI := hI2
      refine y_base (cs := []) (z_I.nil _) ?_
      refine y_istore (lv' := [(7, .int v8), (6, .int v9), (5, .int (nI (7 * j))), (4, .ref (ad 70)), (3, .ref (ad 69)), (2, .ref (ad 52)), (1, .ref (ad 0)), (0, .ref (g.2.2 40))]) d_Lw_law_951 (by decide) rfl ?_
      refine y_goto (tgt := 1808) d_Lw_law_953 (by decide) ?_
      refine y_lv (lv' := [(5, .int (nI (7 * j))), (4, .ref (ad 70)), (3, .ref (ad 69)), (2, .ref (ad 52)), (1, .ref (ad 0)), (0, .ref (g.2.2 40))]) [2, 3, 4, 5, 6, 7] rfl ?_
      refine y_end (fun wC hC => ?_)
      exact LC_next (IV.nil hC hI) hR hJ hL ih (by omega) (by omega)
