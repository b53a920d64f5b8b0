section
theorem d_Lw_law_794 : decode code 794 = .ok (.aload_n 1, 1) := zo_43 (zd_b zq_code_24 26 rfl rfl rfl)
theorem d_Lw_law_795 : decode code 795 = .ok (.aload_n 0, 1) := zo_42 (zd_b zq_code_24 27 rfl rfl rfl)
theorem d_Lw_law_796 : decode code 796 = .ok (.iload 5, 2) := zo_21 (d := 5) (zd_b zq_code_24 28 rfl rfl rfl) (zd_b zq_code_24 29 rfl rfl rfl)
theorem d_Lw_law_798 : decode code 798 = .ok (.iconst 1, 1) := zo_4 (zd_b zq_code_24 30 rfl rfl rfl)
theorem d_Lw_law_799 : decode code 799 = .ok (.iadd, 1) := zo_96 (zd_b zq_code_24 31 rfl rfl rfl)
theorem d_Lw_law_800 : decode code 800 = .ok (.iaload, 1) := zo_46 (zd_b zq_code_25 0 rfl rfl rfl)
theorem d_Lw_law_801 : decode code 801 = .ok (.aload_n 0, 1) := zo_42 (zd_b zq_code_25 1 rfl rfl rfl)
theorem d_Lw_law_802 : decode code 802 = .ok (.iload 5, 2) := zo_21 (d := 5) (zd_b zq_code_25 2 rfl rfl rfl) (zd_b zq_code_25 3 rfl rfl rfl)
theorem d_Lw_law_804 : decode code 804 = .ok (.iconst 2, 1) := zo_5 (zd_b zq_code_25 4 rfl rfl rfl)
theorem d_Lw_law_805 : decode code 805 = .ok (.iadd, 1) := zo_96 (zd_b zq_code_25 5 rfl rfl rfl)
theorem d_Lw_law_806 : decode code 806 = .ok (.iaload, 1) := zo_46 (zd_b zq_code_25 6 rfl rfl rfl)
theorem d_Lw_law_807 : decode code 807 = .ok (.aload_n 0, 1) := zo_42 (zd_b zq_code_25 7 rfl rfl rfl)
theorem d_Lw_law_808 : decode code 808 = .ok (.iload 5, 2) := zo_21 (d := 5) (zd_b zq_code_25 8 rfl rfl rfl) (zd_b zq_code_25 9 rfl rfl rfl)
theorem d_Lw_law_810 : decode code 810 = .ok (.iconst 3, 1) := zo_6 (zd_b zq_code_25 10 rfl rfl rfl)
theorem d_Lw_law_811 : decode code 811 = .ok (.iadd, 1) := zo_96 (zd_b zq_code_25 11 rfl rfl rfl)
theorem d_Lw_law_812 : decode code 812 = .ok (.iaload, 1) := zo_46 (zd_b zq_code_25 12 rfl rfl rfl)
theorem d_Lw_law_813 : decode code 813 = .ok (.aload_n 0, 1) := zo_42 (zd_b zq_code_25 13 rfl rfl rfl)
theorem d_Lw_law_814 : decode code 814 = .ok (.iload 5, 2) := zo_21 (d := 5) (zd_b zq_code_25 14 rfl rfl rfl) (zd_b zq_code_25 15 rfl rfl rfl)
theorem d_Lw_law_816 : decode code 816 = .ok (.iconst 4, 1) := zo_7 (zd_b zq_code_25 16 rfl rfl rfl)
theorem d_Lw_law_817 : decode code 817 = .ok (.iadd, 1) := zo_96 (zd_b zq_code_25 17 rfl rfl rfl)
theorem d_Lw_law_818 : decode code 818 = .ok (.iaload, 1) := zo_46 (zd_b zq_code_25 18 rfl rfl rfl)
theorem d_Lw_law_819 : decode code 819 = .ok (.aload_n 3, 1) := zo_45 (zd_b zq_code_25 19 rfl rfl rfl)
theorem d_Lw_law_820 : decode code 820 = .ok (.invokestatic 229, 3) := zo_184 (d := 0) (e := 229) (zd_b zq_code_25 20 rfl rfl rfl) (zd_b zq_code_25 21 rfl rfl rfl) (zd_b zq_code_25 22 rfl rfl rfl)
theorem ok_Lw_law_Lw_mill : z_okX M_Lw_law M_Lw_mill 6 := ⟨z_mj4 (i := 170) rfl (by decide +kernel), by decide, ⟨by decide +kernel, by decide +kernel, by decide +kernel⟩, ⟨by decide, by decide⟩, z_mj1 (i := 0) rfl (by decide +kernel), rfl⟩
theorem ln_Lw_229 : Cond.methodLink "IronpourLaw" 229 M_Lw_mill.1 ∈ z_gw := z_mj4 (i := 168) rfl (by decide +kernel)
theorem w_st_Lw_mill : Cond.static M_Lw_mill.1 ∈ z_gw := z_mj4 (i := 169) rfl (by decide +kernel)
theorem d_Lw_law_823 : decode code 823 = .ok (.istore 6, 2) := zo_54 (d := 6) (zd_b zq_code_25 23 rfl rfl rfl) (zd_b zq_code_25 24 rfl rfl rfl)
theorem d_Lw_law_825 : decode code 825 = .ok (.aload_n 2, 1) := zo_44 (zd_b zq_code_25 25 rfl rfl rfl)
theorem d_Lw_law_826 : decode code 826 = .ok (.aload_n 0, 1) := zo_42 (zd_b zq_code_25 26 rfl rfl rfl)
theorem d_Lw_law_827 : decode code 827 = .ok (.iload 5, 2) := zo_21 (d := 5) (zd_b zq_code_25 27 rfl rfl rfl) (zd_b zq_code_25 28 rfl rfl rfl)
theorem d_Lw_law_829 : decode code 829 = .ok (.iconst 1, 1) := zo_4 (zd_b zq_code_25 29 rfl rfl rfl)
theorem d_Lw_law_830 : decode code 830 = .ok (.iadd, 1) := zo_96 (zd_b zq_code_25 30 rfl rfl rfl)
theorem d_Lw_law_831 : decode code 831 = .ok (.iaload, 1) := zo_46 (zd_b zq_code_25 31 rfl rfl rfl)
theorem d_Lw_law_832 : decode code 832 = .ok (.aload_n 0, 1) := zo_42 (zd_b zq_code_26 0 rfl rfl rfl)
theorem d_Lw_law_833 : decode code 833 = .ok (.iload 5, 2) := zo_21 (d := 5) (zd_b zq_code_26 1 rfl rfl rfl) (zd_b zq_code_26 2 rfl rfl rfl)
theorem d_Lw_law_835 : decode code 835 = .ok (.iconst 2, 1) := zo_5 (zd_b zq_code_26 3 rfl rfl rfl)
theorem d_Lw_law_836 : decode code 836 = .ok (.iadd, 1) := zo_96 (zd_b zq_code_26 4 rfl rfl rfl)
theorem d_Lw_law_837 : decode code 837 = .ok (.iaload, 1) := zo_46 (zd_b zq_code_26 5 rfl rfl rfl)
theorem d_Lw_law_838 : decode code 838 = .ok (.aload_n 0, 1) := zo_42 (zd_b zq_code_26 6 rfl rfl rfl)
theorem d_Lw_law_839 : decode code 839 = .ok (.iload 5, 2) := zo_21 (d := 5) (zd_b zq_code_26 7 rfl rfl rfl) (zd_b zq_code_26 8 rfl rfl rfl)
theorem d_Lw_law_841 : decode code 841 = .ok (.iconst 3, 1) := zo_6 (zd_b zq_code_26 9 rfl rfl rfl)
theorem d_Lw_law_842 : decode code 842 = .ok (.iadd, 1) := zo_96 (zd_b zq_code_26 10 rfl rfl rfl)
theorem d_Lw_law_843 : decode code 843 = .ok (.iaload, 1) := zo_46 (zd_b zq_code_26 11 rfl rfl rfl)
theorem d_Lw_law_844 : decode code 844 = .ok (.aload_n 0, 1) := zo_42 (zd_b zq_code_26 12 rfl rfl rfl)
theorem d_Lw_law_845 : decode code 845 = .ok (.iload 5, 2) := zo_21 (d := 5) (zd_b zq_code_26 13 rfl rfl rfl) (zd_b zq_code_26 14 rfl rfl rfl)
theorem d_Lw_law_847 : decode code 847 = .ok (.iconst 4, 1) := zo_7 (zd_b zq_code_26 15 rfl rfl rfl)
theorem d_Lw_law_848 : decode code 848 = .ok (.iadd, 1) := zo_96 (zd_b zq_code_26 16 rfl rfl rfl)
theorem d_Lw_law_849 : decode code 849 = .ok (.iaload, 1) := zo_46 (zd_b zq_code_26 17 rfl rfl rfl)
theorem d_Lw_law_850 : decode code 850 = .ok (.invokevirtual 231, 3) := zo_182 (d := 0) (e := 231) (zd_b zq_code_26 18 rfl rfl rfl) (zd_b zq_code_26 19 rfl rfl rfl) (zd_b zq_code_26 20 rfl rfl rfl)
theorem ok_Lw_law_Mm_mill : z_ok M_Lw_law M_Mm_mill 4 := ⟨z_mj8 (i := 101) rfl (by decide +kernel), rfl, ⟨by decide +kernel, by decide +kernel, by decide +kernel⟩, ⟨by decide, by decide⟩, z_mj1 (i := 14) rfl (by decide +kernel), rfl⟩
theorem ln_Lw_231 : Cond.methodLink "IronpourLaw" 231 M_Mm_mill.1 ∈ z_gw := z_mj8 (i := 98) rfl (by decide +kernel)
theorem w_im_Mm_mill : Cond.instanceMethod M_Mm_mill.1 ∈ z_gw := z_mj8 (i := 99) rfl (by decide +kernel)
theorem w_se_Mm_mill : Cond.selects M_Mm_mill.1.cls M_Mm_mill.1 M_Mm_mill.1 ∈ z_gw := z_mj8 (i := 100) rfl (by decide +kernel)
theorem d_Lw_law_853 : decode code 853 = .ok (.istore 7, 2) := zo_54 (d := 7) (zd_b zq_code_26 21 rfl rfl rfl) (zd_b zq_code_26 22 rfl rfl rfl)
theorem d_Lw_law_855 : decode code 855 = .ok (.goto 953, 3) := zo_167 (d := 3) (e := 185) (zd_b zq_code_26 23 rfl rfl rfl) (zd_b zq_code_26 24 rfl rfl rfl) (zd_b zq_code_26 25 rfl rfl rfl) (by decide +kernel)
set_option maxHeartbeats 4000000 in
set_option maxRecDepth 100000 in
theorem LC_mill {g : zG} {ad : Nat → Nat} {t : zTT} {u : zNN} {w : zW} {j : Nat} (hI : IVm g ad t u w) (hR : REY t u.1 (48 * j)) {r : Nat} (hJ : 7 * j + 7 ≤ g.2.2 41) (hL : g.2.2 41 ≤ 3584) (ih : LWI g ad j r) : DW g M_Lw_law lwQ w 794 [(5, .int (nI (7 * j))), (4, .ref (ad 70)), (3, .ref (ad 69)), (2, .ref (ad 52)), (1, .ref (ad 0)), (0, .ref (g.2.2 40))] [] (100 * (r + 1)) (1000 * (r + 1)) := by
  refine y_base (cs := []) (z_I.nil w) ?_
  refine y_aload_n d_Lw_law_794 rfl 4 rfl ?_
  refine y_aload_n d_Lw_law_795 rfl 5 rfl ?_
  refine y_iload d_Lw_law_796 0 rfl ?_
  refine y_iconst d_Lw_law_798 (v := 1) (by decide) ?_
  refine y_iadd d_Lw_law_799 (v := nI ((7 * j) + 1)) (nI_add _ _) ?_
  refine y_sld (v := zs g (7 * j + 1)) d_Lw_law_800 (vp_in_nI (by omega) (by omega)) (by rw [nI_clamp (by omega)]; rfl) ?_
  refine y_aload_n d_Lw_law_801 rfl 5 rfl ?_
  refine y_iload d_Lw_law_802 0 rfl ?_
  refine y_iconst d_Lw_law_804 (v := 2) (by decide) ?_
  refine y_iadd d_Lw_law_805 (v := nI ((7 * j) + 2)) (nI_add _ _) ?_
  refine y_sld (v := zs g (7 * j + 2)) d_Lw_law_806 (vp_in_nI (by omega) (by omega)) (by rw [nI_clamp (by omega)]; rfl) ?_
  refine y_aload_n d_Lw_law_807 rfl 5 rfl ?_
  refine y_iload d_Lw_law_808 0 rfl ?_
  refine y_iconst d_Lw_law_810 (v := 3) (by decide) ?_
  refine y_iadd d_Lw_law_811 (v := nI ((7 * j) + 3)) (nI_add _ _) ?_
  refine y_sld (v := zs g (7 * j + 3)) d_Lw_law_812 (vp_in_nI (by omega) (by omega)) (by rw [nI_clamp (by omega)]; rfl) ?_
  refine y_aload_n d_Lw_law_813 rfl 5 rfl ?_
  refine y_iload d_Lw_law_814 0 rfl ?_
  refine y_iconst d_Lw_law_816 (v := 4) (by decide) ?_
  refine y_iadd d_Lw_law_817 (v := nI ((7 * j) + 4)) (nI_add _ _) ?_
  refine y_sld (v := zs g (7 * j + 4)) d_Lw_law_818 (vp_in_nI (by omega) (by omega)) (by rw [nI_clamp (by omega)]; rfl) ?_
  refine y_aload_n d_Lw_law_819 rfl 2 rfl ?_
  refine yw_callSX (As := [.ref (ad 0), .int (zs g (7 * j + 1)), .int (zs g (7 * j + 2)), .int (zs g (7 * j + 3)), .int (zs g (7 * j + 4)), .ref (ad 69)]) (rest := []) ln_Lw_229 w_st_Lw_mill ok_Lw_law_Lw_mill d_Lw_law_820 (fun wA hA => W_mill (IVm.nil hA hI) _ _ _ _) rfl rfl (Nat.le_of_ble_eq_true rfl) (by omega) (by omega) (fun wA820 hA820 E wB820 hx => ?_) (fun wA820 hA820 v wB820 hx => ?_)
  · obtain ⟨⟨v9, e1⟩, -⟩ := hx
    cases e1
  · obtain ⟨⟨v9, e1⟩, uC, huC, hI2⟩ := hx
    cases e1
    refine yw_st (st2 := [.int v9]) rfl ?_
    have hI := hI2
    refine y_base (cs := []) (z_I.nil _) ?_
    refine y_istore (lv' := [(6, .int v9), (5, .int (nI (7 * j))), (4, .ref (ad 70)), (3, .ref (ad 69)), (2, .ref (ad 52)), (1, .ref (ad 0)), (0, .ref (g.2.2 40))]) d_Lw_law_823 (by decide) rfl ?_
    refine y_aload_n d_Lw_law_825 rfl 4 rfl ?_
    refine y_aload_n d_Lw_law_826 rfl 6 rfl ?_
    refine y_iload d_Lw_law_827 1 rfl ?_
    refine y_iconst d_Lw_law_829 (v := 1) (by decide) ?_
    refine y_iadd d_Lw_law_830 (v := nI ((7 * j) + 1)) (nI_add _ _) ?_
    refine y_sld (v := zs g (7 * j + 1)) d_Lw_law_831 (vp_in_nI (by omega) (by omega)) (by rw [nI_clamp (by omega)]; rfl) ?_
    refine y_aload_n d_Lw_law_832 rfl 6 rfl ?_
    refine y_iload d_Lw_law_833 1 rfl ?_
    refine y_iconst d_Lw_law_835 (v := 2) (by decide) ?_
    refine y_iadd d_Lw_law_836 (v := nI ((7 * j) + 2)) (nI_add _ _) ?_
    refine y_sld (v := zs g (7 * j + 2)) d_Lw_law_837 (vp_in_nI (by omega) (by omega)) (by rw [nI_clamp (by omega)]; rfl) ?_
    refine y_aload_n d_Lw_law_838 rfl 6 rfl ?_
    refine y_iload d_Lw_law_839 1 rfl ?_
    refine y_iconst d_Lw_law_841 (v := 3) (by decide) ?_
    refine y_iadd d_Lw_law_842 (v := nI ((7 * j) + 3)) (nI_add _ _) ?_
    refine y_sld (v := zs g (7 * j + 3)) d_Lw_law_843 (vp_in_nI (by omega) (by omega)) (by rw [nI_clamp (by omega)]; rfl) ?_
    refine y_aload_n d_Lw_law_844 rfl 6 rfl ?_
    refine y_iload d_Lw_law_845 1 rfl ?_
    refine y_iconst d_Lw_law_847 (v := 4) (by decide) ?_
    refine y_iadd d_Lw_law_848 (v := nI ((7 * j) + 4)) (nI_add _ _) ?_
    refine y_sld (v := zs g (7 * j + 4)) d_Lw_law_849 (vp_in_nI (by omega) (by omega)) (by rw [nI_clamp (by omega)]; rfl) ?_
    refine yw_callVL (As := [.int (zs g (7 * j + 1)), .int (zs g (7 * j + 2)), .int (zs g (7 * j + 3)), .int (zs g (7 * j + 4))]) (rest := []) (ci := 12) rfl (fun wA hA => (IVm.nil hA hI).rm) ln_Lw_231 w_im_Mm_mill w_se_Mm_mill ok_Lw_law_Mm_mill d_Lw_law_850 (fun wA hA => K_Mm_mill (IVm.nil hA hI) _ _ _ _) rfl rfl (Nat.le_of_ble_eq_true rfl) (by omega) (by omega) (fun wA850 hA850 E wB850 hx => ?_) (fun wA850 hA850 v wB850 hx => ?_)
    · obtain ⟨⟨v8, e1⟩, -⟩ := hx
      cases e1
    · obtain ⟨⟨v8, e1⟩, uM, huM, hI2⟩ := hx
      cases e1
      refine yw_st (st2 := [.int v8]) rfl ?_
      have hI := hI2
      refine y_base (cs := []) (z_I.nil _) ?_
      refine y_istore (lv' := [(7, .int v8), (6, .int v9), (5, .int (nI (7 * j))), (4, .ref (ad 70)), (3, .ref (ad 69)), (2, .ref (ad 52)), (1, .ref (ad 0)), (0, .ref (g.2.2 40))]) d_Lw_law_853 (by decide) rfl ?_
      refine y_goto (tgt := 1808) d_Lw_law_855 (by decide) ?_
      refine y_lv (lv' := [(5, .int (nI (7 * j))), (4, .ref (ad 70)), (3, .ref (ad 69)), (2, .ref (ad 52)), (1, .ref (ad 0)), (0, .ref (g.2.2 40))]) [2, 3, 4, 5, 6, 7] rfl ?_
      refine y_end (fun wC hC => ?_)
      exact LC_next (IVm.nil hC hI) ((RY_mill (b := 48 * j) (by omega) _ _ _ _ hR huC huM).up (by omega)) hJ hL ih (by omega) (by omega)
theorem d_Lw_law_858 : decode code 858 = .ok (.aload_n 1, 1) := zo_43 (zd_b zq_code_26 26 rfl rfl rfl)
theorem d_Lw_law_859 : decode code 859 = .ok (.aload_n 0, 1) := zo_42 (zd_b zq_code_26 27 rfl rfl rfl)
theorem d_Lw_law_860 : decode code 860 = .ok (.iload 5, 2) := zo_21 (d := 5) (zd_b zq_code_26 28 rfl rfl rfl) (zd_b zq_code_26 29 rfl rfl rfl)
theorem d_Lw_law_862 : decode code 862 = .ok (.iconst 1, 1) := zo_4 (zd_b zq_code_26 30 rfl rfl rfl)
theorem d_Lw_law_863 : decode code 863 = .ok (.iadd, 1) := zo_96 (zd_b zq_code_26 31 rfl rfl rfl)
theorem d_Lw_law_864 : decode code 864 = .ok (.iaload, 1) := zo_46 (zd_b zq_code_27 0 rfl rfl rfl)
theorem d_Lw_law_865 : decode code 865 = .ok (.i2c, 1) := zo_146 (zd_b zq_code_27 1 rfl rfl rfl)
theorem d_Lw_law_866 : decode code 866 = .ok (.aload_n 3, 1) := zo_45 (zd_b zq_code_27 2 rfl rfl rfl)
theorem d_Lw_law_867 : decode code 867 = .ok (.invokestatic 232, 3) := zo_184 (d := 0) (e := 232) (zd_b zq_code_27 3 rfl rfl rfl) (zd_b zq_code_27 4 rfl rfl rfl) (zd_b zq_code_27 5 rfl rfl rfl)
theorem ok_Lw_law_Lw_sand : z_okX M_Lw_law M_Lw_sand 3 := ⟨z_mj4 (i := 191) rfl (by decide +kernel), by decide, ⟨by decide +kernel, by decide +kernel, by decide +kernel⟩, ⟨by decide, by decide⟩, z_mj1 (i := 0) rfl (by decide +kernel), rfl⟩
theorem ln_Lw_232 : Cond.methodLink "IronpourLaw" 232 M_Lw_sand.1 ∈ z_gw := z_mj4 (i := 189) rfl (by decide +kernel)
theorem w_st_Lw_sand : Cond.static M_Lw_sand.1 ∈ z_gw := z_mj4 (i := 190) rfl (by decide +kernel)
theorem d_Lw_law_870 : decode code 870 = .ok (.istore 6, 2) := zo_54 (d := 6) (zd_b zq_code_27 6 rfl rfl rfl) (zd_b zq_code_27 7 rfl rfl rfl)
theorem d_Lw_law_872 : decode code 872 = .ok (.aload_n 2, 1) := zo_44 (zd_b zq_code_27 8 rfl rfl rfl)
theorem d_Lw_law_873 : decode code 873 = .ok (.aload_n 0, 1) := zo_42 (zd_b zq_code_27 9 rfl rfl rfl)
theorem d_Lw_law_874 : decode code 874 = .ok (.iload 5, 2) := zo_21 (d := 5) (zd_b zq_code_27 10 rfl rfl rfl) (zd_b zq_code_27 11 rfl rfl rfl)
theorem d_Lw_law_876 : decode code 876 = .ok (.iconst 1, 1) := zo_4 (zd_b zq_code_27 12 rfl rfl rfl)
theorem d_Lw_law_877 : decode code 877 = .ok (.iadd, 1) := zo_96 (zd_b zq_code_27 13 rfl rfl rfl)
theorem d_Lw_law_878 : decode code 878 = .ok (.iaload, 1) := zo_46 (zd_b zq_code_27 14 rfl rfl rfl)
theorem d_Lw_law_879 : decode code 879 = .ok (.i2c, 1) := zo_146 (zd_b zq_code_27 15 rfl rfl rfl)
theorem d_Lw_law_880 : decode code 880 = .ok (.invokevirtual 235, 3) := zo_182 (d := 0) (e := 235) (zd_b zq_code_27 16 rfl rfl rfl) (zd_b zq_code_27 17 rfl rfl rfl) (zd_b zq_code_27 18 rfl rfl rfl)
theorem ok_Lw_law_Mm_sand : z_ok M_Lw_law M_Mm_sand 1 := ⟨z_mj8 (i := 114) rfl (by decide +kernel), rfl, ⟨by decide +kernel, by decide +kernel, by decide +kernel⟩, ⟨by decide, by decide⟩, z_mj1 (i := 14) rfl (by decide +kernel), rfl⟩
theorem ln_Lw_235 : Cond.methodLink "IronpourLaw" 235 M_Mm_sand.1 ∈ z_gw := z_mj8 (i := 111) rfl (by decide +kernel)
theorem w_im_Mm_sand : Cond.instanceMethod M_Mm_sand.1 ∈ z_gw := z_mj8 (i := 112) rfl (by decide +kernel)
theorem w_se_Mm_sand : Cond.selects M_Mm_sand.1.cls M_Mm_sand.1 M_Mm_sand.1 ∈ z_gw := z_mj8 (i := 113) rfl (by decide +kernel)
theorem d_Lw_law_883 : decode code 883 = .ok (.istore 7, 2) := zo_54 (d := 7) (zd_b zq_code_27 19 rfl rfl rfl) (zd_b zq_code_27 20 rfl rfl rfl)
theorem d_Lw_law_885 : decode code 885 = .ok (.goto 923, 3) := zo_167 (d := 3) (e := 155) (zd_b zq_code_27 21 rfl rfl rfl) (zd_b zq_code_27 22 rfl rfl rfl) (zd_b zq_code_27 23 rfl rfl rfl) (by decide +kernel)
set_option maxHeartbeats 4000000 in
set_option maxRecDepth 100000 in
theorem LC_sand {g : zG} {ad : Nat → Nat} {t : zTT} {u : zNN} {w : zW} {j : Nat} (hI : IVm g ad t u w) (hR : REY t u.1 (48 * j)) {r : Nat} (hJ : 7 * j + 7 ≤ g.2.2 41) (hL : g.2.2 41 ≤ 3584) (ih : LWI g ad j r) : DW g M_Lw_law lwQ w 858 [(5, .int (nI (7 * j))), (4, .ref (ad 70)), (3, .ref (ad 69)), (2, .ref (ad 52)), (1, .ref (ad 0)), (0, .ref (g.2.2 40))] [] (100 * (r + 1)) (1000 * (r + 1)) := by
  refine y_base (cs := []) (z_I.nil w) ?_
  refine y_aload_n d_Lw_law_858 rfl 4 rfl ?_
  refine y_aload_n d_Lw_law_859 rfl 5 rfl ?_
  refine y_iload d_Lw_law_860 0 rfl ?_
  refine y_iconst d_Lw_law_862 (v := 1) (by decide) ?_
  refine y_iadd d_Lw_law_863 (v := nI ((7 * j) + 1)) (nI_add _ _) ?_
  refine y_sld (v := zs g (7 * j + 1)) d_Lw_law_864 (vp_in_nI (by omega) (by omega)) (by rw [nI_clamp (by omega)]; rfl) ?_
  refine y_i2c d_Lw_law_865 (v := zc g (7 * j + 1)) rfl ?_
  refine y_aload_n d_Lw_law_866 rfl 2 rfl ?_
  refine yw_callSX (As := [.ref (ad 0), .int (zc g (7 * j + 1)), .ref (ad 69)]) (rest := []) ln_Lw_232 w_st_Lw_sand ok_Lw_law_Lw_sand d_Lw_law_867 (fun wA hA => W_sand (IVm.nil hA hI) _) rfl rfl (Nat.le_of_ble_eq_true rfl) (by omega) (by omega) (fun wA867 hA867 E wB867 hx => ?_) (fun wA867 hA867 v wB867 hx => ?_)
  · obtain ⟨⟨v9, e1⟩, -⟩ := hx
    cases e1
  · obtain ⟨⟨v9, e1⟩, uC, huC, hI2⟩ := hx
    cases e1
    refine yw_st (st2 := [.int v9]) rfl ?_
    have hI := hI2
    refine y_base (cs := []) (z_I.nil _) ?_
    refine y_istore (lv' := [(6, .int v9), (5, .int (nI (7 * j))), (4, .ref (ad 70)), (3, .ref (ad 69)), (2, .ref (ad 52)), (1, .ref (ad 0)), (0, .ref (g.2.2 40))]) d_Lw_law_870 (by decide) rfl ?_
    refine y_aload_n d_Lw_law_872 rfl 4 rfl ?_
    refine y_aload_n d_Lw_law_873 rfl 6 rfl ?_
    refine y_iload d_Lw_law_874 1 rfl ?_
    refine y_iconst d_Lw_law_876 (v := 1) (by decide) ?_
    refine y_iadd d_Lw_law_877 (v := nI ((7 * j) + 1)) (nI_add _ _) ?_
    refine y_sld (v := zs g (7 * j + 1)) d_Lw_law_878 (vp_in_nI (by omega) (by omega)) (by rw [nI_clamp (by omega)]; rfl) ?_
    refine y_i2c d_Lw_law_879 (v := zc g (7 * j + 1)) rfl ?_
    refine yw_callVL (As := [.int (zc g (7 * j + 1))]) (rest := []) (ci := 12) rfl (fun wA hA => (IVm.nil hA hI).rm) ln_Lw_235 w_im_Mm_sand w_se_Mm_sand ok_Lw_law_Mm_sand d_Lw_law_880 (fun wA hA => K_Mm_sand (IVm.nil hA hI) _) rfl rfl (Nat.le_of_ble_eq_true rfl) (by omega) (by omega) (fun wA880 hA880 E wB880 hx => ?_) (fun wA880 hA880 v wB880 hx => ?_)
    · obtain ⟨⟨v8, e1⟩, -⟩ := hx
      cases e1
    · obtain ⟨⟨v8, e1⟩, uM, huM, hI2⟩ := hx
      cases e1
      refine yw_st (st2 := [.int v8]) rfl ?_
      have hI := hI2
      refine y_base (cs := []) (z_I.nil _) ?_
      refine y_istore (lv' := [(7, .int v8), (6, .int v9), (5, .int (nI (7 * j))), (4, .ref (ad 70)), (3, .ref (ad 69)), (2, .ref (ad 52)), (1, .ref (ad 0)), (0, .ref (g.2.2 40))]) d_Lw_law_883 (by decide) rfl ?_
      refine y_goto (tgt := 1808) d_Lw_law_885 (by decide) ?_
      refine y_lv (lv' := [(5, .int (nI (7 * j))), (4, .ref (ad 70)), (3, .ref (ad 69)), (2, .ref (ad 52)), (1, .ref (ad 0)), (0, .ref (g.2.2 40))]) [2, 3, 4, 5, 6, 7] rfl ?_
      refine y_end (fun wC hC => ?_)
      exact LC_next (IVm.nil hC hI) ((hR.n (huM.trans huC)).up (by omega)) hJ hL ih (by omega) (by omega)
theorem d_Lw_law_888 : decode code 888 = .ok (.aload_n 1, 1) := zo_43 (zd_b zq_code_27 24 rfl rfl rfl)
theorem d_Lw_law_889 : decode code 889 = .ok (.aload_n 0, 1) := zo_42 (zd_b zq_code_27 25 rfl rfl rfl)
theorem d_Lw_law_890 : decode code 890 = .ok (.iload 5, 2) := zo_21 (d := 5) (zd_b zq_code_27 26 rfl rfl rfl) (zd_b zq_code_27 27 rfl rfl rfl)
theorem d_Lw_law_892 : decode code 892 = .ok (.iconst 1, 1) := zo_4 (zd_b zq_code_27 28 rfl rfl rfl)
theorem d_Lw_law_893 : decode code 893 = .ok (.iadd, 1) := zo_96 (zd_b zq_code_27 29 rfl rfl rfl)
theorem d_Lw_law_894 : decode code 894 = .ok (.iaload, 1) := zo_46 (zd_b zq_code_27 30 rfl rfl rfl)
theorem d_Lw_law_895 : decode code 895 = .ok (.aload_n 0, 1) := zo_42 (zd_b zq_code_27 31 rfl rfl rfl)
theorem d_Lw_law_896 : decode code 896 = .ok (.iload 5, 2) := zo_21 (d := 5) (zd_b zq_code_28 0 rfl rfl rfl) (zd_b zq_code_28 1 rfl rfl rfl)
theorem d_Lw_law_898 : decode code 898 = .ok (.iconst 2, 1) := zo_5 (zd_b zq_code_28 2 rfl rfl rfl)
theorem d_Lw_law_899 : decode code 899 = .ok (.iadd, 1) := zo_96 (zd_b zq_code_28 3 rfl rfl rfl)
theorem d_Lw_law_900 : decode code 900 = .ok (.iaload, 1) := zo_46 (zd_b zq_code_28 4 rfl rfl rfl)
theorem d_Lw_law_901 : decode code 901 = .ok (.aload_n 3, 1) := zo_45 (zd_b zq_code_28 5 rfl rfl rfl)
theorem d_Lw_law_902 : decode code 902 = .ok (.invokestatic 236, 3) := zo_184 (d := 0) (e := 236) (zd_b zq_code_28 6 rfl rfl rfl) (zd_b zq_code_28 7 rfl rfl rfl) (zd_b zq_code_28 8 rfl rfl rfl)
theorem ok_Lw_law_Lw_makeCores : z_okX M_Lw_law M_Lw_makeCores 4 := ⟨z_mj4 (i := 203) rfl (by decide +kernel), by decide, ⟨by decide +kernel, by decide +kernel, by decide +kernel⟩, ⟨by decide, by decide⟩, z_mj1 (i := 0) rfl (by decide +kernel), rfl⟩
theorem ln_Lw_236 : Cond.methodLink "IronpourLaw" 236 M_Lw_makeCores.1 ∈ z_gw := z_mj4 (i := 201) rfl (by decide +kernel)
theorem w_st_Lw_makeCores : Cond.static M_Lw_makeCores.1 ∈ z_gw := z_mj4 (i := 202) rfl (by decide +kernel)
theorem d_Lw_law_905 : decode code 905 = .ok (.istore 6, 2) := zo_54 (d := 6) (zd_b zq_code_28 9 rfl rfl rfl) (zd_b zq_code_28 10 rfl rfl rfl)
theorem d_Lw_law_907 : decode code 907 = .ok (.aload_n 2, 1) := zo_44 (zd_b zq_code_28 11 rfl rfl rfl)
theorem d_Lw_law_908 : decode code 908 = .ok (.aload_n 0, 1) := zo_42 (zd_b zq_code_28 12 rfl rfl rfl)
theorem d_Lw_law_909 : decode code 909 = .ok (.iload 5, 2) := zo_21 (d := 5) (zd_b zq_code_28 13 rfl rfl rfl) (zd_b zq_code_28 14 rfl rfl rfl)
theorem d_Lw_law_911 : decode code 911 = .ok (.iconst 1, 1) := zo_4 (zd_b zq_code_28 15 rfl rfl rfl)
theorem d_Lw_law_912 : decode code 912 = .ok (.iadd, 1) := zo_96 (zd_b zq_code_28 16 rfl rfl rfl)
theorem d_Lw_law_913 : decode code 913 = .ok (.iaload, 1) := zo_46 (zd_b zq_code_28 17 rfl rfl rfl)
theorem d_Lw_law_914 : decode code 914 = .ok (.aload_n 0, 1) := zo_42 (zd_b zq_code_28 18 rfl rfl rfl)
theorem d_Lw_law_915 : decode code 915 = .ok (.iload 5, 2) := zo_21 (d := 5) (zd_b zq_code_28 19 rfl rfl rfl) (zd_b zq_code_28 20 rfl rfl rfl)
theorem d_Lw_law_917 : decode code 917 = .ok (.iconst 2, 1) := zo_5 (zd_b zq_code_28 21 rfl rfl rfl)
theorem d_Lw_law_918 : decode code 918 = .ok (.iadd, 1) := zo_96 (zd_b zq_code_28 22 rfl rfl rfl)
theorem d_Lw_law_919 : decode code 919 = .ok (.iaload, 1) := zo_46 (zd_b zq_code_28 23 rfl rfl rfl)
theorem d_Lw_law_920 : decode code 920 = .ok (.invokevirtual 238, 3) := zo_182 (d := 0) (e := 238) (zd_b zq_code_28 24 rfl rfl rfl) (zd_b zq_code_28 25 rfl rfl rfl) (zd_b zq_code_28 26 rfl rfl rfl)
theorem ok_Lw_law_Mm_makeCores : z_ok M_Lw_law M_Mm_makeCores 2 := ⟨z_mj8 (i := 123) rfl (by decide +kernel), rfl, ⟨by decide +kernel, by decide +kernel, by decide +kernel⟩, ⟨by decide, by decide⟩, z_mj1 (i := 14) rfl (by decide +kernel), rfl⟩
theorem ln_Lw_238 : Cond.methodLink "IronpourLaw" 238 M_Mm_makeCores.1 ∈ z_gw := z_mj8 (i := 120) rfl (by decide +kernel)
theorem w_im_Mm_makeCores : Cond.instanceMethod M_Mm_makeCores.1 ∈ z_gw := z_mj8 (i := 121) rfl (by decide +kernel)
theorem w_se_Mm_makeCores : Cond.selects M_Mm_makeCores.1.cls M_Mm_makeCores.1 M_Mm_makeCores.1 ∈ z_gw := z_mj8 (i := 122) rfl (by decide +kernel)
theorem d_Lw_law_923 : decode code 923 = .ok (.istore 7, 2) := zo_54 (d := 7) (zd_b zq_code_28 27 rfl rfl rfl) (zd_b zq_code_28 28 rfl rfl rfl)
theorem d_Lw_law_925 : decode code 925 = .ok (.goto 883, 3) := zo_167 (d := 3) (e := 115) (zd_b zq_code_28 29 rfl rfl rfl) (zd_b zq_code_28 30 rfl rfl rfl) (zd_b zq_code_28 31 rfl rfl rfl) (by decide +kernel)
set_option maxHeartbeats 4000000 in
set_option maxRecDepth 100000 in
theorem LC_makeCores {g : zG} {ad : Nat → Nat} {t : zTT} {u : zNN} {w : zW} {j : Nat} (hI : IVm g ad t u w) (hR : REY t u.1 (48 * j)) {r : Nat} (hJ : 7 * j + 7 ≤ g.2.2 41) (hL : g.2.2 41 ≤ 3584) (ih : LWI g ad j r) : DW g M_Lw_law lwQ w 888 [(5, .int (nI (7 * j))), (4, .ref (ad 70)), (3, .ref (ad 69)), (2, .ref (ad 52)), (1, .ref (ad 0)), (0, .ref (g.2.2 40))] [] (100 * (r + 1)) (1000 * (r + 1)) := by
  refine y_base (cs := []) (z_I.nil w) ?_
  refine y_aload_n d_Lw_law_888 rfl 4 rfl ?_
  refine y_aload_n d_Lw_law_889 rfl 5 rfl ?_
  refine y_iload d_Lw_law_890 0 rfl ?_
  refine y_iconst d_Lw_law_892 (v := 1) (by decide) ?_
  refine y_iadd d_Lw_law_893 (v := nI ((7 * j) + 1)) (nI_add _ _) ?_
  refine y_sld (v := zs g (7 * j + 1)) d_Lw_law_894 (vp_in_nI (by omega) (by omega)) (by rw [nI_clamp (by omega)]; rfl) ?_
  refine y_aload_n d_Lw_law_895 rfl 5 rfl ?_
  refine y_iload d_Lw_law_896 0 rfl ?_
  refine y_iconst d_Lw_law_898 (v := 2) (by decide) ?_
  refine y_iadd d_Lw_law_899 (v := nI ((7 * j) + 2)) (nI_add _ _) ?_
  refine y_sld (v := zs g (7 * j + 2)) d_Lw_law_900 (vp_in_nI (by omega) (by omega)) (by rw [nI_clamp (by omega)]; rfl) ?_
  refine y_aload_n d_Lw_law_901 rfl 2 rfl ?_
  refine yw_callSX (As := [.ref (ad 0), .int (zs g (7 * j + 1)), .int (zs g (7 * j + 2)), .ref (ad 69)]) (rest := []) ln_Lw_236 w_st_Lw_makeCores ok_Lw_law_Lw_makeCores d_Lw_law_902 (fun wA hA => W_makeCores (IVm.nil hA hI) _ _) rfl rfl (Nat.le_of_ble_eq_true rfl) (by omega) (by omega) (fun wA902 hA902 E wB902 hx => ?_) (fun wA902 hA902 v wB902 hx => ?_)
  · obtain ⟨⟨v9, e1⟩, -⟩ := hx
    cases e1
  · obtain ⟨⟨v9, e1⟩, uC, huC, hI2⟩ := hx
    cases e1
    refine yw_st (st2 := [.int v9]) rfl ?_
    have hI := hI2
    refine y_base (cs := []) (z_I.nil _) ?_
    refine y_istore (lv' := [(6, .int v9), (5, .int (nI (7 * j))), (4, .ref (ad 70)), (3, .ref (ad 69)), (2, .ref (ad 52)), (1, .ref (ad 0)), (0, .ref (g.2.2 40))]) d_Lw_law_905 (by decide) rfl ?_
    refine y_aload_n d_Lw_law_907 rfl 4 rfl ?_
    refine y_aload_n d_Lw_law_908 rfl 6 rfl ?_
    refine y_iload d_Lw_law_909 1 rfl ?_
    refine y_iconst d_Lw_law_911 (v := 1) (by decide) ?_
    refine y_iadd d_Lw_law_912 (v := nI ((7 * j) + 1)) (nI_add _ _) ?_
    refine y_sld (v := zs g (7 * j + 1)) d_Lw_law_913 (vp_in_nI (by omega) (by omega)) (by rw [nI_clamp (by omega)]; rfl) ?_
    refine y_aload_n d_Lw_law_914 rfl 6 rfl ?_
    refine y_iload d_Lw_law_915 1 rfl ?_
    refine y_iconst d_Lw_law_917 (v := 2) (by decide) ?_
    refine y_iadd d_Lw_law_918 (v := nI ((7 * j) + 2)) (nI_add _ _) ?_
    refine y_sld (v := zs g (7 * j + 2)) d_Lw_law_919 (vp_in_nI (by omega) (by omega)) (by rw [nI_clamp (by omega)]; rfl) ?_
    refine yw_callVL (As := [.int (zs g (7 * j + 1)), .int (zs g (7 * j + 2))]) (rest := []) (ci := 12) rfl (fun wA hA => (IVm.nil hA hI).rm) ln_Lw_238 w_im_Mm_makeCores w_se_Mm_makeCores ok_Lw_law_Mm_makeCores d_Lw_law_920 (fun wA hA => K_Mm_makeCores (IVm.nil hA hI) _ _) rfl rfl (Nat.le_of_ble_eq_true rfl) (by omega) (by omega) (fun wA920 hA920 E wB920 hx => ?_) (fun wA920 hA920 v wB920 hx => ?_)
    · obtain ⟨⟨v8, e1⟩, -⟩ := hx
      cases e1
    · obtain ⟨⟨v8, e1⟩, uM, huM, hI2⟩ := hx
      cases e1
      refine yw_st (st2 := [.int v8]) rfl ?_
      have hI := hI2
      refine y_base (cs := []) (z_I.nil _) ?_
      refine y_istore (lv' := [(7, .int v8), (6, .int v9), (5, .int (nI (7 * j))), (4, .ref (ad 70)), (3, .ref (ad 69)), (2, .ref (ad 52)), (1, .ref (ad 0)), (0, .ref (g.2.2 40))]) d_Lw_law_923 (by decide) rfl ?_
      refine y_goto (tgt := 1808) d_Lw_law_925 (by decide) ?_
      refine y_lv (lv' := [(5, .int (nI (7 * j))), (4, .ref (ad 70)), (3, .ref (ad 69)), (2, .ref (ad 52)), (1, .ref (ad 0)), (0, .ref (g.2.2 40))]) [2, 3, 4, 5, 6, 7] rfl ?_
      refine y_end (fun wC hC => ?_)
      exact LC_next (IVm.nil hC hI) ((RY_makeCores (b := 48 * j) (by omega) _ _ hR huC huM).up (by omega)) hJ hL ih (by omega) (by omega)
theorem d_Lw_law_928 : decode code 928 = .ok (.aload_n 1, 1) := zo_43 (zd_b zq_code_29 0 rfl rfl rfl)
theorem d_Lw_law_929 : decode code 929 = .ok (.invokevirtual 239, 3) := zo_182 (d := 0) (e := 239) (zd_b zq_code_29 1 rfl rfl rfl) (zd_b zq_code_29 2 rfl rfl rfl) (zd_b zq_code_29 3 rfl rfl rfl)
theorem ok_Lw_law_Ip_goodCores : z_ok M_Lw_law M_Ip_goodCores 0 := ⟨z_mj2 (i := 156) rfl (by decide +kernel), rfl, ⟨by decide +kernel, by decide +kernel, by decide +kernel⟩, ⟨by decide, by decide⟩, z_mj1 (i := 1) rfl (by decide +kernel), rfl⟩
theorem ln_Lw_239 : Cond.methodLink "IronpourLaw" 239 M_Ip_goodCores.1 ∈ z_gw := z_mj2 (i := 153) rfl (by decide +kernel)
theorem w_im_Ip_goodCores : Cond.instanceMethod M_Ip_goodCores.1 ∈ z_gw := z_mj2 (i := 154) rfl (by decide +kernel)
theorem w_se_Ip_goodCores : Cond.selects M_Ip_goodCores.1.cls M_Ip_goodCores.1 M_Ip_goodCores.1 ∈ z_gw := z_mj2 (i := 155) rfl (by decide +kernel)
theorem d_Lw_law_932 : decode code 932 = .ok (.pop, 1) := zo_87 (zd_b zq_code_29 4 rfl rfl rfl)
theorem d_Lw_law_933 : decode code 933 = .ok (.aload_n 2, 1) := zo_44 (zd_b zq_code_29 5 rfl rfl rfl)
theorem d_Lw_law_934 : decode code 934 = .ok (.invokevirtual 242, 3) := zo_182 (d := 0) (e := 242) (zd_b zq_code_29 6 rfl rfl rfl) (zd_b zq_code_29 7 rfl rfl rfl) (zd_b zq_code_29 8 rfl rfl rfl)
theorem ok_Lw_law_Mm_goodCores : z_ok M_Lw_law M_Mm_goodCores 0 := ⟨z_mj8 (i := 135) rfl (by decide +kernel), rfl, ⟨by decide +kernel, by decide +kernel, by decide +kernel⟩, ⟨by decide, by decide⟩, z_mj1 (i := 14) rfl (by decide +kernel), rfl⟩
theorem ln_Lw_242 : Cond.methodLink "IronpourLaw" 242 M_Mm_goodCores.1 ∈ z_gw := z_mj8 (i := 132) rfl (by decide +kernel)
theorem w_im_Mm_goodCores : Cond.instanceMethod M_Mm_goodCores.1 ∈ z_gw := z_mj8 (i := 133) rfl (by decide +kernel)
theorem w_se_Mm_goodCores : Cond.selects M_Mm_goodCores.1.cls M_Mm_goodCores.1 M_Mm_goodCores.1 ∈ z_gw := z_mj8 (i := 134) rfl (by decide +kernel)
theorem d_Lw_law_937 : decode code 937 = .ok (.pop, 1) := zo_87 (zd_b zq_code_29 9 rfl rfl rfl)
theorem d_Lw_law_938 : decode code 938 = .ok (.goto 870, 3) := zo_167 (d := 3) (e := 102) (zd_b zq_code_29 10 rfl rfl rfl) (zd_b zq_code_29 11 rfl rfl rfl) (zd_b zq_code_29 12 rfl rfl rfl) (by decide +kernel)
set_option maxHeartbeats 4000000 in
set_option maxRecDepth 100000 in
theorem LC_goodCores {g : zG} {ad : Nat → Nat} {t : zTT} {u : zNN} {w : zW} {j : Nat} (hI : IVm g ad t u w) (hR : REY t u.1 (48 * j)) {r : Nat} (hJ : 7 * j + 7 ≤ g.2.2 41) (hL : g.2.2 41 ≤ 3584) (ih : LWI g ad j r) : DW g M_Lw_law lwQ w 928 [(5, .int (nI (7 * j))), (4, .ref (ad 70)), (3, .ref (ad 69)), (2, .ref (ad 52)), (1, .ref (ad 0)), (0, .ref (g.2.2 40))] [] (100 * (r + 1)) (1000 * (r + 1)) := by
  refine y_base (cs := []) (z_I.nil w) ?_
  refine y_aload_n d_Lw_law_928 rfl 4 rfl ?_
  refine yw_callVL (As := []) (rest := []) (ci := 11) rfl (fun wA hA => (IVm.nil hA hI).ra) ln_Lw_239 w_im_Ip_goodCores w_se_Ip_goodCores ok_Lw_law_Ip_goodCores d_Lw_law_929 (fun wA hA => K_Ip_goodCores (IVm.nil hA hI)) rfl rfl (Nat.le_of_ble_eq_true rfl) (by omega) (by omega) (fun wA929 hA929 E wB929 hx => ?_) (fun wA929 hA929 v wB929 hx => ?_)
  · obtain ⟨h1, -⟩ := hx
    cases zriE h1
  · obtain ⟨h1, uC, huC, hI2⟩ := hx
    obtain ⟨v9, rfl⟩ := zriV h1
    refine yw_st (st2 := [.int v9]) rfl ?_
    have hI := hI2
    refine y_base (cs := []) (z_I.nil _) ?_
    refine y_pop d_Lw_law_932 rfl ?_
    refine y_aload_n d_Lw_law_933 rfl 3 rfl ?_
    refine yw_callVL (As := []) (rest := []) (ci := 12) rfl (fun wA hA => (IVm.nil hA hI).rm) ln_Lw_242 w_im_Mm_goodCores w_se_Mm_goodCores ok_Lw_law_Mm_goodCores d_Lw_law_934 (fun wA hA => K_Mm_goodCores (IVm.nil hA hI)) rfl rfl (Nat.le_of_ble_eq_true rfl) (by omega) (by omega) (fun wA934 hA934 E wB934 hx => ?_) (fun wA934 hA934 v wB934 hx => ?_)
    · obtain ⟨⟨v8, e1⟩, -⟩ := hx
      cases e1
    · obtain ⟨⟨v8, e1⟩, uM, huM, hI2⟩ := hx
      cases e1
      refine yw_st (st2 := [.int v8]) rfl ?_
      have hI := hI2
      refine y_base (cs := []) (z_I.nil _) ?_
      refine y_pop d_Lw_law_937 rfl ?_
      refine y_goto (tgt := 1808) d_Lw_law_938 (by decide) ?_
      refine y_lv (lv' := [(5, .int (nI (7 * j))), (4, .ref (ad 70)), (3, .ref (ad 69)), (2, .ref (ad 52)), (1, .ref (ad 0)), (0, .ref (g.2.2 40))]) [0, 1, 2, 3, 4, 5] rfl ?_
      refine y_end (fun wC hC => ?_)
      exact LC_next (IVm.nil hC hI) ((hR.n (huM.trans huC)).up (by omega)) hJ hL ih (by omega) (by omega)
theorem d_Lw_law_941 : decode code 941 = .ok (.aload_n 1, 1) := zo_43 (zd_b zq_code_29 13 rfl rfl rfl)
theorem d_Lw_law_942 : decode code 942 = .ok (.aload_n 0, 1) := zo_42 (zd_b zq_code_29 14 rfl rfl rfl)
theorem d_Lw_law_943 : decode code 943 = .ok (.iload 5, 2) := zo_21 (d := 5) (zd_b zq_code_29 15 rfl rfl rfl) (zd_b zq_code_29 16 rfl rfl rfl)
theorem d_Lw_law_945 : decode code 945 = .ok (.iconst 1, 1) := zo_4 (zd_b zq_code_29 17 rfl rfl rfl)
theorem d_Lw_law_946 : decode code 946 = .ok (.iadd, 1) := zo_96 (zd_b zq_code_29 18 rfl rfl rfl)
theorem d_Lw_law_947 : decode code 947 = .ok (.iaload, 1) := zo_46 (zd_b zq_code_29 19 rfl rfl rfl)
theorem d_Lw_law_948 : decode code 948 = .ok (.aload_n 3, 1) := zo_45 (zd_b zq_code_29 20 rfl rfl rfl)
theorem d_Lw_law_949 : decode code 949 = .ok (.invokestatic 243, 3) := zo_184 (d := 0) (e := 243) (zd_b zq_code_29 21 rfl rfl rfl) (zd_b zq_code_29 22 rfl rfl rfl) (zd_b zq_code_29 23 rfl rfl rfl)
theorem ok_Lw_law_Lw_hours : z_okX M_Lw_law M_Lw_hours 3 := ⟨z_mj5 (i := 0) rfl (by decide +kernel), by decide, ⟨by decide +kernel, by decide +kernel, by decide +kernel⟩, ⟨by decide, by decide⟩, z_mj1 (i := 0) rfl (by decide +kernel), rfl⟩
theorem ln_Lw_243 : Cond.methodLink "IronpourLaw" 243 M_Lw_hours.1 ∈ z_gw := z_mj4 (i := 238) rfl (by decide +kernel)
theorem w_st_Lw_hours : Cond.static M_Lw_hours.1 ∈ z_gw := z_mj4 (i := 239) rfl (by decide +kernel)
theorem d_Lw_law_952 : decode code 952 = .ok (.istore 6, 2) := zo_54 (d := 6) (zd_b zq_code_29 24 rfl rfl rfl) (zd_b zq_code_29 25 rfl rfl rfl)
theorem d_Lw_law_954 : decode code 954 = .ok (.aload_n 2, 1) := zo_44 (zd_b zq_code_29 26 rfl rfl rfl)
theorem d_Lw_law_955 : decode code 955 = .ok (.aload_n 0, 1) := zo_42 (zd_b zq_code_29 27 rfl rfl rfl)
theorem d_Lw_law_956 : decode code 956 = .ok (.iload 5, 2) := zo_21 (d := 5) (zd_b zq_code_29 28 rfl rfl rfl) (zd_b zq_code_29 29 rfl rfl rfl)
theorem d_Lw_law_958 : decode code 958 = .ok (.iconst 1, 1) := zo_4 (zd_b zq_code_29 30 rfl rfl rfl)
theorem d_Lw_law_959 : decode code 959 = .ok (.iadd, 1) := zo_96 (zd_b zq_code_29 31 rfl rfl rfl)
theorem d_Lw_law_960 : decode code 960 = .ok (.iaload, 1) := zo_46 (zd_b zq_code_30 0 rfl rfl rfl)
theorem d_Lw_law_961 : decode code 961 = .ok (.invokevirtual 245, 3) := zo_182 (d := 0) (e := 245) (zd_b zq_code_30 1 rfl rfl rfl) (zd_b zq_code_30 2 rfl rfl rfl) (zd_b zq_code_30 3 rfl rfl rfl)
theorem ok_Lw_law_Mm_hours : z_ok M_Lw_law M_Mm_hours 1 := ⟨z_mj8 (i := 143) rfl (by decide +kernel), rfl, ⟨by decide +kernel, by decide +kernel, by decide +kernel⟩, ⟨by decide, by decide⟩, z_mj1 (i := 14) rfl (by decide +kernel), rfl⟩
theorem ln_Lw_245 : Cond.methodLink "IronpourLaw" 245 M_Mm_hours.1 ∈ z_gw := z_mj8 (i := 140) rfl (by decide +kernel)
theorem w_im_Mm_hours : Cond.instanceMethod M_Mm_hours.1 ∈ z_gw := z_mj8 (i := 141) rfl (by decide +kernel)
theorem w_se_Mm_hours : Cond.selects M_Mm_hours.1.cls M_Mm_hours.1 M_Mm_hours.1 ∈ z_gw := z_mj8 (i := 142) rfl (by decide +kernel)
theorem d_Lw_law_964 : decode code 964 = .ok (.istore 7, 2) := zo_54 (d := 7) (zd_b zq_code_30 4 rfl rfl rfl) (zd_b zq_code_30 5 rfl rfl rfl)
theorem d_Lw_law_966 : decode code 966 = .ok (.goto 842, 3) := zo_167 (d := 3) (e := 74) (zd_b zq_code_30 6 rfl rfl rfl) (zd_b zq_code_30 7 rfl rfl rfl) (zd_b zq_code_30 8 rfl rfl rfl) (by decide +kernel)
set_option maxHeartbeats 4000000 in
set_option maxRecDepth 100000 in
theorem LC_hours {g : zG} {ad : Nat → Nat} {t : zTT} {u : zNN} {w : zW} {j : Nat} (hI : IVm g ad t u w) (hR : REY t u.1 (48 * j)) {r : Nat} (hJ : 7 * j + 7 ≤ g.2.2 41) (hL : g.2.2 41 ≤ 3584) (ih : LWI g ad j r) : DW g M_Lw_law lwQ w 941 [(5, .int (nI (7 * j))), (4, .ref (ad 70)), (3, .ref (ad 69)), (2, .ref (ad 52)), (1, .ref (ad 0)), (0, .ref (g.2.2 40))] [] (100 * (r + 1)) (1000 * (r + 1)) := by
  refine y_base (cs := []) (z_I.nil w) ?_
  refine y_aload_n d_Lw_law_941 rfl 4 rfl ?_
  refine y_aload_n d_Lw_law_942 rfl 5 rfl ?_
  refine y_iload d_Lw_law_943 0 rfl ?_
  refine y_iconst d_Lw_law_945 (v := 1) (by decide) ?_
  refine y_iadd d_Lw_law_946 (v := nI ((7 * j) + 1)) (nI_add _ _) ?_
  refine y_sld (v := zs g (7 * j + 1)) d_Lw_law_947 (vp_in_nI (by omega) (by omega)) (by rw [nI_clamp (by omega)]; rfl) ?_
  refine y_aload_n d_Lw_law_948 rfl 2 rfl ?_
  refine yw_callSX (As := [.ref (ad 0), .int (zs g (7 * j + 1)), .ref (ad 69)]) (rest := []) ln_Lw_243 w_st_Lw_hours ok_Lw_law_Lw_hours d_Lw_law_949 (fun wA hA => W_hours (IVm.nil hA hI) _) rfl rfl (Nat.le_of_ble_eq_true rfl) (by omega) (by omega) (fun wA949 hA949 E wB949 hx => ?_) (fun wA949 hA949 v wB949 hx => ?_)
  · obtain ⟨⟨v9, e1⟩, -⟩ := hx
    cases e1
  · obtain ⟨⟨v9, e1⟩, uC, huC, hI2⟩ := hx
    cases e1
    refine yw_st (st2 := [.int v9]) rfl ?_
    have hI := hI2
    refine y_base (cs := []) (z_I.nil _) ?_
    refine y_istore (lv' := [(6, .int v9), (5, .int (nI (7 * j))), (4, .ref (ad 70)), (3, .ref (ad 69)), (2, .ref (ad 52)), (1, .ref (ad 0)), (0, .ref (g.2.2 40))]) d_Lw_law_952 (by decide) rfl ?_
    refine y_aload_n d_Lw_law_954 rfl 4 rfl ?_
    refine y_aload_n d_Lw_law_955 rfl 6 rfl ?_
    refine y_iload d_Lw_law_956 1 rfl ?_
    refine y_iconst d_Lw_law_958 (v := 1) (by decide) ?_
    refine y_iadd d_Lw_law_959 (v := nI ((7 * j) + 1)) (nI_add _ _) ?_
    refine y_sld (v := zs g (7 * j + 1)) d_Lw_law_960 (vp_in_nI (by omega) (by omega)) (by rw [nI_clamp (by omega)]; rfl) ?_
    refine yw_callVL (As := [.int (zs g (7 * j + 1))]) (rest := []) (ci := 12) rfl (fun wA hA => (IVm.nil hA hI).rm) ln_Lw_245 w_im_Mm_hours w_se_Mm_hours ok_Lw_law_Mm_hours d_Lw_law_961 (fun wA hA => K_Mm_hours (IVm.nil hA hI) _) rfl rfl (Nat.le_of_ble_eq_true rfl) (by omega) (by omega) (fun wA961 hA961 E wB961 hx => ?_) (fun wA961 hA961 v wB961 hx => ?_)
    · obtain ⟨⟨v8, e1⟩, -⟩ := hx
      cases e1
    · obtain ⟨⟨v8, e1⟩, uM, huM, hI2⟩ := hx
      cases e1
      refine yw_st (st2 := [.int v8]) rfl ?_
      have hI := hI2
      refine y_base (cs := []) (z_I.nil _) ?_
      refine y_istore (lv' := [(7, .int v8), (6, .int v9), (5, .int (nI (7 * j))), (4, .ref (ad 70)), (3, .ref (ad 69)), (2, .ref (ad 52)), (1, .ref (ad 0)), (0, .ref (g.2.2 40))]) d_Lw_law_964 (by decide) rfl ?_
      refine y_goto (tgt := 1808) d_Lw_law_966 (by decide) ?_
      refine y_lv (lv' := [(5, .int (nI (7 * j))), (4, .ref (ad 70)), (3, .ref (ad 69)), (2, .ref (ad 52)), (1, .ref (ad 0)), (0, .ref (g.2.2 40))]) [2, 3, 4, 5, 6, 7] rfl ?_
      refine y_end (fun wC hC => ?_)
      exact LC_next (IVm.nil hC hI) ((RY_hours (b := 48 * j) (by omega) _ hR huC huM).up (by omega)) hJ hL ih (by omega) (by omega)
theorem d_Lw_law_969 : decode code 969 = .ok (.aload_n 1, 1) := zo_43 (zd_b zq_code_30 9 rfl rfl rfl)
theorem d_Lw_law_970 : decode code 970 = .ok (.aload_n 0, 1) := zo_42 (zd_b zq_code_30 10 rfl rfl rfl)
theorem d_Lw_law_971 : decode code 971 = .ok (.iload 5, 2) := zo_21 (d := 5) (zd_b zq_code_30 11 rfl rfl rfl) (zd_b zq_code_30 12 rfl rfl rfl)
theorem d_Lw_law_973 : decode code 973 = .ok (.iconst 1, 1) := zo_4 (zd_b zq_code_30 13 rfl rfl rfl)
theorem d_Lw_law_974 : decode code 974 = .ok (.iadd, 1) := zo_96 (zd_b zq_code_30 14 rfl rfl rfl)
theorem d_Lw_law_975 : decode code 975 = .ok (.iaload, 1) := zo_46 (zd_b zq_code_30 15 rfl rfl rfl)
theorem d_Lw_law_976 : decode code 976 = .ok (.i2c, 1) := zo_146 (zd_b zq_code_30 16 rfl rfl rfl)
theorem d_Lw_law_977 : decode code 977 = .ok (.aload_n 0, 1) := zo_42 (zd_b zq_code_30 17 rfl rfl rfl)
theorem d_Lw_law_978 : decode code 978 = .ok (.iload 5, 2) := zo_21 (d := 5) (zd_b zq_code_30 18 rfl rfl rfl) (zd_b zq_code_30 19 rfl rfl rfl)
theorem d_Lw_law_980 : decode code 980 = .ok (.iconst 2, 1) := zo_5 (zd_b zq_code_30 20 rfl rfl rfl)
theorem d_Lw_law_981 : decode code 981 = .ok (.iadd, 1) := zo_96 (zd_b zq_code_30 21 rfl rfl rfl)
theorem d_Lw_law_982 : decode code 982 = .ok (.iaload, 1) := zo_46 (zd_b zq_code_30 22 rfl rfl rfl)
theorem d_Lw_law_983 : decode code 983 = .ok (.aload_n 3, 1) := zo_45 (zd_b zq_code_30 23 rfl rfl rfl)
theorem d_Lw_law_984 : decode code 984 = .ok (.invokestatic 246, 3) := zo_184 (d := 0) (e := 246) (zd_b zq_code_30 24 rfl rfl rfl) (zd_b zq_code_30 25 rfl rfl rfl) (zd_b zq_code_30 26 rfl rfl rfl)
theorem ok_Lw_law_Lw_charge : z_okX M_Lw_law M_Lw_charge 4 := ⟨z_mj5 (i := 16) rfl (by decide +kernel), by decide, ⟨by decide +kernel, by decide +kernel, by decide +kernel⟩, ⟨by decide, by decide⟩, z_mj1 (i := 0) rfl (by decide +kernel), rfl⟩
theorem ln_Lw_246 : Cond.methodLink "IronpourLaw" 246 M_Lw_charge.1 ∈ z_gw := z_mj5 (i := 14) rfl (by decide +kernel)
theorem w_st_Lw_charge : Cond.static M_Lw_charge.1 ∈ z_gw := z_mj5 (i := 15) rfl (by decide +kernel)
theorem d_Lw_law_987 : decode code 987 = .ok (.istore 6, 2) := zo_54 (d := 6) (zd_b zq_code_30 27 rfl rfl rfl) (zd_b zq_code_30 28 rfl rfl rfl)
theorem d_Lw_law_989 : decode code 989 = .ok (.aload_n 2, 1) := zo_44 (zd_b zq_code_30 29 rfl rfl rfl)
theorem d_Lw_law_990 : decode code 990 = .ok (.aload_n 0, 1) := zo_42 (zd_b zq_code_30 30 rfl rfl rfl)
theorem d_Lw_law_991 : decode code 991 = .ok (.iload 5, 2) := zo_21 (d := 5) (zd_b zq_code_30 31 rfl rfl rfl) (zd_b zq_code_31 0 rfl rfl rfl)
theorem d_Lw_law_993 : decode code 993 = .ok (.iconst 1, 1) := zo_4 (zd_b zq_code_31 1 rfl rfl rfl)
theorem d_Lw_law_994 : decode code 994 = .ok (.iadd, 1) := zo_96 (zd_b zq_code_31 2 rfl rfl rfl)
theorem d_Lw_law_995 : decode code 995 = .ok (.iaload, 1) := zo_46 (zd_b zq_code_31 3 rfl rfl rfl)
theorem d_Lw_law_996 : decode code 996 = .ok (.i2c, 1) := zo_146 (zd_b zq_code_31 4 rfl rfl rfl)
theorem d_Lw_law_997 : decode code 997 = .ok (.aload_n 0, 1) := zo_42 (zd_b zq_code_31 5 rfl rfl rfl)
theorem d_Lw_law_998 : decode code 998 = .ok (.iload 5, 2) := zo_21 (d := 5) (zd_b zq_code_31 6 rfl rfl rfl) (zd_b zq_code_31 7 rfl rfl rfl)
theorem d_Lw_law_1000 : decode code 1000 = .ok (.iconst 2, 1) := zo_5 (zd_b zq_code_31 8 rfl rfl rfl)
theorem d_Lw_law_1001 : decode code 1001 = .ok (.iadd, 1) := zo_96 (zd_b zq_code_31 9 rfl rfl rfl)
theorem d_Lw_law_1002 : decode code 1002 = .ok (.iaload, 1) := zo_46 (zd_b zq_code_31 10 rfl rfl rfl)
theorem d_Lw_law_1003 : decode code 1003 = .ok (.invokevirtual 249, 3) := zo_182 (d := 0) (e := 249) (zd_b zq_code_31 11 rfl rfl rfl) (zd_b zq_code_31 12 rfl rfl rfl) (zd_b zq_code_31 13 rfl rfl rfl)
theorem ok_Lw_law_Mm_charge : z_ok M_Lw_law M_Mm_charge 2 := ⟨z_mj8 (i := 148) rfl (by decide +kernel), rfl, ⟨by decide +kernel, by decide +kernel, by decide +kernel⟩, ⟨by decide, by decide⟩, z_mj1 (i := 14) rfl (by decide +kernel), rfl⟩
theorem ln_Lw_249 : Cond.methodLink "IronpourLaw" 249 M_Mm_charge.1 ∈ z_gw := z_mj8 (i := 145) rfl (by decide +kernel)
theorem w_im_Mm_charge : Cond.instanceMethod M_Mm_charge.1 ∈ z_gw := z_mj8 (i := 146) rfl (by decide +kernel)
theorem w_se_Mm_charge : Cond.selects M_Mm_charge.1.cls M_Mm_charge.1 M_Mm_charge.1 ∈ z_gw := z_mj8 (i := 147) rfl (by decide +kernel)
theorem d_Lw_law_1006 : decode code 1006 = .ok (.istore 7, 2) := zo_54 (d := 7) (zd_b zq_code_31 14 rfl rfl rfl) (zd_b zq_code_31 15 rfl rfl rfl)
theorem d_Lw_law_1008 : decode code 1008 = .ok (.goto 800, 3) := zo_167 (d := 3) (e := 32) (zd_b zq_code_31 16 rfl rfl rfl) (zd_b zq_code_31 17 rfl rfl rfl) (zd_b zq_code_31 18 rfl rfl rfl) (by decide +kernel)
set_option maxHeartbeats 4000000 in
set_option maxRecDepth 100000 in
theorem LC_charge {g : zG} {ad : Nat → Nat} {t : zTT} {u : zNN} {w : zW} {j : Nat} (hI : IVm g ad t u w) (hR : REY t u.1 (48 * j)) {r : Nat} (hJ : 7 * j + 7 ≤ g.2.2 41) (hL : g.2.2 41 ≤ 3584) (ih : LWI g ad j r) : DW g M_Lw_law lwQ w 969 [(5, .int (nI (7 * j))), (4, .ref (ad 70)), (3, .ref (ad 69)), (2, .ref (ad 52)), (1, .ref (ad 0)), (0, .ref (g.2.2 40))] [] (100 * (r + 1)) (1000 * (r + 1)) := by
  refine y_base (cs := []) (z_I.nil w) ?_
  refine y_aload_n d_Lw_law_969 rfl 4 rfl ?_
  refine y_aload_n d_Lw_law_970 rfl 5 rfl ?_
  refine y_iload d_Lw_law_971 0 rfl ?_
  refine y_iconst d_Lw_law_973 (v := 1) (by decide) ?_
  refine y_iadd d_Lw_law_974 (v := nI ((7 * j) + 1)) (nI_add _ _) ?_
  refine y_sld (v := zs g (7 * j + 1)) d_Lw_law_975 (vp_in_nI (by omega) (by omega)) (by rw [nI_clamp (by omega)]; rfl) ?_
  refine y_i2c d_Lw_law_976 (v := zc g (7 * j + 1)) rfl ?_
  refine y_aload_n d_Lw_law_977 rfl 5 rfl ?_
  refine y_iload d_Lw_law_978 0 rfl ?_
  refine y_iconst d_Lw_law_980 (v := 2) (by decide) ?_
  refine y_iadd d_Lw_law_981 (v := nI ((7 * j) + 2)) (nI_add _ _) ?_
  refine y_sld (v := zs g (7 * j + 2)) d_Lw_law_982 (vp_in_nI (by omega) (by omega)) (by rw [nI_clamp (by omega)]; rfl) ?_
  refine y_aload_n d_Lw_law_983 rfl 2 rfl ?_
  refine yw_callSX (As := [.ref (ad 0), .int (zc g (7 * j + 1)), .int (zs g (7 * j + 2)), .ref (ad 69)]) (rest := []) ln_Lw_246 w_st_Lw_charge ok_Lw_law_Lw_charge d_Lw_law_984 (fun wA hA => W_charge (IVm.nil hA hI) _ _) rfl rfl (Nat.le_of_ble_eq_true rfl) (by omega) (by omega) (fun wA984 hA984 E wB984 hx => ?_) (fun wA984 hA984 v wB984 hx => ?_)
  · obtain ⟨⟨v9, e1⟩, -⟩ := hx
    cases e1
  · obtain ⟨⟨v9, e1⟩, uC, huC, hI2⟩ := hx
    cases e1
    refine yw_st (st2 := [.int v9]) rfl ?_
    have hI := hI2
    refine y_base (cs := []) (z_I.nil _) ?_
    refine y_istore (lv' := [(6, .int v9), (5, .int (nI (7 * j))), (4, .ref (ad 70)), (3, .ref (ad 69)), (2, .ref (ad 52)), (1, .ref (ad 0)), (0, .ref (g.2.2 40))]) d_Lw_law_987 (by decide) rfl ?_
    refine y_aload_n d_Lw_law_989 rfl 4 rfl ?_
    refine y_aload_n d_Lw_law_990 rfl 6 rfl ?_
    refine y_iload d_Lw_law_991 1 rfl ?_
    refine y_iconst d_Lw_law_993 (v := 1) (by decide) ?_
    refine y_iadd d_Lw_law_994 (v := nI ((7 * j) + 1)) (nI_add _ _) ?_
    refine y_sld (v := zs g (7 * j + 1)) d_Lw_law_995 (vp_in_nI (by omega) (by omega)) (by rw [nI_clamp (by omega)]; rfl) ?_
    refine y_i2c d_Lw_law_996 (v := zc g (7 * j + 1)) rfl ?_
    refine y_aload_n d_Lw_law_997 rfl 6 rfl ?_
    refine y_iload d_Lw_law_998 1 rfl ?_
    refine y_iconst d_Lw_law_1000 (v := 2) (by decide) ?_
    refine y_iadd d_Lw_law_1001 (v := nI ((7 * j) + 2)) (nI_add _ _) ?_
    refine y_sld (v := zs g (7 * j + 2)) d_Lw_law_1002 (vp_in_nI (by omega) (by omega)) (by rw [nI_clamp (by omega)]; rfl) ?_
    refine yw_callVL (As := [.int (zc g (7 * j + 1)), .int (zs g (7 * j + 2))]) (rest := []) (ci := 12) rfl (fun wA hA => (IVm.nil hA hI).rm) ln_Lw_249 w_im_Mm_charge w_se_Mm_charge ok_Lw_law_Mm_charge d_Lw_law_1003 (fun wA hA => K_Mm_charge (IVm.nil hA hI) _ _) rfl rfl (Nat.le_of_ble_eq_true rfl) (by omega) (by omega) (fun wA1003 hA1003 E wB1003 hx => ?_) (fun wA1003 hA1003 v wB1003 hx => ?_)
    · obtain ⟨⟨v8, e1⟩, -⟩ := hx
      cases e1
    · obtain ⟨⟨v8, e1⟩, uM, huM, hI2⟩ := hx
      cases e1
      refine yw_st (st2 := [.int v8]) rfl ?_
      have hI := hI2
      refine y_base (cs := []) (z_I.nil _) ?_
      refine y_istore (lv' := [(7, .int v8), (6, .int v9), (5, .int (nI (7 * j))), (4, .ref (ad 70)), (3, .ref (ad 69)), (2, .ref (ad 52)), (1, .ref (ad 0)), (0, .ref (g.2.2 40))]) d_Lw_law_1006 (by decide) rfl ?_
      refine y_goto (tgt := 1808) d_Lw_law_1008 (by decide) ?_
      refine y_lv (lv' := [(5, .int (nI (7 * j))), (4, .ref (ad 70)), (3, .ref (ad 69)), (2, .ref (ad 52)), (1, .ref (ad 0)), (0, .ref (g.2.2 40))]) [2, 3, 4, 5, 6, 7] rfl ?_
      refine y_end (fun wC hC => ?_)
      exact LC_next (IVm.nil hC hI) ((RY_charge (b := 48 * j) (by omega) _ _ hR huC huM).up (by omega)) hJ hL ih (by omega) (by omega)
theorem d_Lw_law_1011 : decode code 1011 = .ok (.aload_n 1, 1) := zo_43 (zd_b zq_code_31 19 rfl rfl rfl)
theorem d_Lw_law_1012 : decode code 1012 = .ok (.aload_n 0, 1) := zo_42 (zd_b zq_code_31 20 rfl rfl rfl)
theorem d_Lw_law_1013 : decode code 1013 = .ok (.iload 5, 2) := zo_21 (d := 5) (zd_b zq_code_31 21 rfl rfl rfl) (zd_b zq_code_31 22 rfl rfl rfl)
theorem d_Lw_law_1015 : decode code 1015 = .ok (.iconst 1, 1) := zo_4 (zd_b zq_code_31 23 rfl rfl rfl)
theorem d_Lw_law_1016 : decode code 1016 = .ok (.iadd, 1) := zo_96 (zd_b zq_code_31 24 rfl rfl rfl)
theorem d_Lw_law_1017 : decode code 1017 = .ok (.iaload, 1) := zo_46 (zd_b zq_code_31 25 rfl rfl rfl)
theorem d_Lw_law_1018 : decode code 1018 = .ok (.i2c, 1) := zo_146 (zd_b zq_code_31 26 rfl rfl rfl)
theorem d_Lw_law_1019 : decode code 1019 = .ok (.aload_n 3, 1) := zo_45 (zd_b zq_code_31 27 rfl rfl rfl)
theorem d_Lw_law_1020 : decode code 1020 = .ok (.invokestatic 250, 3) := zo_184 (d := 0) (e := 250) (zd_b zq_code_31 28 rfl rfl rfl) (zd_b zq_code_31 29 rfl rfl rfl) (zd_b zq_code_31 30 rfl rfl rfl)
theorem ok_Lw_law_Lw_furnace : z_okX M_Lw_law M_Lw_furnace 3 := ⟨z_mj5 (i := 67) rfl (by decide +kernel), by decide, ⟨by decide +kernel, by decide +kernel, by decide +kernel⟩, ⟨by decide, by decide⟩, z_mj1 (i := 0) rfl (by decide +kernel), rfl⟩
theorem ln_Lw_250 : Cond.methodLink "IronpourLaw" 250 M_Lw_furnace.1 ∈ z_gw := z_mj5 (i := 65) rfl (by decide +kernel)
theorem w_st_Lw_furnace : Cond.static M_Lw_furnace.1 ∈ z_gw := z_mj5 (i := 66) rfl (by decide +kernel)
theorem d_Lw_law_1023 : decode code 1023 = .ok (.istore 6, 2) := zo_54 (d := 6) (zd_b zq_code_31 31 rfl rfl rfl) (zd_b zq_code_32 0 rfl rfl rfl)
theorem d_Lw_law_1025 : decode code 1025 = .ok (.aload_n 2, 1) := zo_44 (zd_b zq_code_32 1 rfl rfl rfl)
theorem d_Lw_law_1026 : decode code 1026 = .ok (.aload_n 0, 1) := zo_42 (zd_b zq_code_32 2 rfl rfl rfl)
theorem d_Lw_law_1027 : decode code 1027 = .ok (.iload 5, 2) := zo_21 (d := 5) (zd_b zq_code_32 3 rfl rfl rfl) (zd_b zq_code_32 4 rfl rfl rfl)
theorem d_Lw_law_1029 : decode code 1029 = .ok (.iconst 1, 1) := zo_4 (zd_b zq_code_32 5 rfl rfl rfl)
theorem d_Lw_law_1030 : decode code 1030 = .ok (.iadd, 1) := zo_96 (zd_b zq_code_32 6 rfl rfl rfl)
theorem d_Lw_law_1031 : decode code 1031 = .ok (.iaload, 1) := zo_46 (zd_b zq_code_32 7 rfl rfl rfl)
theorem d_Lw_law_1032 : decode code 1032 = .ok (.i2c, 1) := zo_146 (zd_b zq_code_32 8 rfl rfl rfl)
theorem d_Lw_law_1033 : decode code 1033 = .ok (.invokevirtual 252, 3) := zo_182 (d := 0) (e := 252) (zd_b zq_code_32 9 rfl rfl rfl) (zd_b zq_code_32 10 rfl rfl rfl) (zd_b zq_code_32 11 rfl rfl rfl)
theorem ok_Lw_law_Mm_furnace : z_ok M_Lw_law M_Mm_furnace 1 := ⟨z_mj8 (i := 161) rfl (by decide +kernel), rfl, ⟨by decide +kernel, by decide +kernel, by decide +kernel⟩, ⟨by decide, by decide⟩, z_mj1 (i := 14) rfl (by decide +kernel), rfl⟩
theorem ln_Lw_252 : Cond.methodLink "IronpourLaw" 252 M_Mm_furnace.1 ∈ z_gw := z_mj8 (i := 158) rfl (by decide +kernel)
theorem w_im_Mm_furnace : Cond.instanceMethod M_Mm_furnace.1 ∈ z_gw := z_mj8 (i := 159) rfl (by decide +kernel)
theorem w_se_Mm_furnace : Cond.selects M_Mm_furnace.1.cls M_Mm_furnace.1 M_Mm_furnace.1 ∈ z_gw := z_mj8 (i := 160) rfl (by decide +kernel)
theorem d_Lw_law_1036 : decode code 1036 = .ok (.istore 7, 2) := zo_54 (d := 7) (zd_b zq_code_32 12 rfl rfl rfl) (zd_b zq_code_32 13 rfl rfl rfl)
theorem d_Lw_law_1038 : decode code 1038 = .ok (.goto 770, 3) := zo_167 (d := 3) (e := 2) (zd_b zq_code_32 14 rfl rfl rfl) (zd_b zq_code_32 15 rfl rfl rfl) (zd_b zq_code_32 16 rfl rfl rfl) (by decide +kernel)
set_option maxHeartbeats 4000000 in
set_option maxRecDepth 100000 in
theorem LC_furnace {g : zG} {ad : Nat → Nat} {t : zTT} {u : zNN} {w : zW} {j : Nat} (hI : IVm g ad t u w) (hR : REY t u.1 (48 * j)) {r : Nat} (hJ : 7 * j + 7 ≤ g.2.2 41) (hL : g.2.2 41 ≤ 3584) (ih : LWI g ad j r) : DW g M_Lw_law lwQ w 1011 [(5, .int (nI (7 * j))), (4, .ref (ad 70)), (3, .ref (ad 69)), (2, .ref (ad 52)), (1, .ref (ad 0)), (0, .ref (g.2.2 40))] [] (100 * (r + 1)) (1000 * (r + 1)) := by
  refine y_base (cs := []) (z_I.nil w) ?_
  refine y_aload_n d_Lw_law_1011 rfl 4 rfl ?_
  refine y_aload_n d_Lw_law_1012 rfl 5 rfl ?_
  refine y_iload d_Lw_law_1013 0 rfl ?_
  refine y_iconst d_Lw_law_1015 (v := 1) (by decide) ?_
  refine y_iadd d_Lw_law_1016 (v := nI ((7 * j) + 1)) (nI_add _ _) ?_
  refine y_sld (v := zs g (7 * j + 1)) d_Lw_law_1017 (vp_in_nI (by omega) (by omega)) (by rw [nI_clamp (by omega)]; rfl) ?_
  refine y_i2c d_Lw_law_1018 (v := zc g (7 * j + 1)) rfl ?_
  refine y_aload_n d_Lw_law_1019 rfl 2 rfl ?_
  refine yw_callSX (As := [.ref (ad 0), .int (zc g (7 * j + 1)), .ref (ad 69)]) (rest := []) ln_Lw_250 w_st_Lw_furnace ok_Lw_law_Lw_furnace d_Lw_law_1020 (fun wA hA => W_furnace (IVm.nil hA hI) _) rfl rfl (Nat.le_of_ble_eq_true rfl) (by omega) (by omega) (fun wA1020 hA1020 E wB1020 hx => ?_) (fun wA1020 hA1020 v wB1020 hx => ?_)
  · obtain ⟨⟨v9, e1⟩, -⟩ := hx
    cases e1
  · obtain ⟨⟨v9, e1⟩, uC, huC, hI2⟩ := hx
    cases e1
    refine yw_st (st2 := [.int v9]) rfl ?_
    have hI := hI2
    refine y_base (cs := []) (z_I.nil _) ?_
    refine y_istore (lv' := [(6, .int v9), (5, .int (nI (7 * j))), (4, .ref (ad 70)), (3, .ref (ad 69)), (2, .ref (ad 52)), (1, .ref (ad 0)), (0, .ref (g.2.2 40))]) d_Lw_law_1023 (by decide) rfl ?_
    refine y_aload_n d_Lw_law_1025 rfl 4 rfl ?_
    refine y_aload_n d_Lw_law_1026 rfl 6 rfl ?_
    refine y_iload d_Lw_law_1027 1 rfl ?_
    refine y_iconst d_Lw_law_1029 (v := 1) (by decide) ?_
    refine y_iadd d_Lw_law_1030 (v := nI ((7 * j) + 1)) (nI_add _ _) ?_
    refine y_sld (v := zs g (7 * j + 1)) d_Lw_law_1031 (vp_in_nI (by omega) (by omega)) (by rw [nI_clamp (by omega)]; rfl) ?_
    refine y_i2c d_Lw_law_1032 (v := zc g (7 * j + 1)) rfl ?_
    refine yw_callVL (As := [.int (zc g (7 * j + 1))]) (rest := []) (ci := 12) rfl (fun wA hA => (IVm.nil hA hI).rm) ln_Lw_252 w_im_Mm_furnace w_se_Mm_furnace ok_Lw_law_Mm_furnace d_Lw_law_1033 (fun wA hA => K_Mm_furnace (IVm.nil hA hI) _) rfl rfl (Nat.le_of_ble_eq_true rfl) (by omega) (by omega) (fun wA1033 hA1033 E wB1033 hx => ?_) (fun wA1033 hA1033 v wB1033 hx => ?_)
    · obtain ⟨⟨v8, e1⟩, -⟩ := hx
      cases e1
    · obtain ⟨⟨v8, e1⟩, uM, huM, hI2⟩ := hx
      cases e1
      refine yw_st (st2 := [.int v8]) rfl ?_
      have hI := hI2
      refine y_base (cs := []) (z_I.nil _) ?_
      refine y_istore (lv' := [(7, .int v8), (6, .int v9), (5, .int (nI (7 * j))), (4, .ref (ad 70)), (3, .ref (ad 69)), (2, .ref (ad 52)), (1, .ref (ad 0)), (0, .ref (g.2.2 40))]) d_Lw_law_1036 (by decide) rfl ?_
      refine y_goto (tgt := 1808) d_Lw_law_1038 (by decide) ?_
      refine y_lv (lv' := [(5, .int (nI (7 * j))), (4, .ref (ad 70)), (3, .ref (ad 69)), (2, .ref (ad 52)), (1, .ref (ad 0)), (0, .ref (g.2.2 40))]) [2, 3, 4, 5, 6, 7] rfl ?_
      refine y_end (fun wC hC => ?_)
      exact LC_next (IVm.nil hC hI) ((hR.n (huM.trans huC)).up (by omega)) hJ hL ih (by omega) (by omega)
theorem d_Lw_law_1041 : decode code 1041 = .ok (.aload_n 1, 1) := zo_43 (zd_b zq_code_32 17 rfl rfl rfl)
theorem d_Lw_law_1042 : decode code 1042 = .ok (.aload_n 0, 1) := zo_42 (zd_b zq_code_32 18 rfl rfl rfl)
theorem d_Lw_law_1043 : decode code 1043 = .ok (.iload 5, 2) := zo_21 (d := 5) (zd_b zq_code_32 19 rfl rfl rfl) (zd_b zq_code_32 20 rfl rfl rfl)
theorem d_Lw_law_1045 : decode code 1045 = .ok (.iconst 1, 1) := zo_4 (zd_b zq_code_32 21 rfl rfl rfl)
theorem d_Lw_law_1046 : decode code 1046 = .ok (.iadd, 1) := zo_96 (zd_b zq_code_32 22 rfl rfl rfl)
theorem d_Lw_law_1047 : decode code 1047 = .ok (.iaload, 1) := zo_46 (zd_b zq_code_32 23 rfl rfl rfl)
theorem d_Lw_law_1048 : decode code 1048 = .ok (.aload_n 3, 1) := zo_45 (zd_b zq_code_32 24 rfl rfl rfl)
theorem d_Lw_law_1049 : decode code 1049 = .ok (.invokestatic 253, 3) := zo_184 (d := 0) (e := 253) (zd_b zq_code_32 25 rfl rfl rfl) (zd_b zq_code_32 26 rfl rfl rfl) (zd_b zq_code_32 27 rfl rfl rfl)
theorem ok_Lw_law_Lw_hold : z_okX M_Lw_law M_Lw_hold 3 := ⟨z_mj5 (i := 85) rfl (by decide +kernel), by decide, ⟨by decide +kernel, by decide +kernel, by decide +kernel⟩, ⟨by decide, by decide⟩, z_mj1 (i := 0) rfl (by decide +kernel), rfl⟩
theorem ln_Lw_253 : Cond.methodLink "IronpourLaw" 253 M_Lw_hold.1 ∈ z_gw := z_mj5 (i := 83) rfl (by decide +kernel)
theorem w_st_Lw_hold : Cond.static M_Lw_hold.1 ∈ z_gw := z_mj5 (i := 84) rfl (by decide +kernel)
theorem d_Lw_law_1052 : decode code 1052 = .ok (.istore 6, 2) := zo_54 (d := 6) (zd_b zq_code_32 28 rfl rfl rfl) (zd_b zq_code_32 29 rfl rfl rfl)
theorem d_Lw_law_1054 : decode code 1054 = .ok (.aload_n 2, 1) := zo_44 (zd_b zq_code_32 30 rfl rfl rfl)
theorem d_Lw_law_1055 : decode code 1055 = .ok (.aload_n 0, 1) := zo_42 (zd_b zq_code_32 31 rfl rfl rfl)
theorem d_Lw_law_1056 : decode code 1056 = .ok (.iload 5, 2) := zo_21 (d := 5) (zd_b zq_code_33 0 rfl rfl rfl) (zd_b zq_code_33 1 rfl rfl rfl)
theorem d_Lw_law_1058 : decode code 1058 = .ok (.iconst 1, 1) := zo_4 (zd_b zq_code_33 2 rfl rfl rfl)
theorem d_Lw_law_1059 : decode code 1059 = .ok (.iadd, 1) := zo_96 (zd_b zq_code_33 3 rfl rfl rfl)
theorem d_Lw_law_1060 : decode code 1060 = .ok (.iaload, 1) := zo_46 (zd_b zq_code_33 4 rfl rfl rfl)
theorem d_Lw_law_1061 : decode code 1061 = .ok (.invokevirtual 255, 3) := zo_182 (d := 0) (e := 255) (zd_b zq_code_33 5 rfl rfl rfl) (zd_b zq_code_33 6 rfl rfl rfl) (zd_b zq_code_33 7 rfl rfl rfl)
theorem ok_Lw_law_Mm_hold : z_ok M_Lw_law M_Mm_hold 1 := ⟨z_mj8 (i := 173) rfl (by decide +kernel), rfl, ⟨by decide +kernel, by decide +kernel, by decide +kernel⟩, ⟨by decide, by decide⟩, z_mj1 (i := 14) rfl (by decide +kernel), rfl⟩
theorem ln_Lw_255 : Cond.methodLink "IronpourLaw" 255 M_Mm_hold.1 ∈ z_gw := z_mj8 (i := 170) rfl (by decide +kernel)
theorem w_im_Mm_hold : Cond.instanceMethod M_Mm_hold.1 ∈ z_gw := z_mj8 (i := 171) rfl (by decide +kernel)
theorem w_se_Mm_hold : Cond.selects M_Mm_hold.1.cls M_Mm_hold.1 M_Mm_hold.1 ∈ z_gw := z_mj8 (i := 172) rfl (by decide +kernel)
theorem d_Lw_law_1064 : decode code 1064 = .ok (.istore 7, 2) := zo_54 (d := 7) (zd_b zq_code_33 8 rfl rfl rfl) (zd_b zq_code_33 9 rfl rfl rfl)
theorem d_Lw_law_1066 : decode code 1066 = .ok (.goto 742, 3) := zo_167 (d := 2) (e := 230) (zd_b zq_code_33 10 rfl rfl rfl) (zd_b zq_code_33 11 rfl rfl rfl) (zd_b zq_code_33 12 rfl rfl rfl) (by decide +kernel)
set_option maxHeartbeats 4000000 in
set_option maxRecDepth 100000 in
theorem LC_hold {g : zG} {ad : Nat → Nat} {t : zTT} {u : zNN} {w : zW} {j : Nat} (hI : IVm g ad t u w) (hR : REY t u.1 (48 * j)) {r : Nat} (hJ : 7 * j + 7 ≤ g.2.2 41) (hL : g.2.2 41 ≤ 3584) (ih : LWI g ad j r) : DW g M_Lw_law lwQ w 1041 [(5, .int (nI (7 * j))), (4, .ref (ad 70)), (3, .ref (ad 69)), (2, .ref (ad 52)), (1, .ref (ad 0)), (0, .ref (g.2.2 40))] [] (100 * (r + 1)) (1000 * (r + 1)) := by
  refine y_base (cs := []) (z_I.nil w) ?_
  refine y_aload_n d_Lw_law_1041 rfl 4 rfl ?_
  refine y_aload_n d_Lw_law_1042 rfl 5 rfl ?_
  refine y_iload d_Lw_law_1043 0 rfl ?_
  refine y_iconst d_Lw_law_1045 (v := 1) (by decide) ?_
  refine y_iadd d_Lw_law_1046 (v := nI ((7 * j) + 1)) (nI_add _ _) ?_
  refine y_sld (v := zs g (7 * j + 1)) d_Lw_law_1047 (vp_in_nI (by omega) (by omega)) (by rw [nI_clamp (by omega)]; rfl) ?_
  refine y_aload_n d_Lw_law_1048 rfl 2 rfl ?_
  refine yw_callSX (As := [.ref (ad 0), .int (zs g (7 * j + 1)), .ref (ad 69)]) (rest := []) ln_Lw_253 w_st_Lw_hold ok_Lw_law_Lw_hold d_Lw_law_1049 (fun wA hA => W_hold (IVm.nil hA hI) _) rfl rfl (Nat.le_of_ble_eq_true rfl) (by omega) (by omega) (fun wA1049 hA1049 E wB1049 hx => ?_) (fun wA1049 hA1049 v wB1049 hx => ?_)
  · obtain ⟨⟨v9, e1⟩, -⟩ := hx
    cases e1
  · obtain ⟨⟨v9, e1⟩, uC, huC, hI2⟩ := hx
    cases e1
    refine yw_st (st2 := [.int v9]) rfl ?_
    have hI := hI2
    refine y_base (cs := []) (z_I.nil _) ?_
    refine y_istore (lv' := [(6, .int v9), (5, .int (nI (7 * j))), (4, .ref (ad 70)), (3, .ref (ad 69)), (2, .ref (ad 52)), (1, .ref (ad 0)), (0, .ref (g.2.2 40))]) d_Lw_law_1052 (by decide) rfl ?_
    refine y_aload_n d_Lw_law_1054 rfl 4 rfl ?_
    refine y_aload_n d_Lw_law_1055 rfl 6 rfl ?_
    refine y_iload d_Lw_law_1056 1 rfl ?_
    refine y_iconst d_Lw_law_1058 (v := 1) (by decide) ?_
    refine y_iadd d_Lw_law_1059 (v := nI ((7 * j) + 1)) (nI_add _ _) ?_
    refine y_sld (v := zs g (7 * j + 1)) d_Lw_law_1060 (vp_in_nI (by omega) (by omega)) (by rw [nI_clamp (by omega)]; rfl) ?_
    refine yw_callVL (As := [.int (zs g (7 * j + 1))]) (rest := []) (ci := 12) rfl (fun wA hA => (IVm.nil hA hI).rm) ln_Lw_255 w_im_Mm_hold w_se_Mm_hold ok_Lw_law_Mm_hold d_Lw_law_1061 (fun wA hA => K_Mm_hold (IVm.nil hA hI) _) rfl rfl (Nat.le_of_ble_eq_true rfl) (by omega) (by omega) (fun wA1061 hA1061 E wB1061 hx => ?_) (fun wA1061 hA1061 v wB1061 hx => ?_)
    · obtain ⟨⟨v8, e1⟩, -⟩ := hx
      cases e1
    · obtain ⟨⟨v8, e1⟩, uM, huM, hI2⟩ := hx
      cases e1
      refine yw_st (st2 := [.int v8]) rfl ?_
      have hI := hI2
      refine y_base (cs := []) (z_I.nil _) ?_
      refine y_istore (lv' := [(7, .int v8), (6, .int v9), (5, .int (nI (7 * j))), (4, .ref (ad 70)), (3, .ref (ad 69)), (2, .ref (ad 52)), (1, .ref (ad 0)), (0, .ref (g.2.2 40))]) d_Lw_law_1064 (by decide) rfl ?_
      refine y_goto (tgt := 1808) d_Lw_law_1066 (by decide) ?_
      refine y_lv (lv' := [(5, .int (nI (7 * j))), (4, .ref (ad 70)), (3, .ref (ad 69)), (2, .ref (ad 52)), (1, .ref (ad 0)), (0, .ref (g.2.2 40))]) [2, 3, 4, 5, 6, 7] rfl ?_
      refine y_end (fun wC hC => ?_)
      exact LC_next (IVm.nil hC hI) ((RY_hold (b := 48 * j) (by omega) _ hR huC huM).up (by omega)) hJ hL ih (by omega) (by omega)
end
section
theorem d_Lw_law_1069 : decode code 1069 = .ok (.aload_n 1, 1) := zo_43 (zd_b zq_code_33 13 rfl rfl rfl)
theorem d_Lw_law_1070 : decode code 1070 = .ok (.aload_n 0, 1) := zo_42 (zd_b zq_code_33 14 rfl rfl rfl)
theorem d_Lw_law_1071 : decode code 1071 = .ok (.iload 5, 2) := zo_21 (d := 5) (zd_b zq_code_33 15 rfl rfl rfl) (zd_b zq_code_33 16 rfl rfl rfl)
theorem d_Lw_law_1073 : decode code 1073 = .ok (.iconst 1, 1) := zo_4 (zd_b zq_code_33 17 rfl rfl rfl)
theorem d_Lw_law_1074 : decode code 1074 = .ok (.iadd, 1) := zo_96 (zd_b zq_code_33 18 rfl rfl rfl)
theorem d_Lw_law_1075 : decode code 1075 = .ok (.iaload, 1) := zo_46 (zd_b zq_code_33 19 rfl rfl rfl)
theorem d_Lw_law_1076 : decode code 1076 = .ok (.aload_n 3, 1) := zo_45 (zd_b zq_code_33 20 rfl rfl rfl)
theorem d_Lw_law_1077 : decode code 1077 = .ok (.invokestatic 256, 3) := zo_184 (d := 1) (e := 0) (zd_b zq_code_33 21 rfl rfl rfl) (zd_b zq_code_33 22 rfl rfl rfl) (zd_b zq_code_33 23 rfl rfl rfl)
theorem ok_Lw_law_Lw_tap : z_okX M_Lw_law M_Lw_tap 3 := ⟨z_mj5 (i := 101) rfl (by decide +kernel), by decide, ⟨by decide +kernel, by decide +kernel, by decide +kernel⟩, ⟨by decide, by decide⟩, z_mj1 (i := 0) rfl (by decide +kernel), rfl⟩
theorem ln_Lw_256 : Cond.methodLink "IronpourLaw" 256 M_Lw_tap.1 ∈ z_gw := z_mj5 (i := 99) rfl (by decide +kernel)
theorem w_st_Lw_tap : Cond.static M_Lw_tap.1 ∈ z_gw := z_mj5 (i := 100) rfl (by decide +kernel)
theorem d_Lw_law_1080 : decode code 1080 = .ok (.istore 6, 2) := zo_54 (d := 6) (zd_b zq_code_33 24 rfl rfl rfl) (zd_b zq_code_33 25 rfl rfl rfl)
theorem d_Lw_law_1082 : decode code 1082 = .ok (.aload_n 2, 1) := zo_44 (zd_b zq_code_33 26 rfl rfl rfl)
theorem d_Lw_law_1083 : decode code 1083 = .ok (.aload_n 0, 1) := zo_42 (zd_b zq_code_33 27 rfl rfl rfl)
theorem d_Lw_law_1084 : decode code 1084 = .ok (.iload 5, 2) := zo_21 (d := 5) (zd_b zq_code_33 28 rfl rfl rfl) (zd_b zq_code_33 29 rfl rfl rfl)
theorem d_Lw_law_1086 : decode code 1086 = .ok (.iconst 1, 1) := zo_4 (zd_b zq_code_33 30 rfl rfl rfl)
theorem d_Lw_law_1087 : decode code 1087 = .ok (.iadd, 1) := zo_96 (zd_b zq_code_33 31 rfl rfl rfl)
theorem d_Lw_law_1088 : decode code 1088 = .ok (.iaload, 1) := zo_46 (zd_b zq_code_34 0 rfl rfl rfl)
theorem d_Lw_law_1089 : decode code 1089 = .ok (.invokevirtual 258, 3) := zo_182 (d := 1) (e := 2) (zd_b zq_code_34 1 rfl rfl rfl) (zd_b zq_code_34 2 rfl rfl rfl) (zd_b zq_code_34 3 rfl rfl rfl)
theorem ok_Lw_law_Mm_tap : z_ok M_Lw_law M_Mm_tap 1 := ⟨z_mj8 (i := 179) rfl (by decide +kernel), rfl, ⟨by decide +kernel, by decide +kernel, by decide +kernel⟩, ⟨by decide, by decide⟩, z_mj1 (i := 14) rfl (by decide +kernel), rfl⟩
theorem ln_Lw_258 : Cond.methodLink "IronpourLaw" 258 M_Mm_tap.1 ∈ z_gw := z_mj8 (i := 176) rfl (by decide +kernel)
theorem w_im_Mm_tap : Cond.instanceMethod M_Mm_tap.1 ∈ z_gw := z_mj8 (i := 177) rfl (by decide +kernel)
theorem w_se_Mm_tap : Cond.selects M_Mm_tap.1.cls M_Mm_tap.1 M_Mm_tap.1 ∈ z_gw := z_mj8 (i := 178) rfl (by decide +kernel)
theorem d_Lw_law_1092 : decode code 1092 = .ok (.istore 7, 2) := zo_54 (d := 7) (zd_b zq_code_34 4 rfl rfl rfl) (zd_b zq_code_34 5 rfl rfl rfl)
theorem d_Lw_law_1094 : decode code 1094 = .ok (.goto 714, 3) := zo_167 (d := 2) (e := 202) (zd_b zq_code_34 6 rfl rfl rfl) (zd_b zq_code_34 7 rfl rfl rfl) (zd_b zq_code_34 8 rfl rfl rfl) (by decide +kernel)
set_option maxHeartbeats 4000000 in
set_option maxRecDepth 100000 in
theorem LC_tap {g : zG} {ad : Nat → Nat} {t : zTT} {u : zNN} {w : zW} {j : Nat} (hI : IVm g ad t u w) (hR : REY t u.1 (48 * j)) {r : Nat} (hJ : 7 * j + 7 ≤ g.2.2 41) (hL : g.2.2 41 ≤ 3584) (ih : LWI g ad j r) : DW g M_Lw_law lwQ w 1069 [(5, .int (nI (7 * j))), (4, .ref (ad 70)), (3, .ref (ad 69)), (2, .ref (ad 52)), (1, .ref (ad 0)), (0, .ref (g.2.2 40))] [] (100 * (r + 1)) (1000 * (r + 1)) := by
  refine y_base (cs := []) (z_I.nil w) ?_
  refine y_aload_n d_Lw_law_1069 rfl 4 rfl ?_
  refine y_aload_n d_Lw_law_1070 rfl 5 rfl ?_
  refine y_iload d_Lw_law_1071 0 rfl ?_
  refine y_iconst d_Lw_law_1073 (v := 1) (by decide) ?_
  refine y_iadd d_Lw_law_1074 (v := nI ((7 * j) + 1)) (nI_add _ _) ?_
  refine y_sld (v := zs g (7 * j + 1)) d_Lw_law_1075 (vp_in_nI (by omega) (by omega)) (by rw [nI_clamp (by omega)]; rfl) ?_
  refine y_aload_n d_Lw_law_1076 rfl 2 rfl ?_
  refine yw_callSX (As := [.ref (ad 0), .int (zs g (7 * j + 1)), .ref (ad 69)]) (rest := []) ln_Lw_256 w_st_Lw_tap ok_Lw_law_Lw_tap d_Lw_law_1077 (fun wA hA => W_tap (IVm.nil hA hI) _) rfl rfl (Nat.le_of_ble_eq_true rfl) (by omega) (by omega) (fun wA1077 hA1077 E wB1077 hx => ?_) (fun wA1077 hA1077 v wB1077 hx => ?_)
  · obtain ⟨⟨v9, e1⟩, -⟩ := hx
    cases e1
  · obtain ⟨⟨v9, e1⟩, uC, huC, hI2⟩ := hx
    cases e1
    refine yw_st (st2 := [.int v9]) rfl ?_
    have hI := hI2
    refine y_base (cs := []) (z_I.nil _) ?_
    refine y_istore (lv' := [(6, .int v9), (5, .int (nI (7 * j))), (4, .ref (ad 70)), (3, .ref (ad 69)), (2, .ref (ad 52)), (1, .ref (ad 0)), (0, .ref (g.2.2 40))]) d_Lw_law_1080 (by decide) rfl ?_
    refine y_aload_n d_Lw_law_1082 rfl 4 rfl ?_
    refine y_aload_n d_Lw_law_1083 rfl 6 rfl ?_
    refine y_iload d_Lw_law_1084 1 rfl ?_
    refine y_iconst d_Lw_law_1086 (v := 1) (by decide) ?_
    refine y_iadd d_Lw_law_1087 (v := nI ((7 * j) + 1)) (nI_add _ _) ?_
    refine y_sld (v := zs g (7 * j + 1)) d_Lw_law_1088 (vp_in_nI (by omega) (by omega)) (by rw [nI_clamp (by omega)]; rfl) ?_
    refine yw_callVL (As := [.int (zs g (7 * j + 1))]) (rest := []) (ci := 12) rfl (fun wA hA => (IVm.nil hA hI).rm) ln_Lw_258 w_im_Mm_tap w_se_Mm_tap ok_Lw_law_Mm_tap d_Lw_law_1089 (fun wA hA => K_Mm_tap (IVm.nil hA hI) _) rfl rfl (Nat.le_of_ble_eq_true rfl) (by omega) (by omega) (fun wA1089 hA1089 E wB1089 hx => ?_) (fun wA1089 hA1089 v wB1089 hx => ?_)
    · obtain ⟨⟨v8, e1⟩, -⟩ := hx
      cases e1
    · obtain ⟨⟨v8, e1⟩, uM, huM, hI2⟩ := hx
      cases e1
      refine yw_st (st2 := [.int v8]) rfl ?_
      have hI := hI2
      refine y_base (cs := []) (z_I.nil _) ?_
      refine y_istore (lv' := [(7, .int v8), (6, .int v9), (5, .int (nI (7 * j))), (4, .ref (ad 70)), (3, .ref (ad 69)), (2, .ref (ad 52)), (1, .ref (ad 0)), (0, .ref (g.2.2 40))]) d_Lw_law_1092 (by decide) rfl ?_
      refine y_goto (tgt := 1808) d_Lw_law_1094 (by decide) ?_
      refine y_lv (lv' := [(5, .int (nI (7 * j))), (4, .ref (ad 70)), (3, .ref (ad 69)), (2, .ref (ad 52)), (1, .ref (ad 0)), (0, .ref (g.2.2 40))]) [2, 3, 4, 5, 6, 7] rfl ?_
      refine y_end (fun wC hC => ?_)
      exact LC_next (IVm.nil hC hI) ((RY_tap (b := 48 * j) (by omega) _ hR huC huM).up (by omega)) hJ hL ih (by omega) (by omega)
theorem d_Lw_law_1097 : decode code 1097 = .ok (.aload_n 1, 1) := zo_43 (zd_b zq_code_34 9 rfl rfl rfl)
theorem d_Lw_law_1098 : decode code 1098 = .ok (.aload_n 0, 1) := zo_42 (zd_b zq_code_34 10 rfl rfl rfl)
theorem d_Lw_law_1099 : decode code 1099 = .ok (.iload 5, 2) := zo_21 (d := 5) (zd_b zq_code_34 11 rfl rfl rfl) (zd_b zq_code_34 12 rfl rfl rfl)
theorem d_Lw_law_1101 : decode code 1101 = .ok (.iconst 1, 1) := zo_4 (zd_b zq_code_34 13 rfl rfl rfl)
theorem d_Lw_law_1102 : decode code 1102 = .ok (.iadd, 1) := zo_96 (zd_b zq_code_34 14 rfl rfl rfl)
theorem d_Lw_law_1103 : decode code 1103 = .ok (.iaload, 1) := zo_46 (zd_b zq_code_34 15 rfl rfl rfl)
theorem d_Lw_law_1104 : decode code 1104 = .ok (.aload_n 3, 1) := zo_45 (zd_b zq_code_34 16 rfl rfl rfl)
theorem d_Lw_law_1105 : decode code 1105 = .ok (.invokestatic 259, 3) := zo_184 (d := 1) (e := 3) (zd_b zq_code_34 17 rfl rfl rfl) (zd_b zq_code_34 18 rfl rfl rfl) (zd_b zq_code_34 19 rfl rfl rfl)
theorem ok_Lw_law_Lw_treat : z_okX M_Lw_law M_Lw_treat 3 := ⟨z_mj5 (i := 120) rfl (by decide +kernel), by decide, ⟨by decide +kernel, by decide +kernel, by decide +kernel⟩, ⟨by decide, by decide⟩, z_mj1 (i := 0) rfl (by decide +kernel), rfl⟩
theorem ln_Lw_259 : Cond.methodLink "IronpourLaw" 259 M_Lw_treat.1 ∈ z_gw := z_mj5 (i := 118) rfl (by decide +kernel)
theorem w_st_Lw_treat : Cond.static M_Lw_treat.1 ∈ z_gw := z_mj5 (i := 119) rfl (by decide +kernel)
theorem d_Lw_law_1108 : decode code 1108 = .ok (.istore 6, 2) := zo_54 (d := 6) (zd_b zq_code_34 20 rfl rfl rfl) (zd_b zq_code_34 21 rfl rfl rfl)
theorem d_Lw_law_1110 : decode code 1110 = .ok (.aload_n 2, 1) := zo_44 (zd_b zq_code_34 22 rfl rfl rfl)
theorem d_Lw_law_1111 : decode code 1111 = .ok (.aload_n 0, 1) := zo_42 (zd_b zq_code_34 23 rfl rfl rfl)
theorem d_Lw_law_1112 : decode code 1112 = .ok (.iload 5, 2) := zo_21 (d := 5) (zd_b zq_code_34 24 rfl rfl rfl) (zd_b zq_code_34 25 rfl rfl rfl)
theorem d_Lw_law_1114 : decode code 1114 = .ok (.iconst 1, 1) := zo_4 (zd_b zq_code_34 26 rfl rfl rfl)
theorem d_Lw_law_1115 : decode code 1115 = .ok (.iadd, 1) := zo_96 (zd_b zq_code_34 27 rfl rfl rfl)
theorem d_Lw_law_1116 : decode code 1116 = .ok (.iaload, 1) := zo_46 (zd_b zq_code_34 28 rfl rfl rfl)
theorem d_Lw_law_1117 : decode code 1117 = .ok (.invokevirtual 261, 3) := zo_182 (d := 1) (e := 5) (zd_b zq_code_34 29 rfl rfl rfl) (zd_b zq_code_34 30 rfl rfl rfl) (zd_b zq_code_34 31 rfl rfl rfl)
theorem ok_Lw_law_Mm_treat : z_ok M_Lw_law M_Mm_treat 1 := ⟨z_mj8 (i := 183) rfl (by decide +kernel), rfl, ⟨by decide +kernel, by decide +kernel, by decide +kernel⟩, ⟨by decide, by decide⟩, z_mj1 (i := 14) rfl (by decide +kernel), rfl⟩
theorem ln_Lw_261 : Cond.methodLink "IronpourLaw" 261 M_Mm_treat.1 ∈ z_gw := z_mj8 (i := 180) rfl (by decide +kernel)
theorem w_im_Mm_treat : Cond.instanceMethod M_Mm_treat.1 ∈ z_gw := z_mj8 (i := 181) rfl (by decide +kernel)
theorem w_se_Mm_treat : Cond.selects M_Mm_treat.1.cls M_Mm_treat.1 M_Mm_treat.1 ∈ z_gw := z_mj8 (i := 182) rfl (by decide +kernel)
theorem d_Lw_law_1120 : decode code 1120 = .ok (.istore 7, 2) := zo_54 (d := 7) (zd_b zq_code_35 0 rfl rfl rfl) (zd_b zq_code_35 1 rfl rfl rfl)
theorem d_Lw_law_1122 : decode code 1122 = .ok (.goto 686, 3) := zo_167 (d := 2) (e := 174) (zd_b zq_code_35 2 rfl rfl rfl) (zd_b zq_code_35 3 rfl rfl rfl) (zd_b zq_code_35 4 rfl rfl rfl) (by decide +kernel)
set_option maxHeartbeats 4000000 in
set_option maxRecDepth 100000 in
theorem LC_treat {g : zG} {ad : Nat → Nat} {t : zTT} {u : zNN} {w : zW} {j : Nat} (hI : IVm g ad t u w) (hR : REY t u.1 (48 * j)) {r : Nat} (hJ : 7 * j + 7 ≤ g.2.2 41) (hL : g.2.2 41 ≤ 3584) (ih : LWI g ad j r) : DW g M_Lw_law lwQ w 1097 [(5, .int (nI (7 * j))), (4, .ref (ad 70)), (3, .ref (ad 69)), (2, .ref (ad 52)), (1, .ref (ad 0)), (0, .ref (g.2.2 40))] [] (100 * (r + 1)) (1000 * (r + 1)) := by
  refine y_base (cs := []) (z_I.nil w) ?_
  refine y_aload_n d_Lw_law_1097 rfl 4 rfl ?_
  refine y_aload_n d_Lw_law_1098 rfl 5 rfl ?_
  refine y_iload d_Lw_law_1099 0 rfl ?_
  refine y_iconst d_Lw_law_1101 (v := 1) (by decide) ?_
  refine y_iadd d_Lw_law_1102 (v := nI ((7 * j) + 1)) (nI_add _ _) ?_
  refine y_sld (v := zs g (7 * j + 1)) d_Lw_law_1103 (vp_in_nI (by omega) (by omega)) (by rw [nI_clamp (by omega)]; rfl) ?_
  refine y_aload_n d_Lw_law_1104 rfl 2 rfl ?_
  refine yw_callSX (As := [.ref (ad 0), .int (zs g (7 * j + 1)), .ref (ad 69)]) (rest := []) ln_Lw_259 w_st_Lw_treat ok_Lw_law_Lw_treat d_Lw_law_1105 (fun wA hA => W_treat (IVm.nil hA hI) _) rfl rfl (Nat.le_of_ble_eq_true rfl) (by omega) (by omega) (fun wA1105 hA1105 E wB1105 hx => ?_) (fun wA1105 hA1105 v wB1105 hx => ?_)
  · obtain ⟨⟨v9, e1⟩, -⟩ := hx
    cases e1
  · obtain ⟨⟨v9, e1⟩, uC, huC, hI2⟩ := hx
    cases e1
    refine yw_st (st2 := [.int v9]) rfl ?_
    have hI := hI2
    refine y_base (cs := []) (z_I.nil _) ?_
    refine y_istore (lv' := [(6, .int v9), (5, .int (nI (7 * j))), (4, .ref (ad 70)), (3, .ref (ad 69)), (2, .ref (ad 52)), (1, .ref (ad 0)), (0, .ref (g.2.2 40))]) d_Lw_law_1108 (by decide) rfl ?_
    refine y_aload_n d_Lw_law_1110 rfl 4 rfl ?_
    refine y_aload_n d_Lw_law_1111 rfl 6 rfl ?_
    refine y_iload d_Lw_law_1112 1 rfl ?_
    refine y_iconst d_Lw_law_1114 (v := 1) (by decide) ?_
    refine y_iadd d_Lw_law_1115 (v := nI ((7 * j) + 1)) (nI_add _ _) ?_
    refine y_sld (v := zs g (7 * j + 1)) d_Lw_law_1116 (vp_in_nI (by omega) (by omega)) (by rw [nI_clamp (by omega)]; rfl) ?_
    refine yw_callVL (As := [.int (zs g (7 * j + 1))]) (rest := []) (ci := 12) rfl (fun wA hA => (IVm.nil hA hI).rm) ln_Lw_261 w_im_Mm_treat w_se_Mm_treat ok_Lw_law_Mm_treat d_Lw_law_1117 (fun wA hA => K_Mm_treat (IVm.nil hA hI) _) rfl rfl (Nat.le_of_ble_eq_true rfl) (by omega) (by omega) (fun wA1117 hA1117 E wB1117 hx => ?_) (fun wA1117 hA1117 v wB1117 hx => ?_)
    · obtain ⟨⟨v8, e1⟩, -⟩ := hx
      cases e1
    · obtain ⟨⟨v8, e1⟩, uM, huM, hI2⟩ := hx
      cases e1
      refine yw_st (st2 := [.int v8]) rfl ?_
      have hI := hI2
      refine y_base (cs := []) (z_I.nil _) ?_
      refine y_istore (lv' := [(7, .int v8), (6, .int v9), (5, .int (nI (7 * j))), (4, .ref (ad 70)), (3, .ref (ad 69)), (2, .ref (ad 52)), (1, .ref (ad 0)), (0, .ref (g.2.2 40))]) d_Lw_law_1120 (by decide) rfl ?_
      refine y_goto (tgt := 1808) d_Lw_law_1122 (by decide) ?_
      refine y_lv (lv' := [(5, .int (nI (7 * j))), (4, .ref (ad 70)), (3, .ref (ad 69)), (2, .ref (ad 52)), (1, .ref (ad 0)), (0, .ref (g.2.2 40))]) [2, 3, 4, 5, 6, 7] rfl ?_
      refine y_end (fun wC hC => ?_)
      exact LC_next (IVm.nil hC hI) ((RY_treat (b := 48 * j) (by omega) _ hR huC huM).up (by omega)) hJ hL ih (by omega) (by omega)
theorem d_Lw_law_1125 : decode code 1125 = .ok (.aload_n 1, 1) := zo_43 (zd_b zq_code_35 5 rfl rfl rfl)
theorem d_Lw_law_1126 : decode code 1126 = .ok (.aload_n 0, 1) := zo_42 (zd_b zq_code_35 6 rfl rfl rfl)
theorem d_Lw_law_1127 : decode code 1127 = .ok (.iload 5, 2) := zo_21 (d := 5) (zd_b zq_code_35 7 rfl rfl rfl) (zd_b zq_code_35 8 rfl rfl rfl)
theorem d_Lw_law_1129 : decode code 1129 = .ok (.iconst 1, 1) := zo_4 (zd_b zq_code_35 9 rfl rfl rfl)
theorem d_Lw_law_1130 : decode code 1130 = .ok (.iadd, 1) := zo_96 (zd_b zq_code_35 10 rfl rfl rfl)
theorem d_Lw_law_1131 : decode code 1131 = .ok (.iaload, 1) := zo_46 (zd_b zq_code_35 11 rfl rfl rfl)
theorem d_Lw_law_1132 : decode code 1132 = .ok (.aload_n 3, 1) := zo_45 (zd_b zq_code_35 12 rfl rfl rfl)
theorem d_Lw_law_1133 : decode code 1133 = .ok (.invokestatic 262, 3) := zo_184 (d := 1) (e := 6) (zd_b zq_code_35 13 rfl rfl rfl) (zd_b zq_code_35 14 rfl rfl rfl) (zd_b zq_code_35 15 rfl rfl rfl)
theorem ok_Lw_law_Lw_minutes : z_okX M_Lw_law M_Lw_minutes 3 := ⟨z_mj5 (i := 134) rfl (by decide +kernel), by decide, ⟨by decide +kernel, by decide +kernel, by decide +kernel⟩, ⟨by decide, by decide⟩, z_mj1 (i := 0) rfl (by decide +kernel), rfl⟩
theorem ln_Lw_262 : Cond.methodLink "IronpourLaw" 262 M_Lw_minutes.1 ∈ z_gw := z_mj5 (i := 132) rfl (by decide +kernel)
theorem w_st_Lw_minutes : Cond.static M_Lw_minutes.1 ∈ z_gw := z_mj5 (i := 133) rfl (by decide +kernel)
theorem d_Lw_law_1136 : decode code 1136 = .ok (.istore 6, 2) := zo_54 (d := 6) (zd_b zq_code_35 16 rfl rfl rfl) (zd_b zq_code_35 17 rfl rfl rfl)
theorem d_Lw_law_1138 : decode code 1138 = .ok (.aload_n 2, 1) := zo_44 (zd_b zq_code_35 18 rfl rfl rfl)
theorem d_Lw_law_1139 : decode code 1139 = .ok (.aload_n 0, 1) := zo_42 (zd_b zq_code_35 19 rfl rfl rfl)
theorem d_Lw_law_1140 : decode code 1140 = .ok (.iload 5, 2) := zo_21 (d := 5) (zd_b zq_code_35 20 rfl rfl rfl) (zd_b zq_code_35 21 rfl rfl rfl)
theorem d_Lw_law_1142 : decode code 1142 = .ok (.iconst 1, 1) := zo_4 (zd_b zq_code_35 22 rfl rfl rfl)
theorem d_Lw_law_1143 : decode code 1143 = .ok (.iadd, 1) := zo_96 (zd_b zq_code_35 23 rfl rfl rfl)
theorem d_Lw_law_1144 : decode code 1144 = .ok (.iaload, 1) := zo_46 (zd_b zq_code_35 24 rfl rfl rfl)
theorem d_Lw_law_1145 : decode code 1145 = .ok (.invokevirtual 264, 3) := zo_182 (d := 1) (e := 8) (zd_b zq_code_35 25 rfl rfl rfl) (zd_b zq_code_35 26 rfl rfl rfl) (zd_b zq_code_35 27 rfl rfl rfl)
theorem ok_Lw_law_Mm_minutes : z_ok M_Lw_law M_Mm_minutes 1 := ⟨z_mj8 (i := 187) rfl (by decide +kernel), rfl, ⟨by decide +kernel, by decide +kernel, by decide +kernel⟩, ⟨by decide, by decide⟩, z_mj1 (i := 14) rfl (by decide +kernel), rfl⟩
theorem ln_Lw_264 : Cond.methodLink "IronpourLaw" 264 M_Mm_minutes.1 ∈ z_gw := z_mj8 (i := 184) rfl (by decide +kernel)
theorem w_im_Mm_minutes : Cond.instanceMethod M_Mm_minutes.1 ∈ z_gw := z_mj8 (i := 185) rfl (by decide +kernel)
theorem w_se_Mm_minutes : Cond.selects M_Mm_minutes.1.cls M_Mm_minutes.1 M_Mm_minutes.1 ∈ z_gw := z_mj8 (i := 186) rfl (by decide +kernel)
theorem d_Lw_law_1148 : decode code 1148 = .ok (.istore 7, 2) := zo_54 (d := 7) (zd_b zq_code_35 28 rfl rfl rfl) (zd_b zq_code_35 29 rfl rfl rfl)
theorem d_Lw_law_1150 : decode code 1150 = .ok (.goto 658, 3) := zo_167 (d := 2) (e := 146) (zd_b zq_code_35 30 rfl rfl rfl) (zd_b zq_code_35 31 rfl rfl rfl) (zd_b zq_code_36 0 rfl rfl rfl) (by decide +kernel)
set_option maxHeartbeats 4000000 in
set_option maxRecDepth 100000 in
theorem LC_minutes {g : zG} {ad : Nat → Nat} {t : zTT} {u : zNN} {w : zW} {j : Nat} (hI : IVm g ad t u w) (hR : REY t u.1 (48 * j)) {r : Nat} (hJ : 7 * j + 7 ≤ g.2.2 41) (hL : g.2.2 41 ≤ 3584) (ih : LWI g ad j r) : DW g M_Lw_law lwQ w 1125 [(5, .int (nI (7 * j))), (4, .ref (ad 70)), (3, .ref (ad 69)), (2, .ref (ad 52)), (1, .ref (ad 0)), (0, .ref (g.2.2 40))] [] (100 * (r + 1)) (1000 * (r + 1)) := by
  refine y_base (cs := []) (z_I.nil w) ?_
  refine y_aload_n d_Lw_law_1125 rfl 4 rfl ?_
  refine y_aload_n d_Lw_law_1126 rfl 5 rfl ?_
  refine y_iload d_Lw_law_1127 0 rfl ?_
  refine y_iconst d_Lw_law_1129 (v := 1) (by decide) ?_
  refine y_iadd d_Lw_law_1130 (v := nI ((7 * j) + 1)) (nI_add _ _) ?_
  refine y_sld (v := zs g (7 * j + 1)) d_Lw_law_1131 (vp_in_nI (by omega) (by omega)) (by rw [nI_clamp (by omega)]; rfl) ?_
  refine y_aload_n d_Lw_law_1132 rfl 2 rfl ?_
  refine yw_callSX (As := [.ref (ad 0), .int (zs g (7 * j + 1)), .ref (ad 69)]) (rest := []) ln_Lw_262 w_st_Lw_minutes ok_Lw_law_Lw_minutes d_Lw_law_1133 (fun wA hA => W_minutes (IVm.nil hA hI) _) rfl rfl (Nat.le_of_ble_eq_true rfl) (by omega) (by omega) (fun wA1133 hA1133 E wB1133 hx => ?_) (fun wA1133 hA1133 v wB1133 hx => ?_)
  · obtain ⟨⟨v9, e1⟩, -⟩ := hx
    cases e1
  · obtain ⟨⟨v9, e1⟩, uC, huC, hI2⟩ := hx
    cases e1
    refine yw_st (st2 := [.int v9]) rfl ?_
    have hI := hI2
    refine y_base (cs := []) (z_I.nil _) ?_
    refine y_istore (lv' := [(6, .int v9), (5, .int (nI (7 * j))), (4, .ref (ad 70)), (3, .ref (ad 69)), (2, .ref (ad 52)), (1, .ref (ad 0)), (0, .ref (g.2.2 40))]) d_Lw_law_1136 (by decide) rfl ?_
    refine y_aload_n d_Lw_law_1138 rfl 4 rfl ?_
    refine y_aload_n d_Lw_law_1139 rfl 6 rfl ?_
    refine y_iload d_Lw_law_1140 1 rfl ?_
    refine y_iconst d_Lw_law_1142 (v := 1) (by decide) ?_
    refine y_iadd d_Lw_law_1143 (v := nI ((7 * j) + 1)) (nI_add _ _) ?_
    refine y_sld (v := zs g (7 * j + 1)) d_Lw_law_1144 (vp_in_nI (by omega) (by omega)) (by rw [nI_clamp (by omega)]; rfl) ?_
    refine yw_callVL (As := [.int (zs g (7 * j + 1))]) (rest := []) (ci := 12) rfl (fun wA hA => (IVm.nil hA hI).rm) ln_Lw_264 w_im_Mm_minutes w_se_Mm_minutes ok_Lw_law_Mm_minutes d_Lw_law_1145 (fun wA hA => K_Mm_minutes (IVm.nil hA hI) _) rfl rfl (Nat.le_of_ble_eq_true rfl) (by omega) (by omega) (fun wA1145 hA1145 E wB1145 hx => ?_) (fun wA1145 hA1145 v wB1145 hx => ?_)
    · obtain ⟨⟨v8, e1⟩, -⟩ := hx
      cases e1
    · obtain ⟨⟨v8, e1⟩, uM, huM, hI2⟩ := hx
      cases e1
      refine yw_st (st2 := [.int v8]) rfl ?_
      have hI := hI2
      refine y_base (cs := []) (z_I.nil _) ?_
      refine y_istore (lv' := [(7, .int v8), (6, .int v9), (5, .int (nI (7 * j))), (4, .ref (ad 70)), (3, .ref (ad 69)), (2, .ref (ad 52)), (1, .ref (ad 0)), (0, .ref (g.2.2 40))]) d_Lw_law_1148 (by decide) rfl ?_
      refine y_goto (tgt := 1808) d_Lw_law_1150 (by decide) ?_
      refine y_lv (lv' := [(5, .int (nI (7 * j))), (4, .ref (ad 70)), (3, .ref (ad 69)), (2, .ref (ad 52)), (1, .ref (ad 0)), (0, .ref (g.2.2 40))]) [2, 3, 4, 5, 6, 7] rfl ?_
      refine y_end (fun wC hC => ?_)
      exact LC_next (IVm.nil hC hI) ((RY_minutes (b := 48 * j) (by omega) _ hR huC huM).up (by omega)) hJ hL ih (by omega) (by omega)
theorem d_Lw_law_1153 : decode code 1153 = .ok (.aload_n 1, 1) := zo_43 (zd_b zq_code_36 1 rfl rfl rfl)
theorem d_Lw_law_1154 : decode code 1154 = .ok (.aload_n 0, 1) := zo_42 (zd_b zq_code_36 2 rfl rfl rfl)
theorem d_Lw_law_1155 : decode code 1155 = .ok (.iload 5, 2) := zo_21 (d := 5) (zd_b zq_code_36 3 rfl rfl rfl) (zd_b zq_code_36 4 rfl rfl rfl)
theorem d_Lw_law_1157 : decode code 1157 = .ok (.iconst 1, 1) := zo_4 (zd_b zq_code_36 5 rfl rfl rfl)
theorem d_Lw_law_1158 : decode code 1158 = .ok (.iadd, 1) := zo_96 (zd_b zq_code_36 6 rfl rfl rfl)
theorem d_Lw_law_1159 : decode code 1159 = .ok (.iaload, 1) := zo_46 (zd_b zq_code_36 7 rfl rfl rfl)
theorem d_Lw_law_1160 : decode code 1160 = .ok (.i2c, 1) := zo_146 (zd_b zq_code_36 8 rfl rfl rfl)
theorem d_Lw_law_1161 : decode code 1161 = .ok (.aload_n 3, 1) := zo_45 (zd_b zq_code_36 9 rfl rfl rfl)
theorem d_Lw_law_1162 : decode code 1162 = .ok (.invokestatic 265, 3) := zo_184 (d := 1) (e := 9) (zd_b zq_code_36 10 rfl rfl rfl) (zd_b zq_code_36 11 rfl rfl rfl) (zd_b zq_code_36 12 rfl rfl rfl)
theorem ok_Lw_law_Lw_ladle : z_okX M_Lw_law M_Lw_ladle 3 := ⟨z_mj5 (i := 148) rfl (by decide +kernel), by decide, ⟨by decide +kernel, by decide +kernel, by decide +kernel⟩, ⟨by decide, by decide⟩, z_mj1 (i := 0) rfl (by decide +kernel), rfl⟩
theorem ln_Lw_265 : Cond.methodLink "IronpourLaw" 265 M_Lw_ladle.1 ∈ z_gw := z_mj5 (i := 146) rfl (by decide +kernel)
theorem w_st_Lw_ladle : Cond.static M_Lw_ladle.1 ∈ z_gw := z_mj5 (i := 147) rfl (by decide +kernel)
theorem d_Lw_law_1165 : decode code 1165 = .ok (.istore 6, 2) := zo_54 (d := 6) (zd_b zq_code_36 13 rfl rfl rfl) (zd_b zq_code_36 14 rfl rfl rfl)
theorem d_Lw_law_1167 : decode code 1167 = .ok (.aload_n 2, 1) := zo_44 (zd_b zq_code_36 15 rfl rfl rfl)
theorem d_Lw_law_1168 : decode code 1168 = .ok (.aload_n 0, 1) := zo_42 (zd_b zq_code_36 16 rfl rfl rfl)
theorem d_Lw_law_1169 : decode code 1169 = .ok (.iload 5, 2) := zo_21 (d := 5) (zd_b zq_code_36 17 rfl rfl rfl) (zd_b zq_code_36 18 rfl rfl rfl)
theorem d_Lw_law_1171 : decode code 1171 = .ok (.iconst 1, 1) := zo_4 (zd_b zq_code_36 19 rfl rfl rfl)
theorem d_Lw_law_1172 : decode code 1172 = .ok (.iadd, 1) := zo_96 (zd_b zq_code_36 20 rfl rfl rfl)
theorem d_Lw_law_1173 : decode code 1173 = .ok (.iaload, 1) := zo_46 (zd_b zq_code_36 21 rfl rfl rfl)
theorem d_Lw_law_1174 : decode code 1174 = .ok (.i2c, 1) := zo_146 (zd_b zq_code_36 22 rfl rfl rfl)
theorem d_Lw_law_1175 : decode code 1175 = .ok (.invokevirtual 267, 3) := zo_182 (d := 1) (e := 11) (zd_b zq_code_36 23 rfl rfl rfl) (zd_b zq_code_36 24 rfl rfl rfl) (zd_b zq_code_36 25 rfl rfl rfl)
theorem ok_Lw_law_Mm_ladle : z_ok M_Lw_law M_Mm_ladle 1 := ⟨z_mj8 (i := 191) rfl (by decide +kernel), rfl, ⟨by decide +kernel, by decide +kernel, by decide +kernel⟩, ⟨by decide, by decide⟩, z_mj1 (i := 14) rfl (by decide +kernel), rfl⟩
theorem ln_Lw_267 : Cond.methodLink "IronpourLaw" 267 M_Mm_ladle.1 ∈ z_gw := z_mj8 (i := 188) rfl (by decide +kernel)
theorem w_im_Mm_ladle : Cond.instanceMethod M_Mm_ladle.1 ∈ z_gw := z_mj8 (i := 189) rfl (by decide +kernel)
theorem w_se_Mm_ladle : Cond.selects M_Mm_ladle.1.cls M_Mm_ladle.1 M_Mm_ladle.1 ∈ z_gw := z_mj8 (i := 190) rfl (by decide +kernel)
theorem d_Lw_law_1178 : decode code 1178 = .ok (.istore 7, 2) := zo_54 (d := 7) (zd_b zq_code_36 26 rfl rfl rfl) (zd_b zq_code_36 27 rfl rfl rfl)
theorem d_Lw_law_1180 : decode code 1180 = .ok (.goto 628, 3) := zo_167 (d := 2) (e := 116) (zd_b zq_code_36 28 rfl rfl rfl) (zd_b zq_code_36 29 rfl rfl rfl) (zd_b zq_code_36 30 rfl rfl rfl) (by decide +kernel)
set_option maxHeartbeats 4000000 in
set_option maxRecDepth 100000 in
theorem LC_ladle {g : zG} {ad : Nat → Nat} {t : zTT} {u : zNN} {w : zW} {j : Nat} (hI : IVm g ad t u w) (hR : REY t u.1 (48 * j)) {r : Nat} (hJ : 7 * j + 7 ≤ g.2.2 41) (hL : g.2.2 41 ≤ 3584) (ih : LWI g ad j r) : DW g M_Lw_law lwQ w 1153 [(5, .int (nI (7 * j))), (4, .ref (ad 70)), (3, .ref (ad 69)), (2, .ref (ad 52)), (1, .ref (ad 0)), (0, .ref (g.2.2 40))] [] (100 * (r + 1)) (1000 * (r + 1)) := by
  refine y_base (cs := []) (z_I.nil w) ?_
  refine y_aload_n d_Lw_law_1153 rfl 4 rfl ?_
  refine y_aload_n d_Lw_law_1154 rfl 5 rfl ?_
  refine y_iload d_Lw_law_1155 0 rfl ?_
  refine y_iconst d_Lw_law_1157 (v := 1) (by decide) ?_
  refine y_iadd d_Lw_law_1158 (v := nI ((7 * j) + 1)) (nI_add _ _) ?_
  refine y_sld (v := zs g (7 * j + 1)) d_Lw_law_1159 (vp_in_nI (by omega) (by omega)) (by rw [nI_clamp (by omega)]; rfl) ?_
  refine y_i2c d_Lw_law_1160 (v := zc g (7 * j + 1)) rfl ?_
  refine y_aload_n d_Lw_law_1161 rfl 2 rfl ?_
  refine yw_callSX (As := [.ref (ad 0), .int (zc g (7 * j + 1)), .ref (ad 69)]) (rest := []) ln_Lw_265 w_st_Lw_ladle ok_Lw_law_Lw_ladle d_Lw_law_1162 (fun wA hA => W_ladle (IVm.nil hA hI) _) rfl rfl (Nat.le_of_ble_eq_true rfl) (by omega) (by omega) (fun wA1162 hA1162 E wB1162 hx => ?_) (fun wA1162 hA1162 v wB1162 hx => ?_)
  · obtain ⟨⟨v9, e1⟩, -⟩ := hx
    cases e1
  · obtain ⟨⟨v9, e1⟩, uC, huC, hI2⟩ := hx
    cases e1
    refine yw_st (st2 := [.int v9]) rfl ?_
    have hI := hI2
    refine y_base (cs := []) (z_I.nil _) ?_
    refine y_istore (lv' := [(6, .int v9), (5, .int (nI (7 * j))), (4, .ref (ad 70)), (3, .ref (ad 69)), (2, .ref (ad 52)), (1, .ref (ad 0)), (0, .ref (g.2.2 40))]) d_Lw_law_1165 (by decide) rfl ?_
    refine y_aload_n d_Lw_law_1167 rfl 4 rfl ?_
    refine y_aload_n d_Lw_law_1168 rfl 6 rfl ?_
    refine y_iload d_Lw_law_1169 1 rfl ?_
    refine y_iconst d_Lw_law_1171 (v := 1) (by decide) ?_
    refine y_iadd d_Lw_law_1172 (v := nI ((7 * j) + 1)) (nI_add _ _) ?_
    refine y_sld (v := zs g (7 * j + 1)) d_Lw_law_1173 (vp_in_nI (by omega) (by omega)) (by rw [nI_clamp (by omega)]; rfl) ?_
    refine y_i2c d_Lw_law_1174 (v := zc g (7 * j + 1)) rfl ?_
    refine yw_callVL (As := [.int (zc g (7 * j + 1))]) (rest := []) (ci := 12) rfl (fun wA hA => (IVm.nil hA hI).rm) ln_Lw_267 w_im_Mm_ladle w_se_Mm_ladle ok_Lw_law_Mm_ladle d_Lw_law_1175 (fun wA hA => K_Mm_ladle (IVm.nil hA hI) _) rfl rfl (Nat.le_of_ble_eq_true rfl) (by omega) (by omega) (fun wA1175 hA1175 E wB1175 hx => ?_) (fun wA1175 hA1175 v wB1175 hx => ?_)
    · obtain ⟨⟨v8, e1⟩, -⟩ := hx
      cases e1
    · obtain ⟨⟨v8, e1⟩, uM, huM, hI2⟩ := hx
      cases e1
      refine yw_st (st2 := [.int v8]) rfl ?_
      have hI := hI2
      refine y_base (cs := []) (z_I.nil _) ?_
      refine y_istore (lv' := [(7, .int v8), (6, .int v9), (5, .int (nI (7 * j))), (4, .ref (ad 70)), (3, .ref (ad 69)), (2, .ref (ad 52)), (1, .ref (ad 0)), (0, .ref (g.2.2 40))]) d_Lw_law_1178 (by decide) rfl ?_
      refine y_goto (tgt := 1808) d_Lw_law_1180 (by decide) ?_
      refine y_lv (lv' := [(5, .int (nI (7 * j))), (4, .ref (ad 70)), (3, .ref (ad 69)), (2, .ref (ad 52)), (1, .ref (ad 0)), (0, .ref (g.2.2 40))]) [2, 3, 4, 5, 6, 7] rfl ?_
      refine y_end (fun wC hC => ?_)
      exact LC_next (IVm.nil hC hI) ((hR.n (huM.trans huC)).up (by omega)) hJ hL ih (by omega) (by omega)
theorem d_Lw_law_1183 : decode code 1183 = .ok (.aload_n 1, 1) := zo_43 (zd_b zq_code_36 31 rfl rfl rfl)
theorem d_Lw_law_1184 : decode code 1184 = .ok (.aload_n 3, 1) := zo_45 (zd_b zq_code_37 0 rfl rfl rfl)
theorem d_Lw_law_1185 : decode code 1185 = .ok (.invokestatic 268, 3) := zo_184 (d := 1) (e := 12) (zd_b zq_code_37 1 rfl rfl rfl) (zd_b zq_code_37 2 rfl rfl rfl) (zd_b zq_code_37 3 rfl rfl rfl)
theorem ok_Lw_law_Lw_pig : z_okX M_Lw_law M_Lw_pig 2 := ⟨z_mj5 (i := 157) rfl (by decide +kernel), by decide, ⟨by decide +kernel, by decide +kernel, by decide +kernel⟩, ⟨by decide, by decide⟩, z_mj1 (i := 0) rfl (by decide +kernel), rfl⟩
theorem ln_Lw_268 : Cond.methodLink "IronpourLaw" 268 M_Lw_pig.1 ∈ z_gw := z_mj5 (i := 155) rfl (by decide +kernel)
theorem w_st_Lw_pig : Cond.static M_Lw_pig.1 ∈ z_gw := z_mj5 (i := 156) rfl (by decide +kernel)
theorem d_Lw_law_1188 : decode code 1188 = .ok (.istore 6, 2) := zo_54 (d := 6) (zd_b zq_code_37 4 rfl rfl rfl) (zd_b zq_code_37 5 rfl rfl rfl)
theorem d_Lw_law_1190 : decode code 1190 = .ok (.aload_n 2, 1) := zo_44 (zd_b zq_code_37 6 rfl rfl rfl)
theorem d_Lw_law_1191 : decode code 1191 = .ok (.invokevirtual 270, 3) := zo_182 (d := 1) (e := 14) (zd_b zq_code_37 7 rfl rfl rfl) (zd_b zq_code_37 8 rfl rfl rfl) (zd_b zq_code_37 9 rfl rfl rfl)
theorem ok_Lw_law_Mm_pig : z_ok M_Lw_law M_Mm_pig 0 := ⟨z_mj8 (i := 196) rfl (by decide +kernel), rfl, ⟨by decide +kernel, by decide +kernel, by decide +kernel⟩, ⟨by decide, by decide⟩, z_mj1 (i := 14) rfl (by decide +kernel), rfl⟩
theorem ln_Lw_270 : Cond.methodLink "IronpourLaw" 270 M_Mm_pig.1 ∈ z_gw := z_mj8 (i := 193) rfl (by decide +kernel)
theorem w_im_Mm_pig : Cond.instanceMethod M_Mm_pig.1 ∈ z_gw := z_mj8 (i := 194) rfl (by decide +kernel)
theorem w_se_Mm_pig : Cond.selects M_Mm_pig.1.cls M_Mm_pig.1 M_Mm_pig.1 ∈ z_gw := z_mj8 (i := 195) rfl (by decide +kernel)
theorem d_Lw_law_1194 : decode code 1194 = .ok (.istore 7, 2) := zo_54 (d := 7) (zd_b zq_code_37 10 rfl rfl rfl) (zd_b zq_code_37 11 rfl rfl rfl)
theorem d_Lw_law_1196 : decode code 1196 = .ok (.goto 612, 3) := zo_167 (d := 2) (e := 100) (zd_b zq_code_37 12 rfl rfl rfl) (zd_b zq_code_37 13 rfl rfl rfl) (zd_b zq_code_37 14 rfl rfl rfl) (by decide +kernel)
set_option maxHeartbeats 4000000 in
set_option maxRecDepth 100000 in
theorem LC_pig {g : zG} {ad : Nat → Nat} {t : zTT} {u : zNN} {w : zW} {j : Nat} (hI : IVm g ad t u w) (hR : REY t u.1 (48 * j)) {r : Nat} (hJ : 7 * j + 7 ≤ g.2.2 41) (hL : g.2.2 41 ≤ 3584) (ih : LWI g ad j r) : DW g M_Lw_law lwQ w 1183 [(5, .int (nI (7 * j))), (4, .ref (ad 70)), (3, .ref (ad 69)), (2, .ref (ad 52)), (1, .ref (ad 0)), (0, .ref (g.2.2 40))] [] (100 * (r + 1)) (1000 * (r + 1)) := by
  refine y_base (cs := []) (z_I.nil w) ?_
  refine y_aload_n d_Lw_law_1183 rfl 4 rfl ?_
  refine y_aload_n d_Lw_law_1184 rfl 2 rfl ?_
  refine yw_callSX (As := [.ref (ad 0), .ref (ad 69)]) (rest := []) ln_Lw_268 w_st_Lw_pig ok_Lw_law_Lw_pig d_Lw_law_1185 (fun wA hA => W_pig (IVm.nil hA hI)) rfl rfl (Nat.le_of_ble_eq_true rfl) (by omega) (by omega) (fun wA1185 hA1185 E wB1185 hx => ?_) (fun wA1185 hA1185 v wB1185 hx => ?_)
  · obtain ⟨⟨v9, e1⟩, -⟩ := hx
    cases e1
  · obtain ⟨⟨v9, e1⟩, uC, huC, hI2⟩ := hx
    cases e1
    refine yw_st (st2 := [.int v9]) rfl ?_
    have hI := hI2
    refine y_base (cs := []) (z_I.nil _) ?_
    refine y_istore (lv' := [(6, .int v9), (5, .int (nI (7 * j))), (4, .ref (ad 70)), (3, .ref (ad 69)), (2, .ref (ad 52)), (1, .ref (ad 0)), (0, .ref (g.2.2 40))]) d_Lw_law_1188 (by decide) rfl ?_
    refine y_aload_n d_Lw_law_1190 rfl 4 rfl ?_
    refine yw_callVL (As := []) (rest := []) (ci := 12) rfl (fun wA hA => (IVm.nil hA hI).rm) ln_Lw_270 w_im_Mm_pig w_se_Mm_pig ok_Lw_law_Mm_pig d_Lw_law_1191 (fun wA hA => K_Mm_pig (IVm.nil hA hI)) rfl rfl (Nat.le_of_ble_eq_true rfl) (by omega) (by omega) (fun wA1191 hA1191 E wB1191 hx => ?_) (fun wA1191 hA1191 v wB1191 hx => ?_)
    · obtain ⟨⟨v8, e1⟩, -⟩ := hx
      cases e1
    · obtain ⟨⟨v8, e1⟩, uM, huM, hI2⟩ := hx
      cases e1
      refine yw_st (st2 := [.int v8]) rfl ?_
      have hI := hI2
      refine y_base (cs := []) (z_I.nil _) ?_
      refine y_istore (lv' := [(7, .int v8), (6, .int v9), (5, .int (nI (7 * j))), (4, .ref (ad 70)), (3, .ref (ad 69)), (2, .ref (ad 52)), (1, .ref (ad 0)), (0, .ref (g.2.2 40))]) d_Lw_law_1194 (by decide) rfl ?_
      refine y_goto (tgt := 1808) d_Lw_law_1196 (by decide) ?_
      refine y_lv (lv' := [(5, .int (nI (7 * j))), (4, .ref (ad 70)), (3, .ref (ad 69)), (2, .ref (ad 52)), (1, .ref (ad 0)), (0, .ref (g.2.2 40))]) [2, 3, 4, 5, 6, 7] rfl ?_
      refine y_end (fun wC hC => ?_)
      exact LC_next (IVm.nil hC hI) ((RY_pig (b := 48 * j) (by omega) hR huC huM).up (by omega)) hJ hL ih (by omega) (by omega)
theorem d_Lw_law_1199 : decode code 1199 = .ok (.aload_n 1, 1) := zo_43 (zd_b zq_code_37 15 rfl rfl rfl)
theorem d_Lw_law_1200 : decode code 1200 = .ok (.aload_n 0, 1) := zo_42 (zd_b zq_code_37 16 rfl rfl rfl)
theorem d_Lw_law_1201 : decode code 1201 = .ok (.iload 5, 2) := zo_21 (d := 5) (zd_b zq_code_37 17 rfl rfl rfl) (zd_b zq_code_37 18 rfl rfl rfl)
theorem d_Lw_law_1203 : decode code 1203 = .ok (.iconst 1, 1) := zo_4 (zd_b zq_code_37 19 rfl rfl rfl)
theorem d_Lw_law_1204 : decode code 1204 = .ok (.iadd, 1) := zo_96 (zd_b zq_code_37 20 rfl rfl rfl)
theorem d_Lw_law_1205 : decode code 1205 = .ok (.iaload, 1) := zo_46 (zd_b zq_code_37 21 rfl rfl rfl)
theorem d_Lw_law_1206 : decode code 1206 = .ok (.i2c, 1) := zo_146 (zd_b zq_code_37 22 rfl rfl rfl)
theorem d_Lw_law_1207 : decode code 1207 = .ok (.aload_n 3, 1) := zo_45 (zd_b zq_code_37 23 rfl rfl rfl)
theorem d_Lw_law_1208 : decode code 1208 = .ok (.invokestatic 271, 3) := zo_184 (d := 1) (e := 15) (zd_b zq_code_37 24 rfl rfl rfl) (zd_b zq_code_37 25 rfl rfl rfl) (zd_b zq_code_37 26 rfl rfl rfl)
theorem ok_Lw_law_Lw_pool : z_okX M_Lw_law M_Lw_pool 3 := ⟨z_mj5 (i := 164) rfl (by decide +kernel), by decide, ⟨by decide +kernel, by decide +kernel, by decide +kernel⟩, ⟨by decide, by decide⟩, z_mj1 (i := 0) rfl (by decide +kernel), rfl⟩
theorem ln_Lw_271 : Cond.methodLink "IronpourLaw" 271 M_Lw_pool.1 ∈ z_gw := z_mj5 (i := 162) rfl (by decide +kernel)
theorem w_st_Lw_pool : Cond.static M_Lw_pool.1 ∈ z_gw := z_mj5 (i := 163) rfl (by decide +kernel)
theorem d_Lw_law_1211 : decode code 1211 = .ok (.istore 6, 2) := zo_54 (d := 6) (zd_b zq_code_37 27 rfl rfl rfl) (zd_b zq_code_37 28 rfl rfl rfl)
theorem d_Lw_law_1213 : decode code 1213 = .ok (.aload_n 2, 1) := zo_44 (zd_b zq_code_37 29 rfl rfl rfl)
theorem d_Lw_law_1214 : decode code 1214 = .ok (.aload_n 0, 1) := zo_42 (zd_b zq_code_37 30 rfl rfl rfl)
theorem d_Lw_law_1215 : decode code 1215 = .ok (.iload 5, 2) := zo_21 (d := 5) (zd_b zq_code_37 31 rfl rfl rfl) (zd_b zq_code_38 0 rfl rfl rfl)
theorem d_Lw_law_1217 : decode code 1217 = .ok (.iconst 1, 1) := zo_4 (zd_b zq_code_38 1 rfl rfl rfl)
theorem d_Lw_law_1218 : decode code 1218 = .ok (.iadd, 1) := zo_96 (zd_b zq_code_38 2 rfl rfl rfl)
theorem d_Lw_law_1219 : decode code 1219 = .ok (.iaload, 1) := zo_46 (zd_b zq_code_38 3 rfl rfl rfl)
theorem d_Lw_law_1220 : decode code 1220 = .ok (.i2c, 1) := zo_146 (zd_b zq_code_38 4 rfl rfl rfl)
theorem d_Lw_law_1221 : decode code 1221 = .ok (.invokevirtual 273, 3) := zo_182 (d := 1) (e := 17) (zd_b zq_code_38 5 rfl rfl rfl) (zd_b zq_code_38 6 rfl rfl rfl) (zd_b zq_code_38 7 rfl rfl rfl)
theorem ok_Lw_law_Mm_pool : z_ok M_Lw_law M_Mm_pool 1 := ⟨z_mj8 (i := 200) rfl (by decide +kernel), rfl, ⟨by decide +kernel, by decide +kernel, by decide +kernel⟩, ⟨by decide, by decide⟩, z_mj1 (i := 14) rfl (by decide +kernel), rfl⟩
theorem ln_Lw_273 : Cond.methodLink "IronpourLaw" 273 M_Mm_pool.1 ∈ z_gw := z_mj8 (i := 197) rfl (by decide +kernel)
theorem w_im_Mm_pool : Cond.instanceMethod M_Mm_pool.1 ∈ z_gw := z_mj8 (i := 198) rfl (by decide +kernel)
theorem w_se_Mm_pool : Cond.selects M_Mm_pool.1.cls M_Mm_pool.1 M_Mm_pool.1 ∈ z_gw := z_mj8 (i := 199) rfl (by decide +kernel)
theorem d_Lw_law_1224 : decode code 1224 = .ok (.istore 7, 2) := zo_54 (d := 7) (zd_b zq_code_38 8 rfl rfl rfl) (zd_b zq_code_38 9 rfl rfl rfl)
theorem d_Lw_law_1226 : decode code 1226 = .ok (.goto 582, 3) := zo_167 (d := 2) (e := 70) (zd_b zq_code_38 10 rfl rfl rfl) (zd_b zq_code_38 11 rfl rfl rfl) (zd_b zq_code_38 12 rfl rfl rfl) (by decide +kernel)
set_option maxHeartbeats 4000000 in
set_option maxRecDepth 100000 in
theorem LC_pool {g : zG} {ad : Nat → Nat} {t : zTT} {u : zNN} {w : zW} {j : Nat} (hI : IVm g ad t u w) (hR : REY t u.1 (48 * j)) {r : Nat} (hJ : 7 * j + 7 ≤ g.2.2 41) (hL : g.2.2 41 ≤ 3584) (ih : LWI g ad j r) : DW g M_Lw_law lwQ w 1199 [(5, .int (nI (7 * j))), (4, .ref (ad 70)), (3, .ref (ad 69)), (2, .ref (ad 52)), (1, .ref (ad 0)), (0, .ref (g.2.2 40))] [] (100 * (r + 1)) (1000 * (r + 1)) := by
  refine y_base (cs := []) (z_I.nil w) ?_
  refine y_aload_n d_Lw_law_1199 rfl 4 rfl ?_
  refine y_aload_n d_Lw_law_1200 rfl 5 rfl ?_
  refine y_iload d_Lw_law_1201 0 rfl ?_
  refine y_iconst d_Lw_law_1203 (v := 1) (by decide) ?_
  refine y_iadd d_Lw_law_1204 (v := nI ((7 * j) + 1)) (nI_add _ _) ?_
  refine y_sld (v := zs g (7 * j + 1)) d_Lw_law_1205 (vp_in_nI (by omega) (by omega)) (by rw [nI_clamp (by omega)]; rfl) ?_
  refine y_i2c d_Lw_law_1206 (v := zc g (7 * j + 1)) rfl ?_
  refine y_aload_n d_Lw_law_1207 rfl 2 rfl ?_
  refine yw_callSX (As := [.ref (ad 0), .int (zc g (7 * j + 1)), .ref (ad 69)]) (rest := []) ln_Lw_271 w_st_Lw_pool ok_Lw_law_Lw_pool d_Lw_law_1208 (fun wA hA => W_pool (IVm.nil hA hI) _) rfl rfl (Nat.le_of_ble_eq_true rfl) (by omega) (by omega) (fun wA1208 hA1208 E wB1208 hx => ?_) (fun wA1208 hA1208 v wB1208 hx => ?_)
  · obtain ⟨⟨v9, e1⟩, -⟩ := hx
    cases e1
  · obtain ⟨⟨v9, e1⟩, uC, huC, hI2⟩ := hx
    cases e1
    refine yw_st (st2 := [.int v9]) rfl ?_
    have hI := hI2
    refine y_base (cs := []) (z_I.nil _) ?_
    refine y_istore (lv' := [(6, .int v9), (5, .int (nI (7 * j))), (4, .ref (ad 70)), (3, .ref (ad 69)), (2, .ref (ad 52)), (1, .ref (ad 0)), (0, .ref (g.2.2 40))]) d_Lw_law_1211 (by decide) rfl ?_
    refine y_aload_n d_Lw_law_1213 rfl 4 rfl ?_
    refine y_aload_n d_Lw_law_1214 rfl 6 rfl ?_
    refine y_iload d_Lw_law_1215 1 rfl ?_
    refine y_iconst d_Lw_law_1217 (v := 1) (by decide) ?_
    refine y_iadd d_Lw_law_1218 (v := nI ((7 * j) + 1)) (nI_add _ _) ?_
    refine y_sld (v := zs g (7 * j + 1)) d_Lw_law_1219 (vp_in_nI (by omega) (by omega)) (by rw [nI_clamp (by omega)]; rfl) ?_
    refine y_i2c d_Lw_law_1220 (v := zc g (7 * j + 1)) rfl ?_
    refine yw_callVL (As := [.int (zc g (7 * j + 1))]) (rest := []) (ci := 12) rfl (fun wA hA => (IVm.nil hA hI).rm) ln_Lw_273 w_im_Mm_pool w_se_Mm_pool ok_Lw_law_Mm_pool d_Lw_law_1221 (fun wA hA => K_Mm_pool (IVm.nil hA hI) _) rfl rfl (Nat.le_of_ble_eq_true rfl) (by omega) (by omega) (fun wA1221 hA1221 E wB1221 hx => ?_) (fun wA1221 hA1221 v wB1221 hx => ?_)
    · obtain ⟨⟨v8, e1⟩, -⟩ := hx
      cases e1
    · obtain ⟨⟨v8, e1⟩, uM, huM, hI2⟩ := hx
      cases e1
      refine yw_st (st2 := [.int v8]) rfl ?_
      have hI := hI2
      refine y_base (cs := []) (z_I.nil _) ?_
      refine y_istore (lv' := [(7, .int v8), (6, .int v9), (5, .int (nI (7 * j))), (4, .ref (ad 70)), (3, .ref (ad 69)), (2, .ref (ad 52)), (1, .ref (ad 0)), (0, .ref (g.2.2 40))]) d_Lw_law_1224 (by decide) rfl ?_
      refine y_goto (tgt := 1808) d_Lw_law_1226 (by decide) ?_
      refine y_lv (lv' := [(5, .int (nI (7 * j))), (4, .ref (ad 70)), (3, .ref (ad 69)), (2, .ref (ad 52)), (1, .ref (ad 0)), (0, .ref (g.2.2 40))]) [2, 3, 4, 5, 6, 7] rfl ?_
      refine y_end (fun wC hC => ?_)
      exact LC_next (IVm.nil hC hI) ((hR.n (huM.trans huC)).up (by omega)) hJ hL ih (by omega) (by omega)
theorem d_Lw_law_1301 : decode code 1301 = .ok (.aload_n 1, 1) := zo_43 (zd_b zq_code_40 21 rfl rfl rfl)
theorem d_Lw_law_1302 : decode code 1302 = .ok (.aload_n 0, 1) := zo_42 (zd_b zq_code_40 22 rfl rfl rfl)
theorem d_Lw_law_1303 : decode code 1303 = .ok (.iload 5, 2) := zo_21 (d := 5) (zd_b zq_code_40 23 rfl rfl rfl) (zd_b zq_code_40 24 rfl rfl rfl)
theorem d_Lw_law_1305 : decode code 1305 = .ok (.iconst 1, 1) := zo_4 (zd_b zq_code_40 25 rfl rfl rfl)
theorem d_Lw_law_1306 : decode code 1306 = .ok (.iadd, 1) := zo_96 (zd_b zq_code_40 26 rfl rfl rfl)
theorem d_Lw_law_1307 : decode code 1307 = .ok (.iaload, 1) := zo_46 (zd_b zq_code_40 27 rfl rfl rfl)
theorem d_Lw_law_1308 : decode code 1308 = .ok (.aload_n 0, 1) := zo_42 (zd_b zq_code_40 28 rfl rfl rfl)
theorem d_Lw_law_1309 : decode code 1309 = .ok (.iload 5, 2) := zo_21 (d := 5) (zd_b zq_code_40 29 rfl rfl rfl) (zd_b zq_code_40 30 rfl rfl rfl)
theorem d_Lw_law_1311 : decode code 1311 = .ok (.iconst 2, 1) := zo_5 (zd_b zq_code_40 31 rfl rfl rfl)
theorem d_Lw_law_1312 : decode code 1312 = .ok (.iadd, 1) := zo_96 (zd_b zq_code_41 0 rfl rfl rfl)
theorem d_Lw_law_1313 : decode code 1313 = .ok (.iaload, 1) := zo_46 (zd_b zq_code_41 1 rfl rfl rfl)
theorem d_Lw_law_1314 : decode code 1314 = .ok (.aload_n 0, 1) := zo_42 (zd_b zq_code_41 2 rfl rfl rfl)
theorem d_Lw_law_1315 : decode code 1315 = .ok (.iload 5, 2) := zo_21 (d := 5) (zd_b zq_code_41 3 rfl rfl rfl) (zd_b zq_code_41 4 rfl rfl rfl)
theorem d_Lw_law_1317 : decode code 1317 = .ok (.iconst 3, 1) := zo_6 (zd_b zq_code_41 5 rfl rfl rfl)
theorem d_Lw_law_1318 : decode code 1318 = .ok (.iadd, 1) := zo_96 (zd_b zq_code_41 6 rfl rfl rfl)
theorem d_Lw_law_1319 : decode code 1319 = .ok (.iaload, 1) := zo_46 (zd_b zq_code_41 7 rfl rfl rfl)
theorem d_Lw_law_1320 : decode code 1320 = .ok (.aload_n 0, 1) := zo_42 (zd_b zq_code_41 8 rfl rfl rfl)
theorem d_Lw_law_1321 : decode code 1321 = .ok (.iload 5, 2) := zo_21 (d := 5) (zd_b zq_code_41 9 rfl rfl rfl) (zd_b zq_code_41 10 rfl rfl rfl)
theorem d_Lw_law_1323 : decode code 1323 = .ok (.iconst 4, 1) := zo_7 (zd_b zq_code_41 11 rfl rfl rfl)
theorem d_Lw_law_1324 : decode code 1324 = .ok (.iadd, 1) := zo_96 (zd_b zq_code_41 12 rfl rfl rfl)
theorem d_Lw_law_1325 : decode code 1325 = .ok (.iaload, 1) := zo_46 (zd_b zq_code_41 13 rfl rfl rfl)
theorem d_Lw_law_1326 : decode code 1326 = .ok (.aload_n 0, 1) := zo_42 (zd_b zq_code_41 14 rfl rfl rfl)
theorem d_Lw_law_1327 : decode code 1327 = .ok (.iload 5, 2) := zo_21 (d := 5) (zd_b zq_code_41 15 rfl rfl rfl) (zd_b zq_code_41 16 rfl rfl rfl)
theorem d_Lw_law_1329 : decode code 1329 = .ok (.iconst 5, 1) := zo_8 (zd_b zq_code_41 17 rfl rfl rfl)
theorem d_Lw_law_1330 : decode code 1330 = .ok (.iadd, 1) := zo_96 (zd_b zq_code_41 18 rfl rfl rfl)
theorem d_Lw_law_1331 : decode code 1331 = .ok (.iaload, 1) := zo_46 (zd_b zq_code_41 19 rfl rfl rfl)
theorem d_Lw_law_1332 : decode code 1332 = .ok (.aload_n 0, 1) := zo_42 (zd_b zq_code_41 20 rfl rfl rfl)
theorem d_Lw_law_1333 : decode code 1333 = .ok (.iload 5, 2) := zo_21 (d := 5) (zd_b zq_code_41 21 rfl rfl rfl) (zd_b zq_code_41 22 rfl rfl rfl)
theorem d_Lw_law_1335 : decode code 1335 = .ok (.bipush 6, 2) := zo_16 (d := 6) (zd_b zq_code_41 23 rfl rfl rfl) (zd_b zq_code_41 24 rfl rfl rfl) (by decide +kernel)
theorem d_Lw_law_1337 : decode code 1337 = .ok (.iadd, 1) := zo_96 (zd_b zq_code_41 25 rfl rfl rfl)
theorem d_Lw_law_1338 : decode code 1338 = .ok (.iaload, 1) := zo_46 (zd_b zq_code_41 26 rfl rfl rfl)
theorem d_Lw_law_1339 : decode code 1339 = .ok (.aload_n 3, 1) := zo_45 (zd_b zq_code_41 27 rfl rfl rfl)
theorem d_Lw_law_1340 : decode code 1340 = .ok (.invokestatic 281, 3) := zo_184 (d := 1) (e := 25) (zd_b zq_code_41 28 rfl rfl rfl) (zd_b zq_code_41 29 rfl rfl rfl) (zd_b zq_code_41 30 rfl rfl rfl)
theorem ok_Lw_law_Lw_leastCost : z_okX M_Lw_law M_Lw_leastCost 8 := ⟨z_mj5 (i := 180) rfl (by decide +kernel), by decide, ⟨by decide +kernel, by decide +kernel, by decide +kernel⟩, ⟨by decide, by decide⟩, z_mj1 (i := 0) rfl (by decide +kernel), rfl⟩
theorem ln_Lw_281 : Cond.methodLink "IronpourLaw" 281 M_Lw_leastCost.1 ∈ z_gw := z_mj5 (i := 178) rfl (by decide +kernel)
theorem w_st_Lw_leastCost : Cond.static M_Lw_leastCost.1 ∈ z_gw := z_mj5 (i := 179) rfl (by decide +kernel)
theorem d_Lw_law_1343 : decode code 1343 = .ok (.istore 6, 2) := zo_54 (d := 6) (zd_b zq_code_41 31 rfl rfl rfl) (zd_b zq_code_42 0 rfl rfl rfl)
theorem d_Lw_law_1345 : decode code 1345 = .ok (.aload_n 2, 1) := zo_44 (zd_b zq_code_42 1 rfl rfl rfl)
theorem d_Lw_law_1346 : decode code 1346 = .ok (.aload_n 0, 1) := zo_42 (zd_b zq_code_42 2 rfl rfl rfl)
theorem d_Lw_law_1347 : decode code 1347 = .ok (.iload 5, 2) := zo_21 (d := 5) (zd_b zq_code_42 3 rfl rfl rfl) (zd_b zq_code_42 4 rfl rfl rfl)
theorem d_Lw_law_1349 : decode code 1349 = .ok (.iconst 1, 1) := zo_4 (zd_b zq_code_42 5 rfl rfl rfl)
theorem d_Lw_law_1350 : decode code 1350 = .ok (.iadd, 1) := zo_96 (zd_b zq_code_42 6 rfl rfl rfl)
theorem d_Lw_law_1351 : decode code 1351 = .ok (.iaload, 1) := zo_46 (zd_b zq_code_42 7 rfl rfl rfl)
theorem d_Lw_law_1352 : decode code 1352 = .ok (.aload_n 0, 1) := zo_42 (zd_b zq_code_42 8 rfl rfl rfl)
theorem d_Lw_law_1353 : decode code 1353 = .ok (.iload 5, 2) := zo_21 (d := 5) (zd_b zq_code_42 9 rfl rfl rfl) (zd_b zq_code_42 10 rfl rfl rfl)
theorem d_Lw_law_1355 : decode code 1355 = .ok (.iconst 2, 1) := zo_5 (zd_b zq_code_42 11 rfl rfl rfl)
theorem d_Lw_law_1356 : decode code 1356 = .ok (.iadd, 1) := zo_96 (zd_b zq_code_42 12 rfl rfl rfl)
theorem d_Lw_law_1357 : decode code 1357 = .ok (.iaload, 1) := zo_46 (zd_b zq_code_42 13 rfl rfl rfl)
theorem d_Lw_law_1358 : decode code 1358 = .ok (.aload_n 0, 1) := zo_42 (zd_b zq_code_42 14 rfl rfl rfl)
theorem d_Lw_law_1359 : decode code 1359 = .ok (.iload 5, 2) := zo_21 (d := 5) (zd_b zq_code_42 15 rfl rfl rfl) (zd_b zq_code_42 16 rfl rfl rfl)
theorem d_Lw_law_1361 : decode code 1361 = .ok (.iconst 3, 1) := zo_6 (zd_b zq_code_42 17 rfl rfl rfl)
theorem d_Lw_law_1362 : decode code 1362 = .ok (.iadd, 1) := zo_96 (zd_b zq_code_42 18 rfl rfl rfl)
theorem d_Lw_law_1363 : decode code 1363 = .ok (.iaload, 1) := zo_46 (zd_b zq_code_42 19 rfl rfl rfl)
theorem d_Lw_law_1364 : decode code 1364 = .ok (.aload_n 0, 1) := zo_42 (zd_b zq_code_42 20 rfl rfl rfl)
theorem d_Lw_law_1365 : decode code 1365 = .ok (.iload 5, 2) := zo_21 (d := 5) (zd_b zq_code_42 21 rfl rfl rfl) (zd_b zq_code_42 22 rfl rfl rfl)
theorem d_Lw_law_1367 : decode code 1367 = .ok (.iconst 4, 1) := zo_7 (zd_b zq_code_42 23 rfl rfl rfl)
theorem d_Lw_law_1368 : decode code 1368 = .ok (.iadd, 1) := zo_96 (zd_b zq_code_42 24 rfl rfl rfl)
theorem d_Lw_law_1369 : decode code 1369 = .ok (.iaload, 1) := zo_46 (zd_b zq_code_42 25 rfl rfl rfl)
theorem d_Lw_law_1370 : decode code 1370 = .ok (.aload_n 0, 1) := zo_42 (zd_b zq_code_42 26 rfl rfl rfl)
theorem d_Lw_law_1371 : decode code 1371 = .ok (.iload 5, 2) := zo_21 (d := 5) (zd_b zq_code_42 27 rfl rfl rfl) (zd_b zq_code_42 28 rfl rfl rfl)
theorem d_Lw_law_1373 : decode code 1373 = .ok (.iconst 5, 1) := zo_8 (zd_b zq_code_42 29 rfl rfl rfl)
theorem d_Lw_law_1374 : decode code 1374 = .ok (.iadd, 1) := zo_96 (zd_b zq_code_42 30 rfl rfl rfl)
theorem d_Lw_law_1375 : decode code 1375 = .ok (.iaload, 1) := zo_46 (zd_b zq_code_42 31 rfl rfl rfl)
theorem d_Lw_law_1376 : decode code 1376 = .ok (.aload_n 0, 1) := zo_42 (zd_b zq_code_43 0 rfl rfl rfl)
theorem d_Lw_law_1377 : decode code 1377 = .ok (.iload 5, 2) := zo_21 (d := 5) (zd_b zq_code_43 1 rfl rfl rfl) (zd_b zq_code_43 2 rfl rfl rfl)
theorem d_Lw_law_1379 : decode code 1379 = .ok (.bipush 6, 2) := zo_16 (d := 6) (zd_b zq_code_43 3 rfl rfl rfl) (zd_b zq_code_43 4 rfl rfl rfl) (by decide +kernel)
theorem d_Lw_law_1381 : decode code 1381 = .ok (.iadd, 1) := zo_96 (zd_b zq_code_43 5 rfl rfl rfl)
theorem d_Lw_law_1382 : decode code 1382 = .ok (.iaload, 1) := zo_46 (zd_b zq_code_43 6 rfl rfl rfl)
theorem d_Lw_law_1383 : decode code 1383 = .ok (.invokevirtual 284, 3) := zo_182 (d := 1) (e := 28) (zd_b zq_code_43 7 rfl rfl rfl) (zd_b zq_code_43 8 rfl rfl rfl) (zd_b zq_code_43 9 rfl rfl rfl)
theorem ok_Lw_law_Mm_leastCost : z_ok M_Lw_law M_Mm_leastCost 6 := ⟨z_mj8 (i := 211) rfl (by decide +kernel), rfl, ⟨by decide +kernel, by decide +kernel, by decide +kernel⟩, ⟨by decide, by decide⟩, z_mj1 (i := 14) rfl (by decide +kernel), rfl⟩
theorem ln_Lw_284 : Cond.methodLink "IronpourLaw" 284 M_Mm_leastCost.1 ∈ z_gw := z_mj8 (i := 208) rfl (by decide +kernel)
theorem w_im_Mm_leastCost : Cond.instanceMethod M_Mm_leastCost.1 ∈ z_gw := z_mj8 (i := 209) rfl (by decide +kernel)
theorem w_se_Mm_leastCost : Cond.selects M_Mm_leastCost.1.cls M_Mm_leastCost.1 M_Mm_leastCost.1 ∈ z_gw := z_mj8 (i := 210) rfl (by decide +kernel)
theorem d_Lw_law_1386 : decode code 1386 = .ok (.istore 7, 2) := zo_54 (d := 7) (zd_b zq_code_43 10 rfl rfl rfl) (zd_b zq_code_43 11 rfl rfl rfl)
theorem d_Lw_law_1388 : decode code 1388 = .ok (.goto 420, 3) := zo_167 (d := 1) (e := 164) (zd_b zq_code_43 12 rfl rfl rfl) (zd_b zq_code_43 13 rfl rfl rfl) (zd_b zq_code_43 14 rfl rfl rfl) (by decide +kernel)
set_option maxHeartbeats 4000000 in
set_option maxRecDepth 100000 in
theorem LC_leastCost {g : zG} {ad : Nat → Nat} {t : zTT} {u : zNN} {w : zW} {j : Nat} (hI : IVm g ad t u w) (hR : REY t u.1 (48 * j)) {r : Nat} (hJ : 7 * j + 7 ≤ g.2.2 41) (hL : g.2.2 41 ≤ 3584) (ih : LWI g ad j r) : DW g M_Lw_law lwQ w 1301 [(5, .int (nI (7 * j))), (4, .ref (ad 70)), (3, .ref (ad 69)), (2, .ref (ad 52)), (1, .ref (ad 0)), (0, .ref (g.2.2 40))] [] (100 * (r + 1)) (1000 * (r + 1)) := by
  refine y_base (cs := []) (z_I.nil w) ?_
  refine y_aload_n d_Lw_law_1301 rfl 4 rfl ?_
  refine y_aload_n d_Lw_law_1302 rfl 5 rfl ?_
  refine y_iload d_Lw_law_1303 0 rfl ?_
  refine y_iconst d_Lw_law_1305 (v := 1) (by decide) ?_
  refine y_iadd d_Lw_law_1306 (v := nI ((7 * j) + 1)) (nI_add _ _) ?_
  refine y_sld (v := zs g (7 * j + 1)) d_Lw_law_1307 (vp_in_nI (by omega) (by omega)) (by rw [nI_clamp (by omega)]; rfl) ?_
  refine y_aload_n d_Lw_law_1308 rfl 5 rfl ?_
  refine y_iload d_Lw_law_1309 0 rfl ?_
  refine y_iconst d_Lw_law_1311 (v := 2) (by decide) ?_
  refine y_iadd d_Lw_law_1312 (v := nI ((7 * j) + 2)) (nI_add _ _) ?_
  refine y_sld (v := zs g (7 * j + 2)) d_Lw_law_1313 (vp_in_nI (by omega) (by omega)) (by rw [nI_clamp (by omega)]; rfl) ?_
  refine y_aload_n d_Lw_law_1314 rfl 5 rfl ?_
  refine y_iload d_Lw_law_1315 0 rfl ?_
  refine y_iconst d_Lw_law_1317 (v := 3) (by decide) ?_
  refine y_iadd d_Lw_law_1318 (v := nI ((7 * j) + 3)) (nI_add _ _) ?_
  refine y_sld (v := zs g (7 * j + 3)) d_Lw_law_1319 (vp_in_nI (by omega) (by omega)) (by rw [nI_clamp (by omega)]; rfl) ?_
  refine y_aload_n d_Lw_law_1320 rfl 5 rfl ?_
  refine y_iload d_Lw_law_1321 0 rfl ?_
  refine y_iconst d_Lw_law_1323 (v := 4) (by decide) ?_
  refine y_iadd d_Lw_law_1324 (v := nI ((7 * j) + 4)) (nI_add _ _) ?_
  refine y_sld (v := zs g (7 * j + 4)) d_Lw_law_1325 (vp_in_nI (by omega) (by omega)) (by rw [nI_clamp (by omega)]; rfl) ?_
  refine y_aload_n d_Lw_law_1326 rfl 5 rfl ?_
  refine y_iload d_Lw_law_1327 0 rfl ?_
  refine y_iconst d_Lw_law_1329 (v := 5) (by decide) ?_
  refine y_iadd d_Lw_law_1330 (v := nI ((7 * j) + 5)) (nI_add _ _) ?_
  refine y_sld (v := zs g (7 * j + 5)) d_Lw_law_1331 (vp_in_nI (by omega) (by omega)) (by rw [nI_clamp (by omega)]; rfl) ?_
  refine y_aload_n d_Lw_law_1332 rfl 5 rfl ?_
  refine y_iload d_Lw_law_1333 0 rfl ?_
  refine y_bipush d_Lw_law_1335 (v := 6) (by decide) ?_
  refine y_iadd d_Lw_law_1337 (v := nI ((7 * j) + 6)) (nI_add _ _) ?_
  refine y_sld (v := zs g (7 * j + 6)) d_Lw_law_1338 (vp_in_nI (by omega) (by omega)) (by rw [nI_clamp (by omega)]; rfl) ?_
  refine y_aload_n d_Lw_law_1339 rfl 2 rfl ?_
  refine yw_callSX (As := [.ref (ad 0), .int (zs g (7 * j + 1)), .int (zs g (7 * j + 2)), .int (zs g (7 * j + 3)), .int (zs g (7 * j + 4)), .int (zs g (7 * j + 5)), .int (zs g (7 * j + 6)), .ref (ad 69)]) (rest := []) ln_Lw_281 w_st_Lw_leastCost ok_Lw_law_Lw_leastCost d_Lw_law_1340 (fun wA hA => W_leastCost (IVm.nil hA hI) _ _ _ _ _ _) rfl rfl (Nat.le_of_ble_eq_true rfl) (by omega) (by omega) (fun wA1340 hA1340 E wB1340 hx => ?_) (fun wA1340 hA1340 v wB1340 hx => ?_)
  · obtain ⟨⟨v9, e1⟩, -⟩ := hx
    cases e1
  · obtain ⟨⟨v9, e1⟩, uC, huC, hI2⟩ := hx
    cases e1
    refine yw_st (st2 := [.int v9]) rfl ?_
    have hI := hI2
    refine y_base (cs := []) (z_I.nil _) ?_
    refine y_istore (lv' := [(6, .int v9), (5, .int (nI (7 * j))), (4, .ref (ad 70)), (3, .ref (ad 69)), (2, .ref (ad 52)), (1, .ref (ad 0)), (0, .ref (g.2.2 40))]) d_Lw_law_1343 (by decide) rfl ?_
    refine y_aload_n d_Lw_law_1345 rfl 4 rfl ?_
    refine y_aload_n d_Lw_law_1346 rfl 6 rfl ?_
    refine y_iload d_Lw_law_1347 1 rfl ?_
    refine y_iconst d_Lw_law_1349 (v := 1) (by decide) ?_
    refine y_iadd d_Lw_law_1350 (v := nI ((7 * j) + 1)) (nI_add _ _) ?_
    refine y_sld (v := zs g (7 * j + 1)) d_Lw_law_1351 (vp_in_nI (by omega) (by omega)) (by rw [nI_clamp (by omega)]; rfl) ?_
    refine y_aload_n d_Lw_law_1352 rfl 6 rfl ?_
    refine y_iload d_Lw_law_1353 1 rfl ?_
    refine y_iconst d_Lw_law_1355 (v := 2) (by decide) ?_
    refine y_iadd d_Lw_law_1356 (v := nI ((7 * j) + 2)) (nI_add _ _) ?_
    refine y_sld (v := zs g (7 * j + 2)) d_Lw_law_1357 (vp_in_nI (by omega) (by omega)) (by rw [nI_clamp (by omega)]; rfl) ?_
    refine y_aload_n d_Lw_law_1358 rfl 6 rfl ?_
    refine y_iload d_Lw_law_1359 1 rfl ?_
    refine y_iconst d_Lw_law_1361 (v := 3) (by decide) ?_
    refine y_iadd d_Lw_law_1362 (v := nI ((7 * j) + 3)) (nI_add _ _) ?_
    refine y_sld (v := zs g (7 * j + 3)) d_Lw_law_1363 (vp_in_nI (by omega) (by omega)) (by rw [nI_clamp (by omega)]; rfl) ?_
    refine y_aload_n d_Lw_law_1364 rfl 6 rfl ?_
    refine y_iload d_Lw_law_1365 1 rfl ?_
    refine y_iconst d_Lw_law_1367 (v := 4) (by decide) ?_
    refine y_iadd d_Lw_law_1368 (v := nI ((7 * j) + 4)) (nI_add _ _) ?_
    refine y_sld (v := zs g (7 * j + 4)) d_Lw_law_1369 (vp_in_nI (by omega) (by omega)) (by rw [nI_clamp (by omega)]; rfl) ?_
    refine y_aload_n d_Lw_law_1370 rfl 6 rfl ?_
    refine y_iload d_Lw_law_1371 1 rfl ?_
    refine y_iconst d_Lw_law_1373 (v := 5) (by decide) ?_
    refine y_iadd d_Lw_law_1374 (v := nI ((7 * j) + 5)) (nI_add _ _) ?_
    refine y_sld (v := zs g (7 * j + 5)) d_Lw_law_1375 (vp_in_nI (by omega) (by omega)) (by rw [nI_clamp (by omega)]; rfl) ?_
    refine y_aload_n d_Lw_law_1376 rfl 6 rfl ?_
    refine y_iload d_Lw_law_1377 1 rfl ?_
    refine y_bipush d_Lw_law_1379 (v := 6) (by decide) ?_
    refine y_iadd d_Lw_law_1381 (v := nI ((7 * j) + 6)) (nI_add _ _) ?_
    refine y_sld (v := zs g (7 * j + 6)) d_Lw_law_1382 (vp_in_nI (by omega) (by omega)) (by rw [nI_clamp (by omega)]; rfl) ?_
    refine yw_callVL (As := [.int (zs g (7 * j + 1)), .int (zs g (7 * j + 2)), .int (zs g (7 * j + 3)), .int (zs g (7 * j + 4)), .int (zs g (7 * j + 5)), .int (zs g (7 * j + 6))]) (rest := []) (ci := 12) rfl (fun wA hA => (IVm.nil hA hI).rm) ln_Lw_284 w_im_Mm_leastCost w_se_Mm_leastCost ok_Lw_law_Mm_leastCost d_Lw_law_1383 (fun wA hA => K_Mm_leastCost (IVm.nil hA hI) _ _ _ _ _ _) rfl rfl (Nat.le_of_ble_eq_true rfl) (by omega) (by omega) (fun wA1383 hA1383 E wB1383 hx => ?_) (fun wA1383 hA1383 v wB1383 hx => ?_)
    · obtain ⟨⟨v8, e1⟩, -⟩ := hx
      cases e1
    · obtain ⟨⟨v8, e1⟩, uM, huM, hI2⟩ := hx
      cases e1
      refine yw_st (st2 := [.int v8]) rfl ?_
      have hI := hI2
      refine y_base (cs := []) (z_I.nil _) ?_
      refine y_istore (lv' := [(7, .int v8), (6, .int v9), (5, .int (nI (7 * j))), (4, .ref (ad 70)), (3, .ref (ad 69)), (2, .ref (ad 52)), (1, .ref (ad 0)), (0, .ref (g.2.2 40))]) d_Lw_law_1386 (by decide) rfl ?_
      refine y_goto (tgt := 1808) d_Lw_law_1388 (by decide) ?_
      refine y_lv (lv' := [(5, .int (nI (7 * j))), (4, .ref (ad 70)), (3, .ref (ad 69)), (2, .ref (ad 52)), (1, .ref (ad 0)), (0, .ref (g.2.2 40))]) [2, 3, 4, 5, 6, 7] rfl ?_
      refine y_end (fun wC hC => ?_)
      exact LC_next (IVm.nil hC hI) ((RY_leastCost (b := 48 * j) (by omega) _ _ _ _ _ _ hR huC huM).up (by omega)) hJ hL ih (by omega) (by omega)
theorem d_Lw_law_1391 : decode code 1391 = .ok (.aload_n 1, 1) := zo_43 (zd_b zq_code_43 15 rfl rfl rfl)
theorem d_Lw_law_1392 : decode code 1392 = .ok (.aload_n 0, 1) := zo_42 (zd_b zq_code_43 16 rfl rfl rfl)
theorem d_Lw_law_1393 : decode code 1393 = .ok (.iload 5, 2) := zo_21 (d := 5) (zd_b zq_code_43 17 rfl rfl rfl) (zd_b zq_code_43 18 rfl rfl rfl)
theorem d_Lw_law_1395 : decode code 1395 = .ok (.iconst 1, 1) := zo_4 (zd_b zq_code_43 19 rfl rfl rfl)
theorem d_Lw_law_1396 : decode code 1396 = .ok (.iadd, 1) := zo_96 (zd_b zq_code_43 20 rfl rfl rfl)
theorem d_Lw_law_1397 : decode code 1397 = .ok (.iaload, 1) := zo_46 (zd_b zq_code_43 21 rfl rfl rfl)
theorem d_Lw_law_1398 : decode code 1398 = .ok (.i2c, 1) := zo_146 (zd_b zq_code_43 22 rfl rfl rfl)
theorem d_Lw_law_1399 : decode code 1399 = .ok (.aload_n 3, 1) := zo_45 (zd_b zq_code_43 23 rfl rfl rfl)
theorem d_Lw_law_1400 : decode code 1400 = .ok (.invokestatic 285, 3) := zo_184 (d := 1) (e := 29) (zd_b zq_code_43 24 rfl rfl rfl) (zd_b zq_code_43 25 rfl rfl rfl) (zd_b zq_code_43 26 rfl rfl rfl)
theorem ok_Lw_law_Lw_cheapest : z_okX M_Lw_law M_Lw_cheapest 3 := ⟨z_mj5 (i := 200) rfl (by decide +kernel), by decide, ⟨by decide +kernel, by decide +kernel, by decide +kernel⟩, ⟨by decide, by decide⟩, z_mj1 (i := 0) rfl (by decide +kernel), rfl⟩
theorem ln_Lw_285 : Cond.methodLink "IronpourLaw" 285 M_Lw_cheapest.1 ∈ z_gw := z_mj5 (i := 198) rfl (by decide +kernel)
theorem w_st_Lw_cheapest : Cond.static M_Lw_cheapest.1 ∈ z_gw := z_mj5 (i := 199) rfl (by decide +kernel)
theorem d_Lw_law_1403 : decode code 1403 = .ok (.istore 6, 2) := zo_54 (d := 6) (zd_b zq_code_43 27 rfl rfl rfl) (zd_b zq_code_43 28 rfl rfl rfl)
theorem d_Lw_law_1405 : decode code 1405 = .ok (.aload_n 2, 1) := zo_44 (zd_b zq_code_43 29 rfl rfl rfl)
theorem d_Lw_law_1406 : decode code 1406 = .ok (.aload_n 0, 1) := zo_42 (zd_b zq_code_43 30 rfl rfl rfl)
theorem d_Lw_law_1407 : decode code 1407 = .ok (.iload 5, 2) := zo_21 (d := 5) (zd_b zq_code_43 31 rfl rfl rfl) (zd_b zq_code_44 0 rfl rfl rfl)
theorem d_Lw_law_1409 : decode code 1409 = .ok (.iconst 1, 1) := zo_4 (zd_b zq_code_44 1 rfl rfl rfl)
theorem d_Lw_law_1410 : decode code 1410 = .ok (.iadd, 1) := zo_96 (zd_b zq_code_44 2 rfl rfl rfl)
theorem d_Lw_law_1411 : decode code 1411 = .ok (.iaload, 1) := zo_46 (zd_b zq_code_44 3 rfl rfl rfl)
theorem d_Lw_law_1412 : decode code 1412 = .ok (.i2c, 1) := zo_146 (zd_b zq_code_44 4 rfl rfl rfl)
theorem d_Lw_law_1413 : decode code 1413 = .ok (.invokevirtual 287, 3) := zo_182 (d := 1) (e := 31) (zd_b zq_code_44 5 rfl rfl rfl) (zd_b zq_code_44 6 rfl rfl rfl) (zd_b zq_code_44 7 rfl rfl rfl)
theorem ok_Lw_law_Mm_cheapest : z_ok M_Lw_law M_Mm_cheapest 1 := ⟨z_mj8 (i := 218) rfl (by decide +kernel), rfl, ⟨by decide +kernel, by decide +kernel, by decide +kernel⟩, ⟨by decide, by decide⟩, z_mj1 (i := 14) rfl (by decide +kernel), rfl⟩
theorem ln_Lw_287 : Cond.methodLink "IronpourLaw" 287 M_Mm_cheapest.1 ∈ z_gw := z_mj8 (i := 215) rfl (by decide +kernel)
theorem w_im_Mm_cheapest : Cond.instanceMethod M_Mm_cheapest.1 ∈ z_gw := z_mj8 (i := 216) rfl (by decide +kernel)
theorem w_se_Mm_cheapest : Cond.selects M_Mm_cheapest.1.cls M_Mm_cheapest.1 M_Mm_cheapest.1 ∈ z_gw := z_mj8 (i := 217) rfl (by decide +kernel)
theorem d_Lw_law_1416 : decode code 1416 = .ok (.istore 7, 2) := zo_54 (d := 7) (zd_b zq_code_44 8 rfl rfl rfl) (zd_b zq_code_44 9 rfl rfl rfl)
theorem d_Lw_law_1418 : decode code 1418 = .ok (.goto 390, 3) := zo_167 (d := 1) (e := 134) (zd_b zq_code_44 10 rfl rfl rfl) (zd_b zq_code_44 11 rfl rfl rfl) (zd_b zq_code_44 12 rfl rfl rfl) (by decide +kernel)
set_option maxHeartbeats 4000000 in
set_option maxRecDepth 100000 in
theorem LC_cheapest {g : zG} {ad : Nat → Nat} {t : zTT} {u : zNN} {w : zW} {j : Nat} (hI : IVm g ad t u w) (hR : REY t u.1 (48 * j)) {r : Nat} (hJ : 7 * j + 7 ≤ g.2.2 41) (hL : g.2.2 41 ≤ 3584) (ih : LWI g ad j r) : DW g M_Lw_law lwQ w 1391 [(5, .int (nI (7 * j))), (4, .ref (ad 70)), (3, .ref (ad 69)), (2, .ref (ad 52)), (1, .ref (ad 0)), (0, .ref (g.2.2 40))] [] (100 * (r + 1)) (1000 * (r + 1)) := by
  refine y_base (cs := []) (z_I.nil w) ?_
  refine y_aload_n d_Lw_law_1391 rfl 4 rfl ?_
  refine y_aload_n d_Lw_law_1392 rfl 5 rfl ?_
  refine y_iload d_Lw_law_1393 0 rfl ?_
  refine y_iconst d_Lw_law_1395 (v := 1) (by decide) ?_
  refine y_iadd d_Lw_law_1396 (v := nI ((7 * j) + 1)) (nI_add _ _) ?_
  refine y_sld (v := zs g (7 * j + 1)) d_Lw_law_1397 (vp_in_nI (by omega) (by omega)) (by rw [nI_clamp (by omega)]; rfl) ?_
  refine y_i2c d_Lw_law_1398 (v := zc g (7 * j + 1)) rfl ?_
  refine y_aload_n d_Lw_law_1399 rfl 2 rfl ?_
  refine yw_callSX (As := [.ref (ad 0), .int (zc g (7 * j + 1)), .ref (ad 69)]) (rest := []) ln_Lw_285 w_st_Lw_cheapest ok_Lw_law_Lw_cheapest d_Lw_law_1400 (fun wA hA => W_cheapest (IVm.nil hA hI) _) rfl rfl (Nat.le_of_ble_eq_true rfl) (by omega) (by omega) (fun wA1400 hA1400 E wB1400 hx => ?_) (fun wA1400 hA1400 v wB1400 hx => ?_)
  · obtain ⟨⟨v9, e1⟩, -⟩ := hx
    cases e1
  · obtain ⟨⟨v9, e1⟩, uC, huC, hI2⟩ := hx
    cases e1
    refine yw_st (st2 := [.int v9]) rfl ?_
    have hI := hI2
    refine y_base (cs := []) (z_I.nil _) ?_
    refine y_istore (lv' := [(6, .int v9), (5, .int (nI (7 * j))), (4, .ref (ad 70)), (3, .ref (ad 69)), (2, .ref (ad 52)), (1, .ref (ad 0)), (0, .ref (g.2.2 40))]) d_Lw_law_1403 (by decide) rfl ?_
    refine y_aload_n d_Lw_law_1405 rfl 4 rfl ?_
    refine y_aload_n d_Lw_law_1406 rfl 6 rfl ?_
    refine y_iload d_Lw_law_1407 1 rfl ?_
    refine y_iconst d_Lw_law_1409 (v := 1) (by decide) ?_
    refine y_iadd d_Lw_law_1410 (v := nI ((7 * j) + 1)) (nI_add _ _) ?_
    refine y_sld (v := zs g (7 * j + 1)) d_Lw_law_1411 (vp_in_nI (by omega) (by omega)) (by rw [nI_clamp (by omega)]; rfl) ?_
    refine y_i2c d_Lw_law_1412 (v := zc g (7 * j + 1)) rfl ?_
    refine yw_callVL (As := [.int (zc g (7 * j + 1))]) (rest := []) (ci := 12) rfl (fun wA hA => (IVm.nil hA hI).rm) ln_Lw_287 w_im_Mm_cheapest w_se_Mm_cheapest ok_Lw_law_Mm_cheapest d_Lw_law_1413 (fun wA hA => K_Mm_cheapest (IVm.nil hA hI) _) rfl rfl (Nat.le_of_ble_eq_true rfl) (by omega) (by omega) (fun wA1413 hA1413 E wB1413 hx => ?_) (fun wA1413 hA1413 v wB1413 hx => ?_)
    · obtain ⟨⟨v8, e1⟩, -⟩ := hx
      cases e1
    · obtain ⟨⟨v8, e1⟩, uM, huM, hI2⟩ := hx
      cases e1
      refine yw_st (st2 := [.int v8]) rfl ?_
      have hI := hI2
      refine y_base (cs := []) (z_I.nil _) ?_
      refine y_istore (lv' := [(7, .int v8), (6, .int v9), (5, .int (nI (7 * j))), (4, .ref (ad 70)), (3, .ref (ad 69)), (2, .ref (ad 52)), (1, .ref (ad 0)), (0, .ref (g.2.2 40))]) d_Lw_law_1416 (by decide) rfl ?_
      refine y_goto (tgt := 1808) d_Lw_law_1418 (by decide) ?_
      refine y_lv (lv' := [(5, .int (nI (7 * j))), (4, .ref (ad 70)), (3, .ref (ad 69)), (2, .ref (ad 52)), (1, .ref (ad 0)), (0, .ref (g.2.2 40))]) [2, 3, 4, 5, 6, 7] rfl ?_
      refine y_end (fun wC hC => ?_)
      exact LC_next (IVm.nil hC hI) ((hR.n (huM.trans huC)).up (by omega)) hJ hL ih (by omega) (by omega)
end
section
theorem d_Lw_law_1421 : decode code 1421 = .ok (.aload_n 1, 1) := zo_43 (zd_b zq_code_44 13 rfl rfl rfl)
theorem d_Lw_law_1422 : decode code 1422 = .ok (.aload_n 3, 1) := zo_45 (zd_b zq_code_44 14 rfl rfl rfl)
theorem d_Lw_law_1423 : decode code 1423 = .ok (.invokestatic 288, 3) := zo_184 (d := 1) (e := 32) (zd_b zq_code_44 15 rfl rfl rfl) (zd_b zq_code_44 16 rfl rfl rfl) (zd_b zq_code_44 17 rfl rfl rfl)
theorem ok_Lw_law_Lw_mould : z_okX M_Lw_law M_Lw_mould 2 := ⟨z_mj5 (i := 214) rfl (by decide +kernel), by decide, ⟨by decide +kernel, by decide +kernel, by decide +kernel⟩, ⟨by decide, by decide⟩, z_mj1 (i := 0) rfl (by decide +kernel), rfl⟩
theorem ln_Lw_288 : Cond.methodLink "IronpourLaw" 288 M_Lw_mould.1 ∈ z_gw := z_mj5 (i := 212) rfl (by decide +kernel)
theorem w_st_Lw_mould : Cond.static M_Lw_mould.1 ∈ z_gw := z_mj5 (i := 213) rfl (by decide +kernel)
theorem d_Lw_law_1426 : decode code 1426 = .ok (.istore 6, 2) := zo_54 (d := 6) (zd_b zq_code_44 18 rfl rfl rfl) (zd_b zq_code_44 19 rfl rfl rfl)
theorem d_Lw_law_1428 : decode code 1428 = .ok (.aload_n 2, 1) := zo_44 (zd_b zq_code_44 20 rfl rfl rfl)
theorem d_Lw_law_1429 : decode code 1429 = .ok (.invokevirtual 290, 3) := zo_182 (d := 1) (e := 34) (zd_b zq_code_44 21 rfl rfl rfl) (zd_b zq_code_44 22 rfl rfl rfl) (zd_b zq_code_44 23 rfl rfl rfl)
theorem ok_Lw_law_Mm_mould : z_ok M_Lw_law M_Mm_mould 0 := ⟨z_mj8 (i := 223) rfl (by decide +kernel), rfl, ⟨by decide +kernel, by decide +kernel, by decide +kernel⟩, ⟨by decide, by decide⟩, z_mj1 (i := 14) rfl (by decide +kernel), rfl⟩
theorem ln_Lw_290 : Cond.methodLink "IronpourLaw" 290 M_Mm_mould.1 ∈ z_gw := z_mj8 (i := 220) rfl (by decide +kernel)
theorem w_im_Mm_mould : Cond.instanceMethod M_Mm_mould.1 ∈ z_gw := z_mj8 (i := 221) rfl (by decide +kernel)
theorem w_se_Mm_mould : Cond.selects M_Mm_mould.1.cls M_Mm_mould.1 M_Mm_mould.1 ∈ z_gw := z_mj8 (i := 222) rfl (by decide +kernel)
theorem d_Lw_law_1432 : decode code 1432 = .ok (.istore 7, 2) := zo_54 (d := 7) (zd_b zq_code_44 24 rfl rfl rfl) (zd_b zq_code_44 25 rfl rfl rfl)
theorem d_Lw_law_1434 : decode code 1434 = .ok (.goto 374, 3) := zo_167 (d := 1) (e := 118) (zd_b zq_code_44 26 rfl rfl rfl) (zd_b zq_code_44 27 rfl rfl rfl) (zd_b zq_code_44 28 rfl rfl rfl) (by decide +kernel)
set_option maxHeartbeats 4000000 in
set_option maxRecDepth 100000 in
theorem LC_mould {g : zG} {ad : Nat → Nat} {t : zTT} {u : zNN} {w : zW} {j : Nat} (hI : IVm g ad t u w) (hR : REY t u.1 (48 * j)) {r : Nat} (hJ : 7 * j + 7 ≤ g.2.2 41) (hL : g.2.2 41 ≤ 3584) (ih : LWI g ad j r) : DW g M_Lw_law lwQ w 1421 [(5, .int (nI (7 * j))), (4, .ref (ad 70)), (3, .ref (ad 69)), (2, .ref (ad 52)), (1, .ref (ad 0)), (0, .ref (g.2.2 40))] [] (100 * (r + 1)) (1000 * (r + 1)) := by
  refine y_base (cs := []) (z_I.nil w) ?_
  refine y_aload_n d_Lw_law_1421 rfl 4 rfl ?_
  refine y_aload_n d_Lw_law_1422 rfl 2 rfl ?_
  refine yw_callSX (As := [.ref (ad 0), .ref (ad 69)]) (rest := []) ln_Lw_288 w_st_Lw_mould ok_Lw_law_Lw_mould d_Lw_law_1423 (fun wA hA => W_mould (IVm.nil hA hI)) rfl rfl (Nat.le_of_ble_eq_true rfl) (by omega) (by omega) (fun wA1423 hA1423 E wB1423 hx => ?_) (fun wA1423 hA1423 v wB1423 hx => ?_)
  · obtain ⟨⟨v9, e1⟩, -⟩ := hx
    cases e1
  · obtain ⟨⟨v9, e1⟩, uC, huC, hI2⟩ := hx
    cases e1
    refine yw_st (st2 := [.int v9]) rfl ?_
    have hI := hI2
    refine y_base (cs := []) (z_I.nil _) ?_
    refine y_istore (lv' := [(6, .int v9), (5, .int (nI (7 * j))), (4, .ref (ad 70)), (3, .ref (ad 69)), (2, .ref (ad 52)), (1, .ref (ad 0)), (0, .ref (g.2.2 40))]) d_Lw_law_1426 (by decide) rfl ?_
    refine y_aload_n d_Lw_law_1428 rfl 4 rfl ?_
    refine yw_callVL (As := []) (rest := []) (ci := 12) rfl (fun wA hA => (IVm.nil hA hI).rm) ln_Lw_290 w_im_Mm_mould w_se_Mm_mould ok_Lw_law_Mm_mould d_Lw_law_1429 (fun wA hA => K_Mm_mould (IVm.nil hA hI)) rfl rfl (Nat.le_of_ble_eq_true rfl) (by omega) (by omega) (fun wA1429 hA1429 E wB1429 hx => ?_) (fun wA1429 hA1429 v wB1429 hx => ?_)
    · obtain ⟨⟨v8, e1⟩, -⟩ := hx
      cases e1
    · obtain ⟨⟨v8, e1⟩, uM, huM, hI2⟩ := hx
      cases e1
      refine yw_st (st2 := [.int v8]) rfl ?_
      have hI := hI2
      refine y_base (cs := []) (z_I.nil _) ?_
      refine y_istore (lv' := [(7, .int v8), (6, .int v9), (5, .int (nI (7 * j))), (4, .ref (ad 70)), (3, .ref (ad 69)), (2, .ref (ad 52)), (1, .ref (ad 0)), (0, .ref (g.2.2 40))]) d_Lw_law_1432 (by decide) rfl ?_
      refine y_goto (tgt := 1808) d_Lw_law_1434 (by decide) ?_
      refine y_lv (lv' := [(5, .int (nI (7 * j))), (4, .ref (ad 70)), (3, .ref (ad 69)), (2, .ref (ad 52)), (1, .ref (ad 0)), (0, .ref (g.2.2 40))]) [2, 3, 4, 5, 6, 7] rfl ?_
      refine y_end (fun wC hC => ?_)
      exact LC_next (IVm.nil hC hI) ((RY_mould (b := 48 * j) (by omega) hR huC huM).up (by omega)) hJ hL ih (by omega) (by omega)
theorem d_Lw_law_1437 : decode code 1437 = .ok (.aload_n 1, 1) := zo_43 (zd_b zq_code_44 29 rfl rfl rfl)
theorem d_Lw_law_1438 : decode code 1438 = .ok (.aload_n 0, 1) := zo_42 (zd_b zq_code_44 30 rfl rfl rfl)
theorem d_Lw_law_1439 : decode code 1439 = .ok (.iload 5, 2) := zo_21 (d := 5) (zd_b zq_code_44 31 rfl rfl rfl) (zd_b zq_code_45 0 rfl rfl rfl)
theorem d_Lw_law_1441 : decode code 1441 = .ok (.iconst 1, 1) := zo_4 (zd_b zq_code_45 1 rfl rfl rfl)
theorem d_Lw_law_1442 : decode code 1442 = .ok (.iadd, 1) := zo_96 (zd_b zq_code_45 2 rfl rfl rfl)
theorem d_Lw_law_1443 : decode code 1443 = .ok (.iaload, 1) := zo_46 (zd_b zq_code_45 3 rfl rfl rfl)
theorem d_Lw_law_1444 : decode code 1444 = .ok (.aload_n 3, 1) := zo_45 (zd_b zq_code_45 4 rfl rfl rfl)
theorem d_Lw_law_1445 : decode code 1445 = .ok (.invokestatic 291, 3) := zo_184 (d := 1) (e := 35) (zd_b zq_code_45 5 rfl rfl rfl) (zd_b zq_code_45 6 rfl rfl rfl) (zd_b zq_code_45 7 rfl rfl rfl)
theorem ok_Lw_law_Lw_waiting : z_okX M_Lw_law M_Lw_waiting 3 := ⟨z_mj6 (i := 99) rfl (by decide +kernel), by decide, ⟨by decide +kernel, by decide +kernel, by decide +kernel⟩, ⟨by decide, by decide⟩, z_mj1 (i := 0) rfl (by decide +kernel), rfl⟩
theorem ln_Lw_291 : Cond.methodLink "IronpourLaw" 291 M_Lw_waiting.1 ∈ z_gw := z_mj6 (i := 97) rfl (by decide +kernel)
theorem w_st_Lw_waiting : Cond.static M_Lw_waiting.1 ∈ z_gw := z_mj6 (i := 98) rfl (by decide +kernel)
theorem d_Lw_law_1448 : decode code 1448 = .ok (.istore 6, 2) := zo_54 (d := 6) (zd_b zq_code_45 8 rfl rfl rfl) (zd_b zq_code_45 9 rfl rfl rfl)
theorem d_Lw_law_1450 : decode code 1450 = .ok (.aload_n 2, 1) := zo_44 (zd_b zq_code_45 10 rfl rfl rfl)
theorem d_Lw_law_1451 : decode code 1451 = .ok (.aload_n 0, 1) := zo_42 (zd_b zq_code_45 11 rfl rfl rfl)
theorem d_Lw_law_1452 : decode code 1452 = .ok (.iload 5, 2) := zo_21 (d := 5) (zd_b zq_code_45 12 rfl rfl rfl) (zd_b zq_code_45 13 rfl rfl rfl)
theorem d_Lw_law_1454 : decode code 1454 = .ok (.iconst 1, 1) := zo_4 (zd_b zq_code_45 14 rfl rfl rfl)
theorem d_Lw_law_1455 : decode code 1455 = .ok (.iadd, 1) := zo_96 (zd_b zq_code_45 15 rfl rfl rfl)
theorem d_Lw_law_1456 : decode code 1456 = .ok (.iaload, 1) := zo_46 (zd_b zq_code_45 16 rfl rfl rfl)
theorem d_Lw_law_1457 : decode code 1457 = .ok (.invokevirtual 293, 3) := zo_182 (d := 1) (e := 37) (zd_b zq_code_45 17 rfl rfl rfl) (zd_b zq_code_45 18 rfl rfl rfl) (zd_b zq_code_45 19 rfl rfl rfl)
theorem ok_Lw_law_Mm_waiting : z_ok M_Lw_law M_Mm_waiting 1 := ⟨z_mj8 (i := 235) rfl (by decide +kernel), rfl, ⟨by decide +kernel, by decide +kernel, by decide +kernel⟩, ⟨by decide, by decide⟩, z_mj1 (i := 14) rfl (by decide +kernel), rfl⟩
theorem ln_Lw_293 : Cond.methodLink "IronpourLaw" 293 M_Mm_waiting.1 ∈ z_gw := z_mj8 (i := 232) rfl (by decide +kernel)
theorem w_im_Mm_waiting : Cond.instanceMethod M_Mm_waiting.1 ∈ z_gw := z_mj8 (i := 233) rfl (by decide +kernel)
theorem w_se_Mm_waiting : Cond.selects M_Mm_waiting.1.cls M_Mm_waiting.1 M_Mm_waiting.1 ∈ z_gw := z_mj8 (i := 234) rfl (by decide +kernel)
theorem d_Lw_law_1460 : decode code 1460 = .ok (.istore 7, 2) := zo_54 (d := 7) (zd_b zq_code_45 20 rfl rfl rfl) (zd_b zq_code_45 21 rfl rfl rfl)
theorem d_Lw_law_1462 : decode code 1462 = .ok (.goto 346, 3) := zo_167 (d := 1) (e := 90) (zd_b zq_code_45 22 rfl rfl rfl) (zd_b zq_code_45 23 rfl rfl rfl) (zd_b zq_code_45 24 rfl rfl rfl) (by decide +kernel)
set_option maxHeartbeats 4000000 in
set_option maxRecDepth 100000 in
theorem LC_waiting {g : zG} {ad : Nat → Nat} {t : zTT} {u : zNN} {w : zW} {j : Nat} (hI : IVm g ad t u w) (hR : REY t u.1 (48 * j)) {r : Nat} (hJ : 7 * j + 7 ≤ g.2.2 41) (hL : g.2.2 41 ≤ 3584) (ih : LWI g ad j r) : DW g M_Lw_law lwQ w 1437 [(5, .int (nI (7 * j))), (4, .ref (ad 70)), (3, .ref (ad 69)), (2, .ref (ad 52)), (1, .ref (ad 0)), (0, .ref (g.2.2 40))] [] (100 * (r + 1)) (1000 * (r + 1)) := by
  refine y_base (cs := []) (z_I.nil w) ?_
  refine y_aload_n d_Lw_law_1437 rfl 4 rfl ?_
  refine y_aload_n d_Lw_law_1438 rfl 5 rfl ?_
  refine y_iload d_Lw_law_1439 0 rfl ?_
  refine y_iconst d_Lw_law_1441 (v := 1) (by decide) ?_
  refine y_iadd d_Lw_law_1442 (v := nI ((7 * j) + 1)) (nI_add _ _) ?_
  refine y_sld (v := zs g (7 * j + 1)) d_Lw_law_1443 (vp_in_nI (by omega) (by omega)) (by rw [nI_clamp (by omega)]; rfl) ?_
  refine y_aload_n d_Lw_law_1444 rfl 2 rfl ?_
  refine yw_callSX (As := [.ref (ad 0), .int (zs g (7 * j + 1)), .ref (ad 69)]) (rest := []) ln_Lw_291 w_st_Lw_waiting ok_Lw_law_Lw_waiting d_Lw_law_1445 (fun wA hA => W_waiting (IVm.nil hA hI) _) rfl rfl (Nat.le_of_ble_eq_true rfl) (by omega) (by omega) (fun wA1445 hA1445 E wB1445 hx => ?_) (fun wA1445 hA1445 v wB1445 hx => ?_)
  · obtain ⟨⟨v9, e1⟩, -⟩ := hx
    cases e1
  · obtain ⟨⟨v9, e1⟩, uC, huC, hI2⟩ := hx
    cases e1
    refine yw_st (st2 := [.int v9]) rfl ?_
    have hI := hI2
    refine y_base (cs := []) (z_I.nil _) ?_
    refine y_istore (lv' := [(6, .int v9), (5, .int (nI (7 * j))), (4, .ref (ad 70)), (3, .ref (ad 69)), (2, .ref (ad 52)), (1, .ref (ad 0)), (0, .ref (g.2.2 40))]) d_Lw_law_1448 (by decide) rfl ?_
    refine y_aload_n d_Lw_law_1450 rfl 4 rfl ?_
    refine y_aload_n d_Lw_law_1451 rfl 6 rfl ?_
    refine y_iload d_Lw_law_1452 1 rfl ?_
    refine y_iconst d_Lw_law_1454 (v := 1) (by decide) ?_
    refine y_iadd d_Lw_law_1455 (v := nI ((7 * j) + 1)) (nI_add _ _) ?_
    refine y_sld (v := zs g (7 * j + 1)) d_Lw_law_1456 (vp_in_nI (by omega) (by omega)) (by rw [nI_clamp (by omega)]; rfl) ?_
    refine yw_callVL (As := [.int (zs g (7 * j + 1))]) (rest := []) (ci := 12) rfl (fun wA hA => (IVm.nil hA hI).rm) ln_Lw_293 w_im_Mm_waiting w_se_Mm_waiting ok_Lw_law_Mm_waiting d_Lw_law_1457 (fun wA hA => K_Mm_waiting (IVm.nil hA hI) _) rfl rfl (Nat.le_of_ble_eq_true rfl) (by omega) (by omega) (fun wA1457 hA1457 E wB1457 hx => ?_) (fun wA1457 hA1457 v wB1457 hx => ?_)
    · obtain ⟨⟨v8, e1⟩, -⟩ := hx
      cases e1
    · obtain ⟨⟨v8, e1⟩, uM, huM, hI2⟩ := hx
      cases e1
      refine yw_st (st2 := [.int v8]) rfl ?_
      have hI := hI2
      refine y_base (cs := []) (z_I.nil _) ?_
      refine y_istore (lv' := [(7, .int v8), (6, .int v9), (5, .int (nI (7 * j))), (4, .ref (ad 70)), (3, .ref (ad 69)), (2, .ref (ad 52)), (1, .ref (ad 0)), (0, .ref (g.2.2 40))]) d_Lw_law_1460 (by decide) rfl ?_
      refine y_goto (tgt := 1808) d_Lw_law_1462 (by decide) ?_
      refine y_lv (lv' := [(5, .int (nI (7 * j))), (4, .ref (ad 70)), (3, .ref (ad 69)), (2, .ref (ad 52)), (1, .ref (ad 0)), (0, .ref (g.2.2 40))]) [2, 3, 4, 5, 6, 7] rfl ?_
      refine y_end (fun wC hC => ?_)
      exact LC_next (IVm.nil hC hI) ((hR.n (huM.trans huC)).up (by omega)) hJ hL ih (by omega) (by omega)
theorem d_Lw_law_1465 : decode code 1465 = .ok (.aload_n 1, 1) := zo_43 (zd_b zq_code_45 25 rfl rfl rfl)
theorem d_Lw_law_1466 : decode code 1466 = .ok (.aload_n 3, 1) := zo_45 (zd_b zq_code_45 26 rfl rfl rfl)
theorem d_Lw_law_1467 : decode code 1467 = .ok (.invokestatic 294, 3) := zo_184 (d := 1) (e := 38) (zd_b zq_code_45 27 rfl rfl rfl) (zd_b zq_code_45 28 rfl rfl rfl) (zd_b zq_code_45 29 rfl rfl rfl)
theorem ok_Lw_law_Lw_pour : z_okX M_Lw_law M_Lw_pour 2 := ⟨z_mj6 (i := 107) rfl (by decide +kernel), by decide, ⟨by decide +kernel, by decide +kernel, by decide +kernel⟩, ⟨by decide, by decide⟩, z_mj1 (i := 0) rfl (by decide +kernel), rfl⟩
theorem ln_Lw_294 : Cond.methodLink "IronpourLaw" 294 M_Lw_pour.1 ∈ z_gw := z_mj6 (i := 105) rfl (by decide +kernel)
theorem w_st_Lw_pour : Cond.static M_Lw_pour.1 ∈ z_gw := z_mj6 (i := 106) rfl (by decide +kernel)
theorem d_Lw_law_1470 : decode code 1470 = .ok (.istore 6, 2) := zo_54 (d := 6) (zd_b zq_code_45 30 rfl rfl rfl) (zd_b zq_code_45 31 rfl rfl rfl)
theorem d_Lw_law_1472 : decode code 1472 = .ok (.aload_n 2, 1) := zo_44 (zd_b zq_code_46 0 rfl rfl rfl)
theorem d_Lw_law_1473 : decode code 1473 = .ok (.invokevirtual 296, 3) := zo_182 (d := 1) (e := 40) (zd_b zq_code_46 1 rfl rfl rfl) (zd_b zq_code_46 2 rfl rfl rfl) (zd_b zq_code_46 3 rfl rfl rfl)
theorem ok_Lw_law_Mm_pour : z_ok M_Lw_law M_Mm_pour 0 := ⟨z_mj8 (i := 239) rfl (by decide +kernel), rfl, ⟨by decide +kernel, by decide +kernel, by decide +kernel⟩, ⟨by decide, by decide⟩, z_mj1 (i := 14) rfl (by decide +kernel), rfl⟩
theorem ln_Lw_296 : Cond.methodLink "IronpourLaw" 296 M_Mm_pour.1 ∈ z_gw := z_mj8 (i := 236) rfl (by decide +kernel)
theorem w_im_Mm_pour : Cond.instanceMethod M_Mm_pour.1 ∈ z_gw := z_mj8 (i := 237) rfl (by decide +kernel)
theorem w_se_Mm_pour : Cond.selects M_Mm_pour.1.cls M_Mm_pour.1 M_Mm_pour.1 ∈ z_gw := z_mj8 (i := 238) rfl (by decide +kernel)
theorem d_Lw_law_1476 : decode code 1476 = .ok (.istore 7, 2) := zo_54 (d := 7) (zd_b zq_code_46 4 rfl rfl rfl) (zd_b zq_code_46 5 rfl rfl rfl)
theorem d_Lw_law_1478 : decode code 1478 = .ok (.goto 330, 3) := zo_167 (d := 1) (e := 74) (zd_b zq_code_46 6 rfl rfl rfl) (zd_b zq_code_46 7 rfl rfl rfl) (zd_b zq_code_46 8 rfl rfl rfl) (by decide +kernel)
set_option maxHeartbeats 4000000 in
set_option maxRecDepth 100000 in
theorem LC_pour {g : zG} {ad : Nat → Nat} {t : zTT} {u : zNN} {w : zW} {j : Nat} (hI : IVm g ad t u w) (hR : REY t u.1 (48 * j)) {r : Nat} (hJ : 7 * j + 7 ≤ g.2.2 41) (hL : g.2.2 41 ≤ 3584) (ih : LWI g ad j r) : DW g M_Lw_law lwQ w 1465 [(5, .int (nI (7 * j))), (4, .ref (ad 70)), (3, .ref (ad 69)), (2, .ref (ad 52)), (1, .ref (ad 0)), (0, .ref (g.2.2 40))] [] (100 * (r + 1)) (1000 * (r + 1)) := by
  have hI0 := hI
  refine y_base (cs := []) (z_I.nil w) ?_
  refine y_aload_n d_Lw_law_1465 rfl 4 rfl ?_
  refine y_aload_n d_Lw_law_1466 rfl 2 rfl ?_
  refine yw_callSX (As := [.ref (ad 0), .ref (ad 69)]) (rest := []) ln_Lw_294 w_st_Lw_pour ok_Lw_law_Lw_pour d_Lw_law_1467 (fun wA hA => W_pour (IVm.nil hA hI)) rfl rfl (Nat.le_of_ble_eq_true rfl) (by omega) (by omega) (fun wA1467 hA1467 E wB1467 hx => ?_) (fun wA1467 hA1467 v wB1467 hx => ?_)
  · obtain ⟨X9, ⟨v9, e1⟩, -⟩ := hx
    cases e1
  · obtain ⟨X9, ⟨v9, e1⟩, uC, huC, hI2⟩ := hx
    cases e1
    refine yw_st (st2 := [.int v9]) rfl ?_
    have hI := hI2
    refine y_base (cs := []) (z_I.nil _) ?_
    refine y_istore (lv' := [(6, .int v9), (5, .int (nI (7 * j))), (4, .ref (ad 70)), (3, .ref (ad 69)), (2, .ref (ad 52)), (1, .ref (ad 0)), (0, .ref (g.2.2 40))]) d_Lw_law_1470 (by decide) rfl ?_
    refine y_aload_n d_Lw_law_1472 rfl 4 rfl ?_
    refine yw_callVL (As := []) (rest := []) (ci := 12) rfl (fun wA hA => (IVm.nil hA hI).rm) ln_Lw_296 w_im_Mm_pour w_se_Mm_pour ok_Lw_law_Mm_pour d_Lw_law_1473 (fun wA hA => K_Mm_pour (IVm.nil hA hI)) rfl rfl (Nat.le_of_ble_eq_true rfl) (by omega) (by omega) (fun wA1473 hA1473 E wB1473 hx => ?_) (fun wA1473 hA1473 v wB1473 hx => ?_)
    · obtain ⟨S9, ⟨v8, e1⟩, -⟩ := hx
      cases e1
    · obtain ⟨S9, ⟨v8, e1⟩, uM, huM, hI2⟩ := hx
      cases e1
      refine yw_st (st2 := [.int v8]) rfl ?_
      have hI := hI2
      refine y_base (cs := []) (z_I.nil _) ?_
      refine y_istore (lv' := [(7, .int v8), (6, .int v9), (5, .int (nI (7 * j))), (4, .ref (ad 70)), (3, .ref (ad 69)), (2, .ref (ad 52)), (1, .ref (ad 0)), (0, .ref (g.2.2 40))]) d_Lw_law_1476 (by decide) rfl ?_
      refine y_goto (tgt := 1808) d_Lw_law_1478 (by decide) ?_
      refine y_lv (lv' := [(5, .int (nI (7 * j))), (4, .ref (ad 70)), (3, .ref (ad 69)), (2, .ref (ad 52)), (1, .ref (ad 0)), (0, .ref (g.2.2 40))]) [2, 3, 4, 5, 6, 7] rfl ?_
      refine y_end (fun wC hC => ?_)
      exact LC_next (IVm.nil hC hI) ((RY_pour (fun q => IVm.px hI0 q) (b := 48 * j) (by omega) hR huC huM).up (by omega)) hJ hL ih (by omega) (by omega)
theorem d_Lw_law_1481 : decode code 1481 = .ok (.aload_n 1, 1) := zo_43 (zd_b zq_code_46 9 rfl rfl rfl)
theorem d_Lw_law_1482 : decode code 1482 = .ok (.invokevirtual 297, 3) := zo_182 (d := 1) (e := 41) (zd_b zq_code_46 10 rfl rfl rfl) (zd_b zq_code_46 11 rfl rfl rfl) (zd_b zq_code_46 12 rfl rfl rfl)
theorem ok_Lw_law_Ip_castings : z_ok M_Lw_law M_Ip_castings 0 := ⟨z_mj2 (i := 168) rfl (by decide +kernel), rfl, ⟨by decide +kernel, by decide +kernel, by decide +kernel⟩, ⟨by decide, by decide⟩, z_mj1 (i := 1) rfl (by decide +kernel), rfl⟩
theorem ln_Lw_297 : Cond.methodLink "IronpourLaw" 297 M_Ip_castings.1 ∈ z_gw := z_mj2 (i := 165) rfl (by decide +kernel)
theorem w_im_Ip_castings : Cond.instanceMethod M_Ip_castings.1 ∈ z_gw := z_mj2 (i := 166) rfl (by decide +kernel)
theorem w_se_Ip_castings : Cond.selects M_Ip_castings.1.cls M_Ip_castings.1 M_Ip_castings.1 ∈ z_gw := z_mj2 (i := 167) rfl (by decide +kernel)
theorem d_Lw_law_1485 : decode code 1485 = .ok (.pop, 1) := zo_87 (zd_b zq_code_46 13 rfl rfl rfl)
theorem d_Lw_law_1486 : decode code 1486 = .ok (.aload_n 2, 1) := zo_44 (zd_b zq_code_46 14 rfl rfl rfl)
theorem d_Lw_law_1487 : decode code 1487 = .ok (.invokevirtual 300, 3) := zo_182 (d := 1) (e := 44) (zd_b zq_code_46 15 rfl rfl rfl) (zd_b zq_code_46 16 rfl rfl rfl) (zd_b zq_code_46 17 rfl rfl rfl)
theorem ok_Lw_law_Mm_castings : z_ok M_Lw_law M_Mm_castings 0 := ⟨z_mj9 (i := 9) rfl (by decide +kernel), rfl, ⟨by decide +kernel, by decide +kernel, by decide +kernel⟩, ⟨by decide, by decide⟩, z_mj1 (i := 14) rfl (by decide +kernel), rfl⟩
theorem ln_Lw_300 : Cond.methodLink "IronpourLaw" 300 M_Mm_castings.1 ∈ z_gw := z_mj9 (i := 6) rfl (by decide +kernel)
theorem w_im_Mm_castings : Cond.instanceMethod M_Mm_castings.1 ∈ z_gw := z_mj9 (i := 7) rfl (by decide +kernel)
theorem w_se_Mm_castings : Cond.selects M_Mm_castings.1.cls M_Mm_castings.1 M_Mm_castings.1 ∈ z_gw := z_mj9 (i := 8) rfl (by decide +kernel)
theorem d_Lw_law_1490 : decode code 1490 = .ok (.pop, 1) := zo_87 (zd_b zq_code_46 18 rfl rfl rfl)
theorem d_Lw_law_1491 : decode code 1491 = .ok (.goto 317, 3) := zo_167 (d := 1) (e := 61) (zd_b zq_code_46 19 rfl rfl rfl) (zd_b zq_code_46 20 rfl rfl rfl) (zd_b zq_code_46 21 rfl rfl rfl) (by decide +kernel)
set_option maxHeartbeats 4000000 in
set_option maxRecDepth 100000 in
theorem LC_castings {g : zG} {ad : Nat → Nat} {t : zTT} {u : zNN} {w : zW} {j : Nat} (hI : IVm g ad t u w) (hR : REY t u.1 (48 * j)) {r : Nat} (hJ : 7 * j + 7 ≤ g.2.2 41) (hL : g.2.2 41 ≤ 3584) (ih : LWI g ad j r) : DW g M_Lw_law lwQ w 1481 [(5, .int (nI (7 * j))), (4, .ref (ad 70)), (3, .ref (ad 69)), (2, .ref (ad 52)), (1, .ref (ad 0)), (0, .ref (g.2.2 40))] [] (100 * (r + 1)) (1000 * (r + 1)) := by
  refine y_base (cs := []) (z_I.nil w) ?_
  refine y_aload_n d_Lw_law_1481 rfl 4 rfl ?_
  refine yw_callVL (As := []) (rest := []) (ci := 11) rfl (fun wA hA => (IVm.nil hA hI).ra) ln_Lw_297 w_im_Ip_castings w_se_Ip_castings ok_Lw_law_Ip_castings d_Lw_law_1482 (fun wA hA => K_Ip_castings (IVm.nil hA hI)) rfl rfl (Nat.le_of_ble_eq_true rfl) (by omega) (by omega) (fun wA1482 hA1482 E wB1482 hx => ?_) (fun wA1482 hA1482 v wB1482 hx => ?_)
  · obtain ⟨h1, -⟩ := hx
    cases zriE h1
  · obtain ⟨h1, uC, huC, hI2⟩ := hx
    obtain ⟨v9, rfl⟩ := zriV h1
    refine yw_st (st2 := [.int v9]) rfl ?_
    have hI := hI2
    refine y_base (cs := []) (z_I.nil _) ?_
    refine y_pop d_Lw_law_1485 rfl ?_
    refine y_aload_n d_Lw_law_1486 rfl 3 rfl ?_
    refine yw_callVL (As := []) (rest := []) (ci := 12) rfl (fun wA hA => (IVm.nil hA hI).rm) ln_Lw_300 w_im_Mm_castings w_se_Mm_castings ok_Lw_law_Mm_castings d_Lw_law_1487 (fun wA hA => K_Mm_castings (IVm.nil hA hI)) rfl rfl (Nat.le_of_ble_eq_true rfl) (by omega) (by omega) (fun wA1487 hA1487 E wB1487 hx => ?_) (fun wA1487 hA1487 v wB1487 hx => ?_)
    · obtain ⟨⟨v8, e1⟩, -⟩ := hx
      cases e1
    · obtain ⟨⟨v8, e1⟩, uM, huM, hI2⟩ := hx
      cases e1
      refine yw_st (st2 := [.int v8]) rfl ?_
      have hI := hI2
      refine y_base (cs := []) (z_I.nil _) ?_
      refine y_pop d_Lw_law_1490 rfl ?_
      refine y_goto (tgt := 1808) d_Lw_law_1491 (by decide) ?_
      refine y_lv (lv' := [(5, .int (nI (7 * j))), (4, .ref (ad 70)), (3, .ref (ad 69)), (2, .ref (ad 52)), (1, .ref (ad 0)), (0, .ref (g.2.2 40))]) [0, 1, 2, 3, 4, 5] rfl ?_
      refine y_end (fun wC hC => ?_)
      exact LC_next (IVm.nil hC hI) ((hR.n (huM.trans huC)).up (by omega)) hJ hL ih (by omega) (by omega)
theorem d_Lw_law_1494 : decode code 1494 = .ok (.aload_n 1, 1) := zo_43 (zd_b zq_code_46 22 rfl rfl rfl)
theorem d_Lw_law_1495 : decode code 1495 = .ok (.aload_n 0, 1) := zo_42 (zd_b zq_code_46 23 rfl rfl rfl)
theorem d_Lw_law_1496 : decode code 1496 = .ok (.iload 5, 2) := zo_21 (d := 5) (zd_b zq_code_46 24 rfl rfl rfl) (zd_b zq_code_46 25 rfl rfl rfl)
theorem d_Lw_law_1498 : decode code 1498 = .ok (.iconst 1, 1) := zo_4 (zd_b zq_code_46 26 rfl rfl rfl)
theorem d_Lw_law_1499 : decode code 1499 = .ok (.iadd, 1) := zo_96 (zd_b zq_code_46 27 rfl rfl rfl)
theorem d_Lw_law_1500 : decode code 1500 = .ok (.iaload, 1) := zo_46 (zd_b zq_code_46 28 rfl rfl rfl)
theorem d_Lw_law_1501 : decode code 1501 = .ok (.aload_n 3, 1) := zo_45 (zd_b zq_code_46 29 rfl rfl rfl)
theorem d_Lw_law_1502 : decode code 1502 = .ok (.invokestatic 301, 3) := zo_184 (d := 1) (e := 45) (zd_b zq_code_46 30 rfl rfl rfl) (zd_b zq_code_46 31 rfl rfl rfl) (zd_b zq_code_47 0 rfl rfl rfl)
theorem ok_Lw_law_Lw_alloy : z_okX M_Lw_law M_Lw_alloy 3 := ⟨z_mj6 (i := 185) rfl (by decide +kernel), by decide, ⟨by decide +kernel, by decide +kernel, by decide +kernel⟩, ⟨by decide, by decide⟩, z_mj1 (i := 0) rfl (by decide +kernel), rfl⟩
theorem ln_Lw_301 : Cond.methodLink "IronpourLaw" 301 M_Lw_alloy.1 ∈ z_gw := z_mj6 (i := 183) rfl (by decide +kernel)
theorem w_st_Lw_alloy : Cond.static M_Lw_alloy.1 ∈ z_gw := z_mj6 (i := 184) rfl (by decide +kernel)
theorem d_Lw_law_1505 : decode code 1505 = .ok (.istore 6, 2) := zo_54 (d := 6) (zd_b zq_code_47 1 rfl rfl rfl) (zd_b zq_code_47 2 rfl rfl rfl)
theorem d_Lw_law_1507 : decode code 1507 = .ok (.aload_n 2, 1) := zo_44 (zd_b zq_code_47 3 rfl rfl rfl)
theorem d_Lw_law_1508 : decode code 1508 = .ok (.aload_n 0, 1) := zo_42 (zd_b zq_code_47 4 rfl rfl rfl)
theorem d_Lw_law_1509 : decode code 1509 = .ok (.iload 5, 2) := zo_21 (d := 5) (zd_b zq_code_47 5 rfl rfl rfl) (zd_b zq_code_47 6 rfl rfl rfl)
theorem d_Lw_law_1511 : decode code 1511 = .ok (.iconst 1, 1) := zo_4 (zd_b zq_code_47 7 rfl rfl rfl)
theorem d_Lw_law_1512 : decode code 1512 = .ok (.iadd, 1) := zo_96 (zd_b zq_code_47 8 rfl rfl rfl)
theorem d_Lw_law_1513 : decode code 1513 = .ok (.iaload, 1) := zo_46 (zd_b zq_code_47 9 rfl rfl rfl)
theorem d_Lw_law_1514 : decode code 1514 = .ok (.invokevirtual 303, 3) := zo_182 (d := 1) (e := 47) (zd_b zq_code_47 10 rfl rfl rfl) (zd_b zq_code_47 11 rfl rfl rfl) (zd_b zq_code_47 12 rfl rfl rfl)
theorem ok_Lw_law_Mm_alloy : z_ok M_Lw_law M_Mm_alloy 1 := ⟨z_mj9 (i := 13) rfl (by decide +kernel), rfl, ⟨by decide +kernel, by decide +kernel, by decide +kernel⟩, ⟨by decide, by decide⟩, z_mj1 (i := 14) rfl (by decide +kernel), rfl⟩
theorem ln_Lw_303 : Cond.methodLink "IronpourLaw" 303 M_Mm_alloy.1 ∈ z_gw := z_mj9 (i := 10) rfl (by decide +kernel)
theorem w_im_Mm_alloy : Cond.instanceMethod M_Mm_alloy.1 ∈ z_gw := z_mj9 (i := 11) rfl (by decide +kernel)
theorem w_se_Mm_alloy : Cond.selects M_Mm_alloy.1.cls M_Mm_alloy.1 M_Mm_alloy.1 ∈ z_gw := z_mj9 (i := 12) rfl (by decide +kernel)
theorem d_Lw_law_1517 : decode code 1517 = .ok (.istore 7, 2) := zo_54 (d := 7) (zd_b zq_code_47 13 rfl rfl rfl) (zd_b zq_code_47 14 rfl rfl rfl)
theorem d_Lw_law_1519 : decode code 1519 = .ok (.goto 289, 3) := zo_167 (d := 1) (e := 33) (zd_b zq_code_47 15 rfl rfl rfl) (zd_b zq_code_47 16 rfl rfl rfl) (zd_b zq_code_47 17 rfl rfl rfl) (by decide +kernel)
set_option maxHeartbeats 4000000 in
set_option maxRecDepth 100000 in
theorem LC_alloy {g : zG} {ad : Nat → Nat} {t : zTT} {u : zNN} {w : zW} {j : Nat} (hI : IVm g ad t u w) (hR : REY t u.1 (48 * j)) {r : Nat} (hJ : 7 * j + 7 ≤ g.2.2 41) (hL : g.2.2 41 ≤ 3584) (ih : LWI g ad j r) : DW g M_Lw_law lwQ w 1494 [(5, .int (nI (7 * j))), (4, .ref (ad 70)), (3, .ref (ad 69)), (2, .ref (ad 52)), (1, .ref (ad 0)), (0, .ref (g.2.2 40))] [] (100 * (r + 1)) (1000 * (r + 1)) := by
  refine y_base (cs := []) (z_I.nil w) ?_
  refine y_aload_n d_Lw_law_1494 rfl 4 rfl ?_
  refine y_aload_n d_Lw_law_1495 rfl 5 rfl ?_
  refine y_iload d_Lw_law_1496 0 rfl ?_
  refine y_iconst d_Lw_law_1498 (v := 1) (by decide) ?_
  refine y_iadd d_Lw_law_1499 (v := nI ((7 * j) + 1)) (nI_add _ _) ?_
  refine y_sld (v := zs g (7 * j + 1)) d_Lw_law_1500 (vp_in_nI (by omega) (by omega)) (by rw [nI_clamp (by omega)]; rfl) ?_
  refine y_aload_n d_Lw_law_1501 rfl 2 rfl ?_
  refine yw_callSX (As := [.ref (ad 0), .int (zs g (7 * j + 1)), .ref (ad 69)]) (rest := []) ln_Lw_301 w_st_Lw_alloy ok_Lw_law_Lw_alloy d_Lw_law_1502 (fun wA hA => W_alloy (IVm.nil hA hI) _) rfl rfl (Nat.le_of_ble_eq_true rfl) (by omega) (by omega) (fun wA1502 hA1502 E wB1502 hx => ?_) (fun wA1502 hA1502 v wB1502 hx => ?_)
  · obtain ⟨⟨v9, e1⟩, -⟩ := hx
    cases e1
  · obtain ⟨⟨v9, e1⟩, uC, huC, hI2⟩ := hx
    cases e1
    refine yw_st (st2 := [.int v9]) rfl ?_
    have hI := hI2
    refine y_base (cs := []) (z_I.nil _) ?_
    refine y_istore (lv' := [(6, .int v9), (5, .int (nI (7 * j))), (4, .ref (ad 70)), (3, .ref (ad 69)), (2, .ref (ad 52)), (1, .ref (ad 0)), (0, .ref (g.2.2 40))]) d_Lw_law_1505 (by decide) rfl ?_
    refine y_aload_n d_Lw_law_1507 rfl 4 rfl ?_
    refine y_aload_n d_Lw_law_1508 rfl 6 rfl ?_
    refine y_iload d_Lw_law_1509 1 rfl ?_
    refine y_iconst d_Lw_law_1511 (v := 1) (by decide) ?_
    refine y_iadd d_Lw_law_1512 (v := nI ((7 * j) + 1)) (nI_add _ _) ?_
    refine y_sld (v := zs g (7 * j + 1)) d_Lw_law_1513 (vp_in_nI (by omega) (by omega)) (by rw [nI_clamp (by omega)]; rfl) ?_
    refine yw_callVL (As := [.int (zs g (7 * j + 1))]) (rest := []) (ci := 12) rfl (fun wA hA => (IVm.nil hA hI).rm) ln_Lw_303 w_im_Mm_alloy w_se_Mm_alloy ok_Lw_law_Mm_alloy d_Lw_law_1514 (fun wA hA => K_Mm_alloy (IVm.nil hA hI) _) rfl rfl (Nat.le_of_ble_eq_true rfl) (by omega) (by omega) (fun wA1514 hA1514 E wB1514 hx => ?_) (fun wA1514 hA1514 v wB1514 hx => ?_)
    · obtain ⟨⟨v8, e1⟩, -⟩ := hx
      cases e1
    · obtain ⟨⟨v8, e1⟩, uM, huM, hI2⟩ := hx
      cases e1
      refine yw_st (st2 := [.int v8]) rfl ?_
      have hI := hI2
      refine y_base (cs := []) (z_I.nil _) ?_
      refine y_istore (lv' := [(7, .int v8), (6, .int v9), (5, .int (nI (7 * j))), (4, .ref (ad 70)), (3, .ref (ad 69)), (2, .ref (ad 52)), (1, .ref (ad 0)), (0, .ref (g.2.2 40))]) d_Lw_law_1517 (by decide) rfl ?_
      refine y_goto (tgt := 1808) d_Lw_law_1519 (by decide) ?_
      refine y_lv (lv' := [(5, .int (nI (7 * j))), (4, .ref (ad 70)), (3, .ref (ad 69)), (2, .ref (ad 52)), (1, .ref (ad 0)), (0, .ref (g.2.2 40))]) [2, 3, 4, 5, 6, 7] rfl ?_
      refine y_end (fun wC hC => ?_)
      exact LC_next (IVm.nil hC hI) ((hR.n (huM.trans huC)).up (by omega)) hJ hL ih (by omega) (by omega)
theorem d_Lw_law_1522 : decode code 1522 = .ok (.aload_n 1, 1) := zo_43 (zd_b zq_code_47 18 rfl rfl rfl)
theorem d_Lw_law_1523 : decode code 1523 = .ok (.aload_n 0, 1) := zo_42 (zd_b zq_code_47 19 rfl rfl rfl)
theorem d_Lw_law_1524 : decode code 1524 = .ok (.iload 5, 2) := zo_21 (d := 5) (zd_b zq_code_47 20 rfl rfl rfl) (zd_b zq_code_47 21 rfl rfl rfl)
theorem d_Lw_law_1526 : decode code 1526 = .ok (.iconst 1, 1) := zo_4 (zd_b zq_code_47 22 rfl rfl rfl)
theorem d_Lw_law_1527 : decode code 1527 = .ok (.iadd, 1) := zo_96 (zd_b zq_code_47 23 rfl rfl rfl)
theorem d_Lw_law_1528 : decode code 1528 = .ok (.iaload, 1) := zo_46 (zd_b zq_code_47 24 rfl rfl rfl)
theorem d_Lw_law_1529 : decode code 1529 = .ok (.aload_n 3, 1) := zo_45 (zd_b zq_code_47 25 rfl rfl rfl)
theorem d_Lw_law_1530 : decode code 1530 = .ok (.invokestatic 304, 3) := zo_184 (d := 1) (e := 48) (zd_b zq_code_47 26 rfl rfl rfl) (zd_b zq_code_47 27 rfl rfl rfl) (zd_b zq_code_47 28 rfl rfl rfl)
theorem ok_Lw_law_Lw_faults : z_okX M_Lw_law M_Lw_faults 3 := ⟨z_mj6 (i := 198) rfl (by decide +kernel), by decide, ⟨by decide +kernel, by decide +kernel, by decide +kernel⟩, ⟨by decide, by decide⟩, z_mj1 (i := 0) rfl (by decide +kernel), rfl⟩
theorem ln_Lw_304 : Cond.methodLink "IronpourLaw" 304 M_Lw_faults.1 ∈ z_gw := z_mj6 (i := 196) rfl (by decide +kernel)
theorem w_st_Lw_faults : Cond.static M_Lw_faults.1 ∈ z_gw := z_mj6 (i := 197) rfl (by decide +kernel)
theorem d_Lw_law_1533 : decode code 1533 = .ok (.istore 6, 2) := zo_54 (d := 6) (zd_b zq_code_47 29 rfl rfl rfl) (zd_b zq_code_47 30 rfl rfl rfl)
theorem d_Lw_law_1535 : decode code 1535 = .ok (.aload_n 2, 1) := zo_44 (zd_b zq_code_47 31 rfl rfl rfl)
theorem d_Lw_law_1536 : decode code 1536 = .ok (.aload_n 0, 1) := zo_42 (zd_b zq_code_48 0 rfl rfl rfl)
theorem d_Lw_law_1537 : decode code 1537 = .ok (.iload 5, 2) := zo_21 (d := 5) (zd_b zq_code_48 1 rfl rfl rfl) (zd_b zq_code_48 2 rfl rfl rfl)
theorem d_Lw_law_1539 : decode code 1539 = .ok (.iconst 1, 1) := zo_4 (zd_b zq_code_48 3 rfl rfl rfl)
theorem d_Lw_law_1540 : decode code 1540 = .ok (.iadd, 1) := zo_96 (zd_b zq_code_48 4 rfl rfl rfl)
theorem d_Lw_law_1541 : decode code 1541 = .ok (.iaload, 1) := zo_46 (zd_b zq_code_48 5 rfl rfl rfl)
theorem d_Lw_law_1542 : decode code 1542 = .ok (.invokevirtual 306, 3) := zo_182 (d := 1) (e := 50) (zd_b zq_code_48 6 rfl rfl rfl) (zd_b zq_code_48 7 rfl rfl rfl) (zd_b zq_code_48 8 rfl rfl rfl)
theorem ok_Lw_law_Mm_faults : z_ok M_Lw_law M_Mm_faults 1 := ⟨z_mj9 (i := 21) rfl (by decide +kernel), rfl, ⟨by decide +kernel, by decide +kernel, by decide +kernel⟩, ⟨by decide, by decide⟩, z_mj1 (i := 14) rfl (by decide +kernel), rfl⟩
theorem ln_Lw_306 : Cond.methodLink "IronpourLaw" 306 M_Mm_faults.1 ∈ z_gw := z_mj9 (i := 18) rfl (by decide +kernel)
theorem w_im_Mm_faults : Cond.instanceMethod M_Mm_faults.1 ∈ z_gw := z_mj9 (i := 19) rfl (by decide +kernel)
theorem w_se_Mm_faults : Cond.selects M_Mm_faults.1.cls M_Mm_faults.1 M_Mm_faults.1 ∈ z_gw := z_mj9 (i := 20) rfl (by decide +kernel)
theorem d_Lw_law_1545 : decode code 1545 = .ok (.istore 7, 2) := zo_54 (d := 7) (zd_b zq_code_48 9 rfl rfl rfl) (zd_b zq_code_48 10 rfl rfl rfl)
theorem d_Lw_law_1547 : decode code 1547 = .ok (.goto 261, 3) := zo_167 (d := 1) (e := 5) (zd_b zq_code_48 11 rfl rfl rfl) (zd_b zq_code_48 12 rfl rfl rfl) (zd_b zq_code_48 13 rfl rfl rfl) (by decide +kernel)
set_option maxHeartbeats 4000000 in
set_option maxRecDepth 100000 in
theorem LC_faults {g : zG} {ad : Nat → Nat} {t : zTT} {u : zNN} {w : zW} {j : Nat} (hI : IVm g ad t u w) (hR : REY t u.1 (48 * j)) {r : Nat} (hJ : 7 * j + 7 ≤ g.2.2 41) (hL : g.2.2 41 ≤ 3584) (ih : LWI g ad j r) : DW g M_Lw_law lwQ w 1522 [(5, .int (nI (7 * j))), (4, .ref (ad 70)), (3, .ref (ad 69)), (2, .ref (ad 52)), (1, .ref (ad 0)), (0, .ref (g.2.2 40))] [] (100 * (r + 1)) (1000 * (r + 1)) := by
  refine y_base (cs := []) (z_I.nil w) ?_
  refine y_aload_n d_Lw_law_1522 rfl 4 rfl ?_
  refine y_aload_n d_Lw_law_1523 rfl 5 rfl ?_
  refine y_iload d_Lw_law_1524 0 rfl ?_
  refine y_iconst d_Lw_law_1526 (v := 1) (by decide) ?_
  refine y_iadd d_Lw_law_1527 (v := nI ((7 * j) + 1)) (nI_add _ _) ?_
  refine y_sld (v := zs g (7 * j + 1)) d_Lw_law_1528 (vp_in_nI (by omega) (by omega)) (by rw [nI_clamp (by omega)]; rfl) ?_
  refine y_aload_n d_Lw_law_1529 rfl 2 rfl ?_
  refine yw_callSX (As := [.ref (ad 0), .int (zs g (7 * j + 1)), .ref (ad 69)]) (rest := []) ln_Lw_304 w_st_Lw_faults ok_Lw_law_Lw_faults d_Lw_law_1530 (fun wA hA => W_faults (IVm.nil hA hI) _) rfl rfl (Nat.le_of_ble_eq_true rfl) (by omega) (by omega) (fun wA1530 hA1530 E wB1530 hx => ?_) (fun wA1530 hA1530 v wB1530 hx => ?_)
  · obtain ⟨⟨v9, e1⟩, -⟩ := hx
    cases e1
  · obtain ⟨⟨v9, e1⟩, uC, huC, hI2⟩ := hx
    cases e1
    refine yw_st (st2 := [.int v9]) rfl ?_
    have hI := hI2
    refine y_base (cs := []) (z_I.nil _) ?_
    refine y_istore (lv' := [(6, .int v9), (5, .int (nI (7 * j))), (4, .ref (ad 70)), (3, .ref (ad 69)), (2, .ref (ad 52)), (1, .ref (ad 0)), (0, .ref (g.2.2 40))]) d_Lw_law_1533 (by decide) rfl ?_
    refine y_aload_n d_Lw_law_1535 rfl 4 rfl ?_
    refine y_aload_n d_Lw_law_1536 rfl 6 rfl ?_
    refine y_iload d_Lw_law_1537 1 rfl ?_
    refine y_iconst d_Lw_law_1539 (v := 1) (by decide) ?_
    refine y_iadd d_Lw_law_1540 (v := nI ((7 * j) + 1)) (nI_add _ _) ?_
    refine y_sld (v := zs g (7 * j + 1)) d_Lw_law_1541 (vp_in_nI (by omega) (by omega)) (by rw [nI_clamp (by omega)]; rfl) ?_
    refine yw_callVL (As := [.int (zs g (7 * j + 1))]) (rest := []) (ci := 12) rfl (fun wA hA => (IVm.nil hA hI).rm) ln_Lw_306 w_im_Mm_faults w_se_Mm_faults ok_Lw_law_Mm_faults d_Lw_law_1542 (fun wA hA => K_Mm_faults (IVm.nil hA hI) _) rfl rfl (Nat.le_of_ble_eq_true rfl) (by omega) (by omega) (fun wA1542 hA1542 E wB1542 hx => ?_) (fun wA1542 hA1542 v wB1542 hx => ?_)
    · obtain ⟨⟨v8, e1⟩, -⟩ := hx
      cases e1
    · obtain ⟨⟨v8, e1⟩, uM, huM, hI2⟩ := hx
      cases e1
      refine yw_st (st2 := [.int v8]) rfl ?_
      have hI := hI2
      refine y_base (cs := []) (z_I.nil _) ?_
      refine y_istore (lv' := [(7, .int v8), (6, .int v9), (5, .int (nI (7 * j))), (4, .ref (ad 70)), (3, .ref (ad 69)), (2, .ref (ad 52)), (1, .ref (ad 0)), (0, .ref (g.2.2 40))]) d_Lw_law_1545 (by decide) rfl ?_
      refine y_goto (tgt := 1808) d_Lw_law_1547 (by decide) ?_
      refine y_lv (lv' := [(5, .int (nI (7 * j))), (4, .ref (ad 70)), (3, .ref (ad 69)), (2, .ref (ad 52)), (1, .ref (ad 0)), (0, .ref (g.2.2 40))]) [2, 3, 4, 5, 6, 7] rfl ?_
      refine y_end (fun wC hC => ?_)
      exact LC_next (IVm.nil hC hI) ((hR.n (huM.trans huC)).up (by omega)) hJ hL ih (by omega) (by omega)
theorem d_Lw_law_1550 : decode code 1550 = .ok (.aload_n 1, 1) := zo_43 (zd_b zq_code_48 14 rfl rfl rfl)
theorem d_Lw_law_1551 : decode code 1551 = .ok (.aload_n 0, 1) := zo_42 (zd_b zq_code_48 15 rfl rfl rfl)
theorem d_Lw_law_1552 : decode code 1552 = .ok (.iload 5, 2) := zo_21 (d := 5) (zd_b zq_code_48 16 rfl rfl rfl) (zd_b zq_code_48 17 rfl rfl rfl)
theorem d_Lw_law_1554 : decode code 1554 = .ok (.iconst 1, 1) := zo_4 (zd_b zq_code_48 18 rfl rfl rfl)
theorem d_Lw_law_1555 : decode code 1555 = .ok (.iadd, 1) := zo_96 (zd_b zq_code_48 19 rfl rfl rfl)
theorem d_Lw_law_1556 : decode code 1556 = .ok (.iaload, 1) := zo_46 (zd_b zq_code_48 20 rfl rfl rfl)
theorem d_Lw_law_1557 : decode code 1557 = .ok (.aload_n 3, 1) := zo_45 (zd_b zq_code_48 21 rfl rfl rfl)
theorem d_Lw_law_1558 : decode code 1558 = .ok (.invokestatic 307, 3) := zo_184 (d := 1) (e := 51) (zd_b zq_code_48 22 rfl rfl rfl) (zd_b zq_code_48 23 rfl rfl rfl) (zd_b zq_code_48 24 rfl rfl rfl)
theorem ok_Lw_law_Lw_shrunkIn : z_okX M_Lw_law M_Lw_shrunkIn 3 := ⟨z_mj6 (i := 205) rfl (by decide +kernel), by decide, ⟨by decide +kernel, by decide +kernel, by decide +kernel⟩, ⟨by decide, by decide⟩, z_mj1 (i := 0) rfl (by decide +kernel), rfl⟩
theorem ln_Lw_307 : Cond.methodLink "IronpourLaw" 307 M_Lw_shrunkIn.1 ∈ z_gw := z_mj6 (i := 203) rfl (by decide +kernel)
theorem w_st_Lw_shrunkIn : Cond.static M_Lw_shrunkIn.1 ∈ z_gw := z_mj6 (i := 204) rfl (by decide +kernel)
theorem d_Lw_law_1561 : decode code 1561 = .ok (.istore 6, 2) := zo_54 (d := 6) (zd_b zq_code_48 25 rfl rfl rfl) (zd_b zq_code_48 26 rfl rfl rfl)
theorem d_Lw_law_1563 : decode code 1563 = .ok (.aload_n 2, 1) := zo_44 (zd_b zq_code_48 27 rfl rfl rfl)
theorem d_Lw_law_1564 : decode code 1564 = .ok (.aload_n 0, 1) := zo_42 (zd_b zq_code_48 28 rfl rfl rfl)
theorem d_Lw_law_1565 : decode code 1565 = .ok (.iload 5, 2) := zo_21 (d := 5) (zd_b zq_code_48 29 rfl rfl rfl) (zd_b zq_code_48 30 rfl rfl rfl)
theorem d_Lw_law_1567 : decode code 1567 = .ok (.iconst 1, 1) := zo_4 (zd_b zq_code_48 31 rfl rfl rfl)
theorem d_Lw_law_1568 : decode code 1568 = .ok (.iadd, 1) := zo_96 (zd_b zq_code_49 0 rfl rfl rfl)
theorem d_Lw_law_1569 : decode code 1569 = .ok (.iaload, 1) := zo_46 (zd_b zq_code_49 1 rfl rfl rfl)
theorem d_Lw_law_1570 : decode code 1570 = .ok (.invokevirtual 309, 3) := zo_182 (d := 1) (e := 53) (zd_b zq_code_49 2 rfl rfl rfl) (zd_b zq_code_49 3 rfl rfl rfl) (zd_b zq_code_49 4 rfl rfl rfl)
theorem ok_Lw_law_Mm_shrunkIn : z_ok M_Lw_law M_Mm_shrunkIn 1 := ⟨z_mj9 (i := 25) rfl (by decide +kernel), rfl, ⟨by decide +kernel, by decide +kernel, by decide +kernel⟩, ⟨by decide, by decide⟩, z_mj1 (i := 14) rfl (by decide +kernel), rfl⟩
theorem ln_Lw_309 : Cond.methodLink "IronpourLaw" 309 M_Mm_shrunkIn.1 ∈ z_gw := z_mj9 (i := 22) rfl (by decide +kernel)
theorem w_im_Mm_shrunkIn : Cond.instanceMethod M_Mm_shrunkIn.1 ∈ z_gw := z_mj9 (i := 23) rfl (by decide +kernel)
theorem w_se_Mm_shrunkIn : Cond.selects M_Mm_shrunkIn.1.cls M_Mm_shrunkIn.1 M_Mm_shrunkIn.1 ∈ z_gw := z_mj9 (i := 24) rfl (by decide +kernel)
theorem d_Lw_law_1573 : decode code 1573 = .ok (.istore 7, 2) := zo_54 (d := 7) (zd_b zq_code_49 5 rfl rfl rfl) (zd_b zq_code_49 6 rfl rfl rfl)
theorem d_Lw_law_1575 : decode code 1575 = .ok (.goto 233, 3) := zo_167 (d := 0) (e := 233) (zd_b zq_code_49 7 rfl rfl rfl) (zd_b zq_code_49 8 rfl rfl rfl) (zd_b zq_code_49 9 rfl rfl rfl) (by decide +kernel)
set_option maxHeartbeats 4000000 in
set_option maxRecDepth 100000 in
theorem LC_shrunkIn {g : zG} {ad : Nat → Nat} {t : zTT} {u : zNN} {w : zW} {j : Nat} (hI : IVm g ad t u w) (hR : REY t u.1 (48 * j)) {r : Nat} (hJ : 7 * j + 7 ≤ g.2.2 41) (hL : g.2.2 41 ≤ 3584) (ih : LWI g ad j r) : DW g M_Lw_law lwQ w 1550 [(5, .int (nI (7 * j))), (4, .ref (ad 70)), (3, .ref (ad 69)), (2, .ref (ad 52)), (1, .ref (ad 0)), (0, .ref (g.2.2 40))] [] (100 * (r + 1)) (1000 * (r + 1)) := by
  refine y_base (cs := []) (z_I.nil w) ?_
  refine y_aload_n d_Lw_law_1550 rfl 4 rfl ?_
  refine y_aload_n d_Lw_law_1551 rfl 5 rfl ?_
  refine y_iload d_Lw_law_1552 0 rfl ?_
  refine y_iconst d_Lw_law_1554 (v := 1) (by decide) ?_
  refine y_iadd d_Lw_law_1555 (v := nI ((7 * j) + 1)) (nI_add _ _) ?_
  refine y_sld (v := zs g (7 * j + 1)) d_Lw_law_1556 (vp_in_nI (by omega) (by omega)) (by rw [nI_clamp (by omega)]; rfl) ?_
  refine y_aload_n d_Lw_law_1557 rfl 2 rfl ?_
  refine yw_callSX (As := [.ref (ad 0), .int (zs g (7 * j + 1)), .ref (ad 69)]) (rest := []) ln_Lw_307 w_st_Lw_shrunkIn ok_Lw_law_Lw_shrunkIn d_Lw_law_1558 (fun wA hA => W_shrunkIn (IVm.nil hA hI) _) rfl rfl (Nat.le_of_ble_eq_true rfl) (by omega) (by omega) (fun wA1558 hA1558 E wB1558 hx => ?_) (fun wA1558 hA1558 v wB1558 hx => ?_)
  · obtain ⟨⟨v9, e1⟩, -⟩ := hx
    cases e1
  · obtain ⟨⟨v9, e1⟩, uC, huC, hI2⟩ := hx
    cases e1
    refine yw_st (st2 := [.int v9]) rfl ?_
    have hI := hI2
    refine y_base (cs := []) (z_I.nil _) ?_
    refine y_istore (lv' := [(6, .int v9), (5, .int (nI (7 * j))), (4, .ref (ad 70)), (3, .ref (ad 69)), (2, .ref (ad 52)), (1, .ref (ad 0)), (0, .ref (g.2.2 40))]) d_Lw_law_1561 (by decide) rfl ?_
    refine y_aload_n d_Lw_law_1563 rfl 4 rfl ?_
    refine y_aload_n d_Lw_law_1564 rfl 6 rfl ?_
    refine y_iload d_Lw_law_1565 1 rfl ?_
    refine y_iconst d_Lw_law_1567 (v := 1) (by decide) ?_
    refine y_iadd d_Lw_law_1568 (v := nI ((7 * j) + 1)) (nI_add _ _) ?_
    refine y_sld (v := zs g (7 * j + 1)) d_Lw_law_1569 (vp_in_nI (by omega) (by omega)) (by rw [nI_clamp (by omega)]; rfl) ?_
    refine yw_callVL (As := [.int (zs g (7 * j + 1))]) (rest := []) (ci := 12) rfl (fun wA hA => (IVm.nil hA hI).rm) ln_Lw_309 w_im_Mm_shrunkIn w_se_Mm_shrunkIn ok_Lw_law_Mm_shrunkIn d_Lw_law_1570 (fun wA hA => K_Mm_shrunkIn (IVm.nil hA hI) _) rfl rfl (Nat.le_of_ble_eq_true rfl) (by omega) (by omega) (fun wA1570 hA1570 E wB1570 hx => ?_) (fun wA1570 hA1570 v wB1570 hx => ?_)
    · obtain ⟨⟨v8, e1⟩, -⟩ := hx
      cases e1
    · obtain ⟨⟨v8, e1⟩, uM, huM, hI2⟩ := hx
      cases e1
      refine yw_st (st2 := [.int v8]) rfl ?_
      have hI := hI2
      refine y_base (cs := []) (z_I.nil _) ?_
      refine y_istore (lv' := [(7, .int v8), (6, .int v9), (5, .int (nI (7 * j))), (4, .ref (ad 70)), (3, .ref (ad 69)), (2, .ref (ad 52)), (1, .ref (ad 0)), (0, .ref (g.2.2 40))]) d_Lw_law_1573 (by decide) rfl ?_
      refine y_goto (tgt := 1808) d_Lw_law_1575 (by decide) ?_
      refine y_lv (lv' := [(5, .int (nI (7 * j))), (4, .ref (ad 70)), (3, .ref (ad 69)), (2, .ref (ad 52)), (1, .ref (ad 0)), (0, .ref (g.2.2 40))]) [2, 3, 4, 5, 6, 7] rfl ?_
      refine y_end (fun wC hC => ?_)
      exact LC_next (IVm.nil hC hI) ((hR.n (huM.trans huC)).up (by omega)) hJ hL ih (by omega) (by omega)
theorem d_Lw_law_1578 : decode code 1578 = .ok (.aload_n 1, 1) := zo_43 (zd_b zq_code_49 10 rfl rfl rfl)
theorem d_Lw_law_1579 : decode code 1579 = .ok (.aload_n 0, 1) := zo_42 (zd_b zq_code_49 11 rfl rfl rfl)
theorem d_Lw_law_1580 : decode code 1580 = .ok (.iload 5, 2) := zo_21 (d := 5) (zd_b zq_code_49 12 rfl rfl rfl) (zd_b zq_code_49 13 rfl rfl rfl)
theorem d_Lw_law_1582 : decode code 1582 = .ok (.iconst 1, 1) := zo_4 (zd_b zq_code_49 14 rfl rfl rfl)
theorem d_Lw_law_1583 : decode code 1583 = .ok (.iadd, 1) := zo_96 (zd_b zq_code_49 15 rfl rfl rfl)
theorem d_Lw_law_1584 : decode code 1584 = .ok (.iaload, 1) := zo_46 (zd_b zq_code_49 16 rfl rfl rfl)
theorem d_Lw_law_1585 : decode code 1585 = .ok (.aload_n 0, 1) := zo_42 (zd_b zq_code_49 17 rfl rfl rfl)
theorem d_Lw_law_1586 : decode code 1586 = .ok (.iload 5, 2) := zo_21 (d := 5) (zd_b zq_code_49 18 rfl rfl rfl) (zd_b zq_code_49 19 rfl rfl rfl)
theorem d_Lw_law_1588 : decode code 1588 = .ok (.iconst 2, 1) := zo_5 (zd_b zq_code_49 20 rfl rfl rfl)
theorem d_Lw_law_1589 : decode code 1589 = .ok (.iadd, 1) := zo_96 (zd_b zq_code_49 21 rfl rfl rfl)
theorem d_Lw_law_1590 : decode code 1590 = .ok (.iaload, 1) := zo_46 (zd_b zq_code_49 22 rfl rfl rfl)
theorem d_Lw_law_1591 : decode code 1591 = .ok (.i2c, 1) := zo_146 (zd_b zq_code_49 23 rfl rfl rfl)
theorem d_Lw_law_1592 : decode code 1592 = .ok (.aload_n 3, 1) := zo_45 (zd_b zq_code_49 24 rfl rfl rfl)
theorem d_Lw_law_1593 : decode code 1593 = .ok (.invokestatic 310, 3) := zo_184 (d := 1) (e := 54) (zd_b zq_code_49 25 rfl rfl rfl) (zd_b zq_code_49 26 rfl rfl rfl) (zd_b zq_code_49 27 rfl rfl rfl)
theorem ok_Lw_law_Lw_has : z_okX M_Lw_law M_Lw_has 4 := ⟨z_mj6 (i := 212) rfl (by decide +kernel), by decide, ⟨by decide +kernel, by decide +kernel, by decide +kernel⟩, ⟨by decide, by decide⟩, z_mj1 (i := 0) rfl (by decide +kernel), rfl⟩
theorem ln_Lw_310 : Cond.methodLink "IronpourLaw" 310 M_Lw_has.1 ∈ z_gw := z_mj6 (i := 210) rfl (by decide +kernel)
theorem w_st_Lw_has : Cond.static M_Lw_has.1 ∈ z_gw := z_mj6 (i := 211) rfl (by decide +kernel)
theorem d_Lw_law_1596 : decode code 1596 = .ok (.istore 6, 2) := zo_54 (d := 6) (zd_b zq_code_49 28 rfl rfl rfl) (zd_b zq_code_49 29 rfl rfl rfl)
theorem d_Lw_law_1598 : decode code 1598 = .ok (.aload_n 2, 1) := zo_44 (zd_b zq_code_49 30 rfl rfl rfl)
theorem d_Lw_law_1599 : decode code 1599 = .ok (.aload_n 0, 1) := zo_42 (zd_b zq_code_49 31 rfl rfl rfl)
theorem d_Lw_law_1600 : decode code 1600 = .ok (.iload 5, 2) := zo_21 (d := 5) (zd_b zq_code_50 0 rfl rfl rfl) (zd_b zq_code_50 1 rfl rfl rfl)
theorem d_Lw_law_1602 : decode code 1602 = .ok (.iconst 1, 1) := zo_4 (zd_b zq_code_50 2 rfl rfl rfl)
theorem d_Lw_law_1603 : decode code 1603 = .ok (.iadd, 1) := zo_96 (zd_b zq_code_50 3 rfl rfl rfl)
theorem d_Lw_law_1604 : decode code 1604 = .ok (.iaload, 1) := zo_46 (zd_b zq_code_50 4 rfl rfl rfl)
theorem d_Lw_law_1605 : decode code 1605 = .ok (.aload_n 0, 1) := zo_42 (zd_b zq_code_50 5 rfl rfl rfl)
theorem d_Lw_law_1606 : decode code 1606 = .ok (.iload 5, 2) := zo_21 (d := 5) (zd_b zq_code_50 6 rfl rfl rfl) (zd_b zq_code_50 7 rfl rfl rfl)
theorem d_Lw_law_1608 : decode code 1608 = .ok (.iconst 2, 1) := zo_5 (zd_b zq_code_50 8 rfl rfl rfl)
theorem d_Lw_law_1609 : decode code 1609 = .ok (.iadd, 1) := zo_96 (zd_b zq_code_50 9 rfl rfl rfl)
theorem d_Lw_law_1610 : decode code 1610 = .ok (.iaload, 1) := zo_46 (zd_b zq_code_50 10 rfl rfl rfl)
theorem d_Lw_law_1611 : decode code 1611 = .ok (.i2c, 1) := zo_146 (zd_b zq_code_50 11 rfl rfl rfl)
theorem d_Lw_law_1612 : decode code 1612 = .ok (.invokevirtual 313, 3) := zo_182 (d := 1) (e := 57) (zd_b zq_code_50 12 rfl rfl rfl) (zd_b zq_code_50 13 rfl rfl rfl) (zd_b zq_code_50 14 rfl rfl rfl)
theorem ok_Lw_law_Mm_has_1 : z_ok M_Lw_law M_Mm_has_1 2 := ⟨z_mj9 (i := 29) rfl (by decide +kernel), rfl, ⟨by decide +kernel, by decide +kernel, by decide +kernel⟩, ⟨by decide, by decide⟩, z_mj1 (i := 14) rfl (by decide +kernel), rfl⟩
theorem ln_Lw_313 : Cond.methodLink "IronpourLaw" 313 M_Mm_has_1.1 ∈ z_gw := z_mj9 (i := 26) rfl (by decide +kernel)
theorem w_im_Mm_has_1 : Cond.instanceMethod M_Mm_has_1.1 ∈ z_gw := z_mj9 (i := 27) rfl (by decide +kernel)
theorem w_se_Mm_has_1 : Cond.selects M_Mm_has_1.1.cls M_Mm_has_1.1 M_Mm_has_1.1 ∈ z_gw := z_mj9 (i := 28) rfl (by decide +kernel)
theorem d_Lw_law_1615 : decode code 1615 = .ok (.istore 7, 2) := zo_54 (d := 7) (zd_b zq_code_50 15 rfl rfl rfl) (zd_b zq_code_50 16 rfl rfl rfl)
theorem d_Lw_law_1617 : decode code 1617 = .ok (.goto 191, 3) := zo_167 (d := 0) (e := 191) (zd_b zq_code_50 17 rfl rfl rfl) (zd_b zq_code_50 18 rfl rfl rfl) (zd_b zq_code_50 19 rfl rfl rfl) (by decide +kernel)
set_option maxHeartbeats 4000000 in
set_option maxRecDepth 100000 in
theorem LC_has {g : zG} {ad : Nat → Nat} {t : zTT} {u : zNN} {w : zW} {j : Nat} (hI : IVm g ad t u w) (hR : REY t u.1 (48 * j)) {r : Nat} (hJ : 7 * j + 7 ≤ g.2.2 41) (hL : g.2.2 41 ≤ 3584) (ih : LWI g ad j r) : DW g M_Lw_law lwQ w 1578 [(5, .int (nI (7 * j))), (4, .ref (ad 70)), (3, .ref (ad 69)), (2, .ref (ad 52)), (1, .ref (ad 0)), (0, .ref (g.2.2 40))] [] (100 * (r + 1)) (1000 * (r + 1)) := by
  refine y_base (cs := []) (z_I.nil w) ?_
  refine y_aload_n d_Lw_law_1578 rfl 4 rfl ?_
  refine y_aload_n d_Lw_law_1579 rfl 5 rfl ?_
  refine y_iload d_Lw_law_1580 0 rfl ?_
  refine y_iconst d_Lw_law_1582 (v := 1) (by decide) ?_
  refine y_iadd d_Lw_law_1583 (v := nI ((7 * j) + 1)) (nI_add _ _) ?_
  refine y_sld (v := zs g (7 * j + 1)) d_Lw_law_1584 (vp_in_nI (by omega) (by omega)) (by rw [nI_clamp (by omega)]; rfl) ?_
  refine y_aload_n d_Lw_law_1585 rfl 5 rfl ?_
  refine y_iload d_Lw_law_1586 0 rfl ?_
  refine y_iconst d_Lw_law_1588 (v := 2) (by decide) ?_
  refine y_iadd d_Lw_law_1589 (v := nI ((7 * j) + 2)) (nI_add _ _) ?_
  refine y_sld (v := zs g (7 * j + 2)) d_Lw_law_1590 (vp_in_nI (by omega) (by omega)) (by rw [nI_clamp (by omega)]; rfl) ?_
  refine y_i2c d_Lw_law_1591 (v := zc g (7 * j + 2)) rfl ?_
  refine y_aload_n d_Lw_law_1592 rfl 2 rfl ?_
  refine yw_callSX (As := [.ref (ad 0), .int (zs g (7 * j + 1)), .int (zc g (7 * j + 2)), .ref (ad 69)]) (rest := []) ln_Lw_310 w_st_Lw_has ok_Lw_law_Lw_has d_Lw_law_1593 (fun wA hA => W_has (IVm.nil hA hI) _ _) rfl rfl (Nat.le_of_ble_eq_true rfl) (by omega) (by omega) (fun wA1593 hA1593 E wB1593 hx => ?_) (fun wA1593 hA1593 v wB1593 hx => ?_)
  · obtain ⟨⟨v9, e1⟩, -⟩ := hx
    cases e1
  · obtain ⟨⟨v9, e1⟩, uC, huC, hI2⟩ := hx
    cases e1
    refine yw_st (st2 := [.int v9]) rfl ?_
    have hI := hI2
    refine y_base (cs := []) (z_I.nil _) ?_
    refine y_istore (lv' := [(6, .int v9), (5, .int (nI (7 * j))), (4, .ref (ad 70)), (3, .ref (ad 69)), (2, .ref (ad 52)), (1, .ref (ad 0)), (0, .ref (g.2.2 40))]) d_Lw_law_1596 (by decide) rfl ?_
    refine y_aload_n d_Lw_law_1598 rfl 4 rfl ?_
    refine y_aload_n d_Lw_law_1599 rfl 6 rfl ?_
    refine y_iload d_Lw_law_1600 1 rfl ?_
    refine y_iconst d_Lw_law_1602 (v := 1) (by decide) ?_
    refine y_iadd d_Lw_law_1603 (v := nI ((7 * j) + 1)) (nI_add _ _) ?_
    refine y_sld (v := zs g (7 * j + 1)) d_Lw_law_1604 (vp_in_nI (by omega) (by omega)) (by rw [nI_clamp (by omega)]; rfl) ?_
    refine y_aload_n d_Lw_law_1605 rfl 6 rfl ?_
    refine y_iload d_Lw_law_1606 1 rfl ?_
    refine y_iconst d_Lw_law_1608 (v := 2) (by decide) ?_
    refine y_iadd d_Lw_law_1609 (v := nI ((7 * j) + 2)) (nI_add _ _) ?_
    refine y_sld (v := zs g (7 * j + 2)) d_Lw_law_1610 (vp_in_nI (by omega) (by omega)) (by rw [nI_clamp (by omega)]; rfl) ?_
    refine y_i2c d_Lw_law_1611 (v := zc g (7 * j + 2)) rfl ?_
    refine yw_callVL (As := [.int (zs g (7 * j + 1)), .int (zc g (7 * j + 2))]) (rest := []) (ci := 12) rfl (fun wA hA => (IVm.nil hA hI).rm) ln_Lw_313 w_im_Mm_has_1 w_se_Mm_has_1 ok_Lw_law_Mm_has_1 d_Lw_law_1612 (fun wA hA => K_Mm_has (IVm.nil hA hI) _ _) rfl rfl (Nat.le_of_ble_eq_true rfl) (by omega) (by omega) (fun wA1612 hA1612 E wB1612 hx => ?_) (fun wA1612 hA1612 v wB1612 hx => ?_)
    · obtain ⟨⟨v8, e1⟩, -⟩ := hx
      cases e1
    · obtain ⟨⟨v8, e1⟩, uM, huM, hI2⟩ := hx
      cases e1
      refine yw_st (st2 := [.int v8]) rfl ?_
      have hI := hI2
      refine y_base (cs := []) (z_I.nil _) ?_
      refine y_istore (lv' := [(7, .int v8), (6, .int v9), (5, .int (nI (7 * j))), (4, .ref (ad 70)), (3, .ref (ad 69)), (2, .ref (ad 52)), (1, .ref (ad 0)), (0, .ref (g.2.2 40))]) d_Lw_law_1615 (by decide) rfl ?_
      refine y_goto (tgt := 1808) d_Lw_law_1617 (by decide) ?_
      refine y_lv (lv' := [(5, .int (nI (7 * j))), (4, .ref (ad 70)), (3, .ref (ad 69)), (2, .ref (ad 52)), (1, .ref (ad 0)), (0, .ref (g.2.2 40))]) [2, 3, 4, 5, 6, 7] rfl ?_
      refine y_end (fun wC hC => ?_)
      exact LC_next (IVm.nil hC hI) ((hR.n (huM.trans huC)).up (by omega)) hJ hL ih (by omega) (by omega)
end
section
theorem d_Lw_law_1620 : decode code 1620 = .ok (.aload_n 1, 1) := zo_43 (zd_b zq_code_50 20 rfl rfl rfl)
theorem d_Lw_law_1621 : decode code 1621 = .ok (.aload_n 0, 1) := zo_42 (zd_b zq_code_50 21 rfl rfl rfl)
theorem d_Lw_law_1622 : decode code 1622 = .ok (.iload 5, 2) := zo_21 (d := 5) (zd_b zq_code_50 22 rfl rfl rfl) (zd_b zq_code_50 23 rfl rfl rfl)
theorem d_Lw_law_1624 : decode code 1624 = .ok (.iconst 1, 1) := zo_4 (zd_b zq_code_50 24 rfl rfl rfl)
theorem d_Lw_law_1625 : decode code 1625 = .ok (.iadd, 1) := zo_96 (zd_b zq_code_50 25 rfl rfl rfl)
theorem d_Lw_law_1626 : decode code 1626 = .ok (.iaload, 1) := zo_46 (zd_b zq_code_50 26 rfl rfl rfl)
theorem d_Lw_law_1627 : decode code 1627 = .ok (.aload_n 3, 1) := zo_45 (zd_b zq_code_50 27 rfl rfl rfl)
theorem d_Lw_law_1628 : decode code 1628 = .ok (.invokestatic 314, 3) := zo_184 (d := 1) (e := 58) (zd_b zq_code_50 28 rfl rfl rfl) (zd_b zq_code_50 29 rfl rfl rfl) (zd_b zq_code_50 30 rfl rfl rfl)
theorem ok_Lw_law_Lw_bar : z_okX M_Lw_law M_Lw_bar 3 := ⟨z_mj6 (i := 219) rfl (by decide +kernel), by decide, ⟨by decide +kernel, by decide +kernel, by decide +kernel⟩, ⟨by decide, by decide⟩, z_mj1 (i := 0) rfl (by decide +kernel), rfl⟩
theorem ln_Lw_314 : Cond.methodLink "IronpourLaw" 314 M_Lw_bar.1 ∈ z_gw := z_mj6 (i := 217) rfl (by decide +kernel)
theorem w_st_Lw_bar : Cond.static M_Lw_bar.1 ∈ z_gw := z_mj6 (i := 218) rfl (by decide +kernel)
theorem d_Lw_law_1631 : decode code 1631 = .ok (.istore 6, 2) := zo_54 (d := 6) (zd_b zq_code_50 31 rfl rfl rfl) (zd_b zq_code_51 0 rfl rfl rfl)
theorem d_Lw_law_1633 : decode code 1633 = .ok (.aload_n 2, 1) := zo_44 (zd_b zq_code_51 1 rfl rfl rfl)
theorem d_Lw_law_1634 : decode code 1634 = .ok (.aload_n 0, 1) := zo_42 (zd_b zq_code_51 2 rfl rfl rfl)
theorem d_Lw_law_1635 : decode code 1635 = .ok (.iload 5, 2) := zo_21 (d := 5) (zd_b zq_code_51 3 rfl rfl rfl) (zd_b zq_code_51 4 rfl rfl rfl)
theorem d_Lw_law_1637 : decode code 1637 = .ok (.iconst 1, 1) := zo_4 (zd_b zq_code_51 5 rfl rfl rfl)
theorem d_Lw_law_1638 : decode code 1638 = .ok (.iadd, 1) := zo_96 (zd_b zq_code_51 6 rfl rfl rfl)
theorem d_Lw_law_1639 : decode code 1639 = .ok (.iaload, 1) := zo_46 (zd_b zq_code_51 7 rfl rfl rfl)
theorem d_Lw_law_1640 : decode code 1640 = .ok (.invokevirtual 316, 3) := zo_182 (d := 1) (e := 60) (zd_b zq_code_51 8 rfl rfl rfl) (zd_b zq_code_51 9 rfl rfl rfl) (zd_b zq_code_51 10 rfl rfl rfl)
theorem ok_Lw_law_Mm_bar : z_ok M_Lw_law M_Mm_bar 1 := ⟨z_mj9 (i := 38) rfl (by decide +kernel), rfl, ⟨by decide +kernel, by decide +kernel, by decide +kernel⟩, ⟨by decide, by decide⟩, z_mj1 (i := 14) rfl (by decide +kernel), rfl⟩
theorem ln_Lw_316 : Cond.methodLink "IronpourLaw" 316 M_Mm_bar.1 ∈ z_gw := z_mj9 (i := 35) rfl (by decide +kernel)
theorem w_im_Mm_bar : Cond.instanceMethod M_Mm_bar.1 ∈ z_gw := z_mj9 (i := 36) rfl (by decide +kernel)
theorem w_se_Mm_bar : Cond.selects M_Mm_bar.1.cls M_Mm_bar.1 M_Mm_bar.1 ∈ z_gw := z_mj9 (i := 37) rfl (by decide +kernel)
theorem d_Lw_law_1643 : decode code 1643 = .ok (.istore 7, 2) := zo_54 (d := 7) (zd_b zq_code_51 11 rfl rfl rfl) (zd_b zq_code_51 12 rfl rfl rfl)
theorem d_Lw_law_1645 : decode code 1645 = .ok (.goto 163, 3) := zo_167 (d := 0) (e := 163) (zd_b zq_code_51 13 rfl rfl rfl) (zd_b zq_code_51 14 rfl rfl rfl) (zd_b zq_code_51 15 rfl rfl rfl) (by decide +kernel)
set_option maxHeartbeats 4000000 in
set_option maxRecDepth 100000 in
theorem LC_bar {g : zG} {ad : Nat → Nat} {t : zTT} {u : zNN} {w : zW} {j : Nat} (hI : IVm g ad t u w) (hR : REY t u.1 (48 * j)) {r : Nat} (hJ : 7 * j + 7 ≤ g.2.2 41) (hL : g.2.2 41 ≤ 3584) (ih : LWI g ad j r) : DW g M_Lw_law lwQ w 1620 [(5, .int (nI (7 * j))), (4, .ref (ad 70)), (3, .ref (ad 69)), (2, .ref (ad 52)), (1, .ref (ad 0)), (0, .ref (g.2.2 40))] [] (100 * (r + 1)) (1000 * (r + 1)) := by
  refine y_base (cs := []) (z_I.nil w) ?_
  refine y_aload_n d_Lw_law_1620 rfl 4 rfl ?_
  refine y_aload_n d_Lw_law_1621 rfl 5 rfl ?_
  refine y_iload d_Lw_law_1622 0 rfl ?_
  refine y_iconst d_Lw_law_1624 (v := 1) (by decide) ?_
  refine y_iadd d_Lw_law_1625 (v := nI ((7 * j) + 1)) (nI_add _ _) ?_
  refine y_sld (v := zs g (7 * j + 1)) d_Lw_law_1626 (vp_in_nI (by omega) (by omega)) (by rw [nI_clamp (by omega)]; rfl) ?_
  refine y_aload_n d_Lw_law_1627 rfl 2 rfl ?_
  refine yw_callSX (As := [.ref (ad 0), .int (zs g (7 * j + 1)), .ref (ad 69)]) (rest := []) ln_Lw_314 w_st_Lw_bar ok_Lw_law_Lw_bar d_Lw_law_1628 (fun wA hA => W_bar (IVm.nil hA hI) _) rfl rfl (Nat.le_of_ble_eq_true rfl) (by omega) (by omega) (fun wA1628 hA1628 E wB1628 hx => ?_) (fun wA1628 hA1628 v wB1628 hx => ?_)
  · obtain ⟨⟨v9, e1⟩, -⟩ := hx
    cases e1
  · obtain ⟨⟨v9, e1⟩, uC, huC, hI2⟩ := hx
    cases e1
    refine yw_st (st2 := [.int v9]) rfl ?_
    have hI := hI2
    refine y_base (cs := []) (z_I.nil _) ?_
    refine y_istore (lv' := [(6, .int v9), (5, .int (nI (7 * j))), (4, .ref (ad 70)), (3, .ref (ad 69)), (2, .ref (ad 52)), (1, .ref (ad 0)), (0, .ref (g.2.2 40))]) d_Lw_law_1631 (by decide) rfl ?_
    refine y_aload_n d_Lw_law_1633 rfl 4 rfl ?_
    refine y_aload_n d_Lw_law_1634 rfl 6 rfl ?_
    refine y_iload d_Lw_law_1635 1 rfl ?_
    refine y_iconst d_Lw_law_1637 (v := 1) (by decide) ?_
    refine y_iadd d_Lw_law_1638 (v := nI ((7 * j) + 1)) (nI_add _ _) ?_
    refine y_sld (v := zs g (7 * j + 1)) d_Lw_law_1639 (vp_in_nI (by omega) (by omega)) (by rw [nI_clamp (by omega)]; rfl) ?_
    refine yw_callVL (As := [.int (zs g (7 * j + 1))]) (rest := []) (ci := 12) rfl (fun wA hA => (IVm.nil hA hI).rm) ln_Lw_316 w_im_Mm_bar w_se_Mm_bar ok_Lw_law_Mm_bar d_Lw_law_1640 (fun wA hA => K_Mm_bar (IVm.nil hA hI) _) rfl rfl (Nat.le_of_ble_eq_true rfl) (by omega) (by omega) (fun wA1640 hA1640 E wB1640 hx => ?_) (fun wA1640 hA1640 v wB1640 hx => ?_)
    · obtain ⟨⟨v8, e1⟩, -⟩ := hx
      cases e1
    · obtain ⟨⟨v8, e1⟩, uM, huM, hI2⟩ := hx
      cases e1
      refine yw_st (st2 := [.int v8]) rfl ?_
      have hI := hI2
      refine y_base (cs := []) (z_I.nil _) ?_
      refine y_istore (lv' := [(7, .int v8), (6, .int v9), (5, .int (nI (7 * j))), (4, .ref (ad 70)), (3, .ref (ad 69)), (2, .ref (ad 52)), (1, .ref (ad 0)), (0, .ref (g.2.2 40))]) d_Lw_law_1643 (by decide) rfl ?_
      refine y_goto (tgt := 1808) d_Lw_law_1645 (by decide) ?_
      refine y_lv (lv' := [(5, .int (nI (7 * j))), (4, .ref (ad 70)), (3, .ref (ad 69)), (2, .ref (ad 52)), (1, .ref (ad 0)), (0, .ref (g.2.2 40))]) [2, 3, 4, 5, 6, 7] rfl ?_
      refine y_end (fun wC hC => ?_)
      exact LC_next (IVm.nil hC hI) ((hR.n (huM.trans huC)).up (by omega)) hJ hL ih (by omega) (by omega)
theorem d_Lw_law_1648 : decode code 1648 = .ok (.aload_n 1, 1) := zo_43 (zd_b zq_code_51 16 rfl rfl rfl)
theorem d_Lw_law_1649 : decode code 1649 = .ok (.aload_n 0, 1) := zo_42 (zd_b zq_code_51 17 rfl rfl rfl)
theorem d_Lw_law_1650 : decode code 1650 = .ok (.iload 5, 2) := zo_21 (d := 5) (zd_b zq_code_51 18 rfl rfl rfl) (zd_b zq_code_51 19 rfl rfl rfl)
theorem d_Lw_law_1652 : decode code 1652 = .ok (.iconst 1, 1) := zo_4 (zd_b zq_code_51 20 rfl rfl rfl)
theorem d_Lw_law_1653 : decode code 1653 = .ok (.iadd, 1) := zo_96 (zd_b zq_code_51 21 rfl rfl rfl)
theorem d_Lw_law_1654 : decode code 1654 = .ok (.iaload, 1) := zo_46 (zd_b zq_code_51 22 rfl rfl rfl)
theorem d_Lw_law_1655 : decode code 1655 = .ok (.aload_n 3, 1) := zo_45 (zd_b zq_code_51 23 rfl rfl rfl)
theorem d_Lw_law_1656 : decode code 1656 = .ok (.invokestatic 317, 3) := zo_184 (d := 1) (e := 61) (zd_b zq_code_51 24 rfl rfl rfl) (zd_b zq_code_51 25 rfl rfl rfl) (zd_b zq_code_51 26 rfl rfl rfl)
theorem ok_Lw_law_Lw_weld : z_okX M_Lw_law M_Lw_weld 3 := ⟨z_mj6 (i := 237) rfl (by decide +kernel), by decide, ⟨by decide +kernel, by decide +kernel, by decide +kernel⟩, ⟨by decide, by decide⟩, z_mj1 (i := 0) rfl (by decide +kernel), rfl⟩
theorem ln_Lw_317 : Cond.methodLink "IronpourLaw" 317 M_Lw_weld.1 ∈ z_gw := z_mj6 (i := 235) rfl (by decide +kernel)
theorem w_st_Lw_weld : Cond.static M_Lw_weld.1 ∈ z_gw := z_mj6 (i := 236) rfl (by decide +kernel)
theorem d_Lw_law_1659 : decode code 1659 = .ok (.istore 6, 2) := zo_54 (d := 6) (zd_b zq_code_51 27 rfl rfl rfl) (zd_b zq_code_51 28 rfl rfl rfl)
theorem d_Lw_law_1661 : decode code 1661 = .ok (.aload_n 2, 1) := zo_44 (zd_b zq_code_51 29 rfl rfl rfl)
theorem d_Lw_law_1662 : decode code 1662 = .ok (.aload_n 0, 1) := zo_42 (zd_b zq_code_51 30 rfl rfl rfl)
theorem d_Lw_law_1663 : decode code 1663 = .ok (.iload 5, 2) := zo_21 (d := 5) (zd_b zq_code_51 31 rfl rfl rfl) (zd_b zq_code_52 0 rfl rfl rfl)
theorem d_Lw_law_1665 : decode code 1665 = .ok (.iconst 1, 1) := zo_4 (zd_b zq_code_52 1 rfl rfl rfl)
theorem d_Lw_law_1666 : decode code 1666 = .ok (.iadd, 1) := zo_96 (zd_b zq_code_52 2 rfl rfl rfl)
theorem d_Lw_law_1667 : decode code 1667 = .ok (.iaload, 1) := zo_46 (zd_b zq_code_52 3 rfl rfl rfl)
theorem d_Lw_law_1668 : decode code 1668 = .ok (.invokevirtual 319, 3) := zo_182 (d := 1) (e := 63) (zd_b zq_code_52 4 rfl rfl rfl) (zd_b zq_code_52 5 rfl rfl rfl) (zd_b zq_code_52 6 rfl rfl rfl)
theorem ok_Lw_law_Mm_weld : z_ok M_Lw_law M_Mm_weld 1 := ⟨z_mj9 (i := 47) rfl (by decide +kernel), rfl, ⟨by decide +kernel, by decide +kernel, by decide +kernel⟩, ⟨by decide, by decide⟩, z_mj1 (i := 14) rfl (by decide +kernel), rfl⟩
theorem ln_Lw_319 : Cond.methodLink "IronpourLaw" 319 M_Mm_weld.1 ∈ z_gw := z_mj9 (i := 44) rfl (by decide +kernel)
theorem w_im_Mm_weld : Cond.instanceMethod M_Mm_weld.1 ∈ z_gw := z_mj9 (i := 45) rfl (by decide +kernel)
theorem w_se_Mm_weld : Cond.selects M_Mm_weld.1.cls M_Mm_weld.1 M_Mm_weld.1 ∈ z_gw := z_mj9 (i := 46) rfl (by decide +kernel)
theorem d_Lw_law_1671 : decode code 1671 = .ok (.istore 7, 2) := zo_54 (d := 7) (zd_b zq_code_52 7 rfl rfl rfl) (zd_b zq_code_52 8 rfl rfl rfl)
theorem d_Lw_law_1673 : decode code 1673 = .ok (.goto 135, 3) := zo_167 (d := 0) (e := 135) (zd_b zq_code_52 9 rfl rfl rfl) (zd_b zq_code_52 10 rfl rfl rfl) (zd_b zq_code_52 11 rfl rfl rfl) (by decide +kernel)
set_option maxHeartbeats 4000000 in
set_option maxRecDepth 100000 in
theorem LC_weld {g : zG} {ad : Nat → Nat} {t : zTT} {u : zNN} {w : zW} {j : Nat} (hI : IVm g ad t u w) (hR : REY t u.1 (48 * j)) {r : Nat} (hJ : 7 * j + 7 ≤ g.2.2 41) (hL : g.2.2 41 ≤ 3584) (ih : LWI g ad j r) : DW g M_Lw_law lwQ w 1648 [(5, .int (nI (7 * j))), (4, .ref (ad 70)), (3, .ref (ad 69)), (2, .ref (ad 52)), (1, .ref (ad 0)), (0, .ref (g.2.2 40))] [] (100 * (r + 1)) (1000 * (r + 1)) := by
  refine y_base (cs := []) (z_I.nil w) ?_
  refine y_aload_n d_Lw_law_1648 rfl 4 rfl ?_
  refine y_aload_n d_Lw_law_1649 rfl 5 rfl ?_
  refine y_iload d_Lw_law_1650 0 rfl ?_
  refine y_iconst d_Lw_law_1652 (v := 1) (by decide) ?_
  refine y_iadd d_Lw_law_1653 (v := nI ((7 * j) + 1)) (nI_add _ _) ?_
  refine y_sld (v := zs g (7 * j + 1)) d_Lw_law_1654 (vp_in_nI (by omega) (by omega)) (by rw [nI_clamp (by omega)]; rfl) ?_
  refine y_aload_n d_Lw_law_1655 rfl 2 rfl ?_
  refine yw_callSX (As := [.ref (ad 0), .int (zs g (7 * j + 1)), .ref (ad 69)]) (rest := []) ln_Lw_317 w_st_Lw_weld ok_Lw_law_Lw_weld d_Lw_law_1656 (fun wA hA => W_weld (IVm.nil hA hI) _) rfl rfl (Nat.le_of_ble_eq_true rfl) (by omega) (by omega) (fun wA1656 hA1656 E wB1656 hx => ?_) (fun wA1656 hA1656 v wB1656 hx => ?_)
  · obtain ⟨⟨v9, e1⟩, -⟩ := hx
    cases e1
  · obtain ⟨⟨v9, e1⟩, uC, huC, hI2⟩ := hx
    cases e1
    refine yw_st (st2 := [.int v9]) rfl ?_
    have hI := hI2
    refine y_base (cs := []) (z_I.nil _) ?_
    refine y_istore (lv' := [(6, .int v9), (5, .int (nI (7 * j))), (4, .ref (ad 70)), (3, .ref (ad 69)), (2, .ref (ad 52)), (1, .ref (ad 0)), (0, .ref (g.2.2 40))]) d_Lw_law_1659 (by decide) rfl ?_
    refine y_aload_n d_Lw_law_1661 rfl 4 rfl ?_
    refine y_aload_n d_Lw_law_1662 rfl 6 rfl ?_
    refine y_iload d_Lw_law_1663 1 rfl ?_
    refine y_iconst d_Lw_law_1665 (v := 1) (by decide) ?_
    refine y_iadd d_Lw_law_1666 (v := nI ((7 * j) + 1)) (nI_add _ _) ?_
    refine y_sld (v := zs g (7 * j + 1)) d_Lw_law_1667 (vp_in_nI (by omega) (by omega)) (by rw [nI_clamp (by omega)]; rfl) ?_
    refine yw_callVL (As := [.int (zs g (7 * j + 1))]) (rest := []) (ci := 12) rfl (fun wA hA => (IVm.nil hA hI).rm) ln_Lw_319 w_im_Mm_weld w_se_Mm_weld ok_Lw_law_Mm_weld d_Lw_law_1668 (fun wA hA => K_Mm_weld (IVm.nil hA hI) _) rfl rfl (Nat.le_of_ble_eq_true rfl) (by omega) (by omega) (fun wA1668 hA1668 E wB1668 hx => ?_) (fun wA1668 hA1668 v wB1668 hx => ?_)
    · obtain ⟨⟨v8, e1⟩, -⟩ := hx
      cases e1
    · obtain ⟨⟨v8, e1⟩, uM, huM, hI2⟩ := hx
      cases e1
      refine yw_st (st2 := [.int v8]) rfl ?_
      have hI := hI2
      refine y_base (cs := []) (z_I.nil _) ?_
      refine y_istore (lv' := [(7, .int v8), (6, .int v9), (5, .int (nI (7 * j))), (4, .ref (ad 70)), (3, .ref (ad 69)), (2, .ref (ad 52)), (1, .ref (ad 0)), (0, .ref (g.2.2 40))]) d_Lw_law_1671 (by decide) rfl ?_
      refine y_goto (tgt := 1808) d_Lw_law_1673 (by decide) ?_
      refine y_lv (lv' := [(5, .int (nI (7 * j))), (4, .ref (ad 70)), (3, .ref (ad 69)), (2, .ref (ad 52)), (1, .ref (ad 0)), (0, .ref (g.2.2 40))]) [2, 3, 4, 5, 6, 7] rfl ?_
      refine y_end (fun wC hC => ?_)
      exact LC_next (IVm.nil hC hI) ((RY_weld (b := 48 * j) (by omega) _ hR huC huM).up (by omega)) hJ hL ih (by omega) (by omega)
theorem d_Lw_law_1676 : decode code 1676 = .ok (.aload_n 1, 1) := zo_43 (zd_b zq_code_52 12 rfl rfl rfl)
theorem d_Lw_law_1677 : decode code 1677 = .ok (.aload_n 0, 1) := zo_42 (zd_b zq_code_52 13 rfl rfl rfl)
theorem d_Lw_law_1678 : decode code 1678 = .ok (.iload 5, 2) := zo_21 (d := 5) (zd_b zq_code_52 14 rfl rfl rfl) (zd_b zq_code_52 15 rfl rfl rfl)
theorem d_Lw_law_1680 : decode code 1680 = .ok (.iconst 1, 1) := zo_4 (zd_b zq_code_52 16 rfl rfl rfl)
theorem d_Lw_law_1681 : decode code 1681 = .ok (.iadd, 1) := zo_96 (zd_b zq_code_52 17 rfl rfl rfl)
theorem d_Lw_law_1682 : decode code 1682 = .ok (.iaload, 1) := zo_46 (zd_b zq_code_52 18 rfl rfl rfl)
theorem d_Lw_law_1683 : decode code 1683 = .ok (.aload_n 3, 1) := zo_45 (zd_b zq_code_52 19 rfl rfl rfl)
theorem d_Lw_law_1684 : decode code 1684 = .ok (.invokestatic 320, 3) := zo_184 (d := 1) (e := 64) (zd_b zq_code_52 20 rfl rfl rfl) (zd_b zq_code_52 21 rfl rfl rfl) (zd_b zq_code_52 22 rfl rfl rfl)
theorem ok_Lw_law_Lw_deliver : z_okX M_Lw_law M_Lw_deliver 3 := ⟨z_mj7 (i := 13) rfl (by decide +kernel), by decide, ⟨by decide +kernel, by decide +kernel, by decide +kernel⟩, ⟨by decide, by decide⟩, z_mj1 (i := 0) rfl (by decide +kernel), rfl⟩
theorem ln_Lw_320 : Cond.methodLink "IronpourLaw" 320 M_Lw_deliver.1 ∈ z_gw := z_mj7 (i := 11) rfl (by decide +kernel)
theorem w_st_Lw_deliver : Cond.static M_Lw_deliver.1 ∈ z_gw := z_mj7 (i := 12) rfl (by decide +kernel)
theorem d_Lw_law_1687 : decode code 1687 = .ok (.istore 6, 2) := zo_54 (d := 6) (zd_b zq_code_52 23 rfl rfl rfl) (zd_b zq_code_52 24 rfl rfl rfl)
theorem d_Lw_law_1689 : decode code 1689 = .ok (.aload_n 2, 1) := zo_44 (zd_b zq_code_52 25 rfl rfl rfl)
theorem d_Lw_law_1690 : decode code 1690 = .ok (.aload_n 0, 1) := zo_42 (zd_b zq_code_52 26 rfl rfl rfl)
theorem d_Lw_law_1691 : decode code 1691 = .ok (.iload 5, 2) := zo_21 (d := 5) (zd_b zq_code_52 27 rfl rfl rfl) (zd_b zq_code_52 28 rfl rfl rfl)
theorem d_Lw_law_1693 : decode code 1693 = .ok (.iconst 1, 1) := zo_4 (zd_b zq_code_52 29 rfl rfl rfl)
theorem d_Lw_law_1694 : decode code 1694 = .ok (.iadd, 1) := zo_96 (zd_b zq_code_52 30 rfl rfl rfl)
theorem d_Lw_law_1695 : decode code 1695 = .ok (.iaload, 1) := zo_46 (zd_b zq_code_52 31 rfl rfl rfl)
theorem d_Lw_law_1696 : decode code 1696 = .ok (.invokevirtual 322, 3) := zo_182 (d := 1) (e := 66) (zd_b zq_code_53 0 rfl rfl rfl) (zd_b zq_code_53 1 rfl rfl rfl) (zd_b zq_code_53 2 rfl rfl rfl)
theorem ok_Lw_law_Mm_deliver : z_ok M_Lw_law M_Mm_deliver 1 := ⟨z_mj9 (i := 51) rfl (by decide +kernel), rfl, ⟨by decide +kernel, by decide +kernel, by decide +kernel⟩, ⟨by decide, by decide⟩, z_mj1 (i := 14) rfl (by decide +kernel), rfl⟩
theorem ln_Lw_322 : Cond.methodLink "IronpourLaw" 322 M_Mm_deliver.1 ∈ z_gw := z_mj9 (i := 48) rfl (by decide +kernel)
theorem w_im_Mm_deliver : Cond.instanceMethod M_Mm_deliver.1 ∈ z_gw := z_mj9 (i := 49) rfl (by decide +kernel)
theorem w_se_Mm_deliver : Cond.selects M_Mm_deliver.1.cls M_Mm_deliver.1 M_Mm_deliver.1 ∈ z_gw := z_mj9 (i := 50) rfl (by decide +kernel)
theorem d_Lw_law_1699 : decode code 1699 = .ok (.istore 7, 2) := zo_54 (d := 7) (zd_b zq_code_53 3 rfl rfl rfl) (zd_b zq_code_53 4 rfl rfl rfl)
theorem d_Lw_law_1701 : decode code 1701 = .ok (.goto 107, 3) := zo_167 (d := 0) (e := 107) (zd_b zq_code_53 5 rfl rfl rfl) (zd_b zq_code_53 6 rfl rfl rfl) (zd_b zq_code_53 7 rfl rfl rfl) (by decide +kernel)
set_option maxHeartbeats 4000000 in
set_option maxRecDepth 100000 in
theorem LC_deliver {g : zG} {ad : Nat → Nat} {t : zTT} {u : zNN} {w : zW} {j : Nat} (hI : IVm g ad t u w) (hR : REY t u.1 (48 * j)) {r : Nat} (hJ : 7 * j + 7 ≤ g.2.2 41) (hL : g.2.2 41 ≤ 3584) (ih : LWI g ad j r) : DW g M_Lw_law lwQ w 1676 [(5, .int (nI (7 * j))), (4, .ref (ad 70)), (3, .ref (ad 69)), (2, .ref (ad 52)), (1, .ref (ad 0)), (0, .ref (g.2.2 40))] [] (100 * (r + 1)) (1000 * (r + 1)) := by
  refine y_base (cs := []) (z_I.nil w) ?_
  refine y_aload_n d_Lw_law_1676 rfl 4 rfl ?_
  refine y_aload_n d_Lw_law_1677 rfl 5 rfl ?_
  refine y_iload d_Lw_law_1678 0 rfl ?_
  refine y_iconst d_Lw_law_1680 (v := 1) (by decide) ?_
  refine y_iadd d_Lw_law_1681 (v := nI ((7 * j) + 1)) (nI_add _ _) ?_
  refine y_sld (v := zs g (7 * j + 1)) d_Lw_law_1682 (vp_in_nI (by omega) (by omega)) (by rw [nI_clamp (by omega)]; rfl) ?_
  refine y_aload_n d_Lw_law_1683 rfl 2 rfl ?_
  refine yw_callSX (As := [.ref (ad 0), .int (zs g (7 * j + 1)), .ref (ad 69)]) (rest := []) ln_Lw_320 w_st_Lw_deliver ok_Lw_law_Lw_deliver d_Lw_law_1684 (fun wA hA => W_deliver (IVm.nil hA hI) _) rfl rfl (Nat.le_of_ble_eq_true rfl) (by omega) (by omega) (fun wA1684 hA1684 E wB1684 hx => ?_) (fun wA1684 hA1684 v wB1684 hx => ?_)
  · obtain ⟨⟨v9, e1⟩, -⟩ := hx
    cases e1
  · obtain ⟨⟨v9, e1⟩, uC, huC, hI2⟩ := hx
    cases e1
    refine yw_st (st2 := [.int v9]) rfl ?_
    have hI := hI2
    refine y_base (cs := []) (z_I.nil _) ?_
    refine y_istore (lv' := [(6, .int v9), (5, .int (nI (7 * j))), (4, .ref (ad 70)), (3, .ref (ad 69)), (2, .ref (ad 52)), (1, .ref (ad 0)), (0, .ref (g.2.2 40))]) d_Lw_law_1687 (by decide) rfl ?_
    refine y_aload_n d_Lw_law_1689 rfl 4 rfl ?_
    refine y_aload_n d_Lw_law_1690 rfl 6 rfl ?_
    refine y_iload d_Lw_law_1691 1 rfl ?_
    refine y_iconst d_Lw_law_1693 (v := 1) (by decide) ?_
    refine y_iadd d_Lw_law_1694 (v := nI ((7 * j) + 1)) (nI_add _ _) ?_
    refine y_sld (v := zs g (7 * j + 1)) d_Lw_law_1695 (vp_in_nI (by omega) (by omega)) (by rw [nI_clamp (by omega)]; rfl) ?_
    refine yw_callVL (As := [.int (zs g (7 * j + 1))]) (rest := []) (ci := 12) rfl (fun wA hA => (IVm.nil hA hI).rm) ln_Lw_322 w_im_Mm_deliver w_se_Mm_deliver ok_Lw_law_Mm_deliver d_Lw_law_1696 (fun wA hA => K_Mm_deliver (IVm.nil hA hI) _) rfl rfl (Nat.le_of_ble_eq_true rfl) (by omega) (by omega) (fun wA1696 hA1696 E wB1696 hx => ?_) (fun wA1696 hA1696 v wB1696 hx => ?_)
    · obtain ⟨⟨v8, e1⟩, -⟩ := hx
      cases e1
    · obtain ⟨⟨v8, e1⟩, uM, huM, hI2⟩ := hx
      cases e1
      refine yw_st (st2 := [.int v8]) rfl ?_
      have hI := hI2
      refine y_base (cs := []) (z_I.nil _) ?_
      refine y_istore (lv' := [(7, .int v8), (6, .int v9), (5, .int (nI (7 * j))), (4, .ref (ad 70)), (3, .ref (ad 69)), (2, .ref (ad 52)), (1, .ref (ad 0)), (0, .ref (g.2.2 40))]) d_Lw_law_1699 (by decide) rfl ?_
      refine y_goto (tgt := 1808) d_Lw_law_1701 (by decide) ?_
      refine y_lv (lv' := [(5, .int (nI (7 * j))), (4, .ref (ad 70)), (3, .ref (ad 69)), (2, .ref (ad 52)), (1, .ref (ad 0)), (0, .ref (g.2.2 40))]) [2, 3, 4, 5, 6, 7] rfl ?_
      refine y_end (fun wC hC => ?_)
      exact LC_next (IVm.nil hC hI) ((RY_deliver (b := 48 * j) (by omega) _ hR huC huM).up (by omega)) hJ hL ih (by omega) (by omega)
theorem d_Lw_law_1704 : decode code 1704 = .ok (.aload_n 1, 1) := zo_43 (zd_b zq_code_53 8 rfl rfl rfl)
theorem d_Lw_law_1705 : decode code 1705 = .ok (.aload_n 0, 1) := zo_42 (zd_b zq_code_53 9 rfl rfl rfl)
theorem d_Lw_law_1706 : decode code 1706 = .ok (.iload 5, 2) := zo_21 (d := 5) (zd_b zq_code_53 10 rfl rfl rfl) (zd_b zq_code_53 11 rfl rfl rfl)
theorem d_Lw_law_1708 : decode code 1708 = .ok (.iconst 1, 1) := zo_4 (zd_b zq_code_53 12 rfl rfl rfl)
theorem d_Lw_law_1709 : decode code 1709 = .ok (.iadd, 1) := zo_96 (zd_b zq_code_53 13 rfl rfl rfl)
theorem d_Lw_law_1710 : decode code 1710 = .ok (.iaload, 1) := zo_46 (zd_b zq_code_53 14 rfl rfl rfl)
theorem d_Lw_law_1711 : decode code 1711 = .ok (.aload_n 3, 1) := zo_45 (zd_b zq_code_53 15 rfl rfl rfl)
theorem d_Lw_law_1712 : decode code 1712 = .ok (.invokestatic 323, 3) := zo_184 (d := 1) (e := 67) (zd_b zq_code_53 16 rfl rfl rfl) (zd_b zq_code_53 17 rfl rfl rfl) (zd_b zq_code_53 18 rfl rfl rfl)
theorem ok_Lw_law_Lw_breakUp : z_okX M_Lw_law M_Lw_breakUp 3 := ⟨z_mj7 (i := 20) rfl (by decide +kernel), by decide, ⟨by decide +kernel, by decide +kernel, by decide +kernel⟩, ⟨by decide, by decide⟩, z_mj1 (i := 0) rfl (by decide +kernel), rfl⟩
theorem ln_Lw_323 : Cond.methodLink "IronpourLaw" 323 M_Lw_breakUp.1 ∈ z_gw := z_mj7 (i := 18) rfl (by decide +kernel)
theorem w_st_Lw_breakUp : Cond.static M_Lw_breakUp.1 ∈ z_gw := z_mj7 (i := 19) rfl (by decide +kernel)
theorem d_Lw_law_1715 : decode code 1715 = .ok (.istore 6, 2) := zo_54 (d := 6) (zd_b zq_code_53 19 rfl rfl rfl) (zd_b zq_code_53 20 rfl rfl rfl)
theorem d_Lw_law_1717 : decode code 1717 = .ok (.aload_n 2, 1) := zo_44 (zd_b zq_code_53 21 rfl rfl rfl)
theorem d_Lw_law_1718 : decode code 1718 = .ok (.aload_n 0, 1) := zo_42 (zd_b zq_code_53 22 rfl rfl rfl)
theorem d_Lw_law_1719 : decode code 1719 = .ok (.iload 5, 2) := zo_21 (d := 5) (zd_b zq_code_53 23 rfl rfl rfl) (zd_b zq_code_53 24 rfl rfl rfl)
theorem d_Lw_law_1721 : decode code 1721 = .ok (.iconst 1, 1) := zo_4 (zd_b zq_code_53 25 rfl rfl rfl)
theorem d_Lw_law_1722 : decode code 1722 = .ok (.iadd, 1) := zo_96 (zd_b zq_code_53 26 rfl rfl rfl)
theorem d_Lw_law_1723 : decode code 1723 = .ok (.iaload, 1) := zo_46 (zd_b zq_code_53 27 rfl rfl rfl)
theorem d_Lw_law_1724 : decode code 1724 = .ok (.invokevirtual 325, 3) := zo_182 (d := 1) (e := 69) (zd_b zq_code_53 28 rfl rfl rfl) (zd_b zq_code_53 29 rfl rfl rfl) (zd_b zq_code_53 30 rfl rfl rfl)
theorem ok_Lw_law_Mm_breakUp : z_ok M_Lw_law M_Mm_breakUp 1 := ⟨z_mj9 (i := 55) rfl (by decide +kernel), rfl, ⟨by decide +kernel, by decide +kernel, by decide +kernel⟩, ⟨by decide, by decide⟩, z_mj1 (i := 14) rfl (by decide +kernel), rfl⟩
theorem ln_Lw_325 : Cond.methodLink "IronpourLaw" 325 M_Mm_breakUp.1 ∈ z_gw := z_mj9 (i := 52) rfl (by decide +kernel)
theorem w_im_Mm_breakUp : Cond.instanceMethod M_Mm_breakUp.1 ∈ z_gw := z_mj9 (i := 53) rfl (by decide +kernel)
theorem w_se_Mm_breakUp : Cond.selects M_Mm_breakUp.1.cls M_Mm_breakUp.1 M_Mm_breakUp.1 ∈ z_gw := z_mj9 (i := 54) rfl (by decide +kernel)
theorem d_Lw_law_1727 : decode code 1727 = .ok (.istore 7, 2) := zo_54 (d := 7) (zd_b zq_code_53 31 rfl rfl rfl) (zd_b zq_code_54 0 rfl rfl rfl)
theorem d_Lw_law_1729 : decode code 1729 = .ok (.goto 79, 3) := zo_167 (d := 0) (e := 79) (zd_b zq_code_54 1 rfl rfl rfl) (zd_b zq_code_54 2 rfl rfl rfl) (zd_b zq_code_54 3 rfl rfl rfl) (by decide +kernel)
set_option maxHeartbeats 4000000 in
set_option maxRecDepth 100000 in
theorem LC_breakUp {g : zG} {ad : Nat → Nat} {t : zTT} {u : zNN} {w : zW} {j : Nat} (hI : IVm g ad t u w) (hR : REY t u.1 (48 * j)) {r : Nat} (hJ : 7 * j + 7 ≤ g.2.2 41) (hL : g.2.2 41 ≤ 3584) (ih : LWI g ad j r) : DW g M_Lw_law lwQ w 1704 [(5, .int (nI (7 * j))), (4, .ref (ad 70)), (3, .ref (ad 69)), (2, .ref (ad 52)), (1, .ref (ad 0)), (0, .ref (g.2.2 40))] [] (100 * (r + 1)) (1000 * (r + 1)) := by
  refine y_base (cs := []) (z_I.nil w) ?_
  refine y_aload_n d_Lw_law_1704 rfl 4 rfl ?_
  refine y_aload_n d_Lw_law_1705 rfl 5 rfl ?_
  refine y_iload d_Lw_law_1706 0 rfl ?_
  refine y_iconst d_Lw_law_1708 (v := 1) (by decide) ?_
  refine y_iadd d_Lw_law_1709 (v := nI ((7 * j) + 1)) (nI_add _ _) ?_
  refine y_sld (v := zs g (7 * j + 1)) d_Lw_law_1710 (vp_in_nI (by omega) (by omega)) (by rw [nI_clamp (by omega)]; rfl) ?_
  refine y_aload_n d_Lw_law_1711 rfl 2 rfl ?_
  refine yw_callSX (As := [.ref (ad 0), .int (zs g (7 * j + 1)), .ref (ad 69)]) (rest := []) ln_Lw_323 w_st_Lw_breakUp ok_Lw_law_Lw_breakUp d_Lw_law_1712 (fun wA hA => W_breakUp (IVm.nil hA hI) _) rfl rfl (Nat.le_of_ble_eq_true rfl) (by omega) (by omega) (fun wA1712 hA1712 E wB1712 hx => ?_) (fun wA1712 hA1712 v wB1712 hx => ?_)
  · obtain ⟨⟨v9, e1⟩, -⟩ := hx
    cases e1
  · obtain ⟨⟨v9, e1⟩, uC, huC, hI2⟩ := hx
    cases e1
    refine yw_st (st2 := [.int v9]) rfl ?_
    have hI := hI2
    refine y_base (cs := []) (z_I.nil _) ?_
    refine y_istore (lv' := [(6, .int v9), (5, .int (nI (7 * j))), (4, .ref (ad 70)), (3, .ref (ad 69)), (2, .ref (ad 52)), (1, .ref (ad 0)), (0, .ref (g.2.2 40))]) d_Lw_law_1715 (by decide) rfl ?_
    refine y_aload_n d_Lw_law_1717 rfl 4 rfl ?_
    refine y_aload_n d_Lw_law_1718 rfl 6 rfl ?_
    refine y_iload d_Lw_law_1719 1 rfl ?_
    refine y_iconst d_Lw_law_1721 (v := 1) (by decide) ?_
    refine y_iadd d_Lw_law_1722 (v := nI ((7 * j) + 1)) (nI_add _ _) ?_
    refine y_sld (v := zs g (7 * j + 1)) d_Lw_law_1723 (vp_in_nI (by omega) (by omega)) (by rw [nI_clamp (by omega)]; rfl) ?_
    refine yw_callVL (As := [.int (zs g (7 * j + 1))]) (rest := []) (ci := 12) rfl (fun wA hA => (IVm.nil hA hI).rm) ln_Lw_325 w_im_Mm_breakUp w_se_Mm_breakUp ok_Lw_law_Mm_breakUp d_Lw_law_1724 (fun wA hA => K_Mm_breakUp (IVm.nil hA hI) _) rfl rfl (Nat.le_of_ble_eq_true rfl) (by omega) (by omega) (fun wA1724 hA1724 E wB1724 hx => ?_) (fun wA1724 hA1724 v wB1724 hx => ?_)
    · obtain ⟨⟨v8, e1⟩, -⟩ := hx
      cases e1
    · obtain ⟨⟨v8, e1⟩, uM, huM, hI2⟩ := hx
      cases e1
      refine yw_st (st2 := [.int v8]) rfl ?_
      have hI := hI2
      refine y_base (cs := []) (z_I.nil _) ?_
      refine y_istore (lv' := [(7, .int v8), (6, .int v9), (5, .int (nI (7 * j))), (4, .ref (ad 70)), (3, .ref (ad 69)), (2, .ref (ad 52)), (1, .ref (ad 0)), (0, .ref (g.2.2 40))]) d_Lw_law_1727 (by decide) rfl ?_
      refine y_goto (tgt := 1808) d_Lw_law_1729 (by decide) ?_
      refine y_lv (lv' := [(5, .int (nI (7 * j))), (4, .ref (ad 70)), (3, .ref (ad 69)), (2, .ref (ad 52)), (1, .ref (ad 0)), (0, .ref (g.2.2 40))]) [2, 3, 4, 5, 6, 7] rfl ?_
      refine y_end (fun wC hC => ?_)
      exact LC_next (IVm.nil hC hI) ((RY_breakUp (b := 48 * j) (by omega) _ hR huC huM).up (by omega)) hJ hL ih (by omega) (by omega)
theorem d_Lw_law_1732 : decode code 1732 = .ok (.aload_n 1, 1) := zo_43 (zd_b zq_code_54 4 rfl rfl rfl)
theorem d_Lw_law_1733 : decode code 1733 = .ok (.aload_n 3, 1) := zo_45 (zd_b zq_code_54 5 rfl rfl rfl)
theorem d_Lw_law_1734 : decode code 1734 = .ok (.invokestatic 326, 3) := zo_184 (d := 1) (e := 70) (zd_b zq_code_54 6 rfl rfl rfl) (zd_b zq_code_54 7 rfl rfl rfl) (zd_b zq_code_54 8 rfl rfl rfl)
theorem ok_Lw_law_Lw_worst : z_okX M_Lw_law M_Lw_worst 2 := ⟨z_mj7 (i := 31) rfl (by decide +kernel), by decide, ⟨by decide +kernel, by decide +kernel, by decide +kernel⟩, ⟨by decide, by decide⟩, z_mj1 (i := 0) rfl (by decide +kernel), rfl⟩
theorem ln_Lw_326 : Cond.methodLink "IronpourLaw" 326 M_Lw_worst.1 ∈ z_gw := z_mj7 (i := 29) rfl (by decide +kernel)
theorem w_st_Lw_worst : Cond.static M_Lw_worst.1 ∈ z_gw := z_mj7 (i := 30) rfl (by decide +kernel)
theorem d_Lw_law_1737 : decode code 1737 = .ok (.istore 6, 2) := zo_54 (d := 6) (zd_b zq_code_54 9 rfl rfl rfl) (zd_b zq_code_54 10 rfl rfl rfl)
theorem d_Lw_law_1739 : decode code 1739 = .ok (.aload_n 2, 1) := zo_44 (zd_b zq_code_54 11 rfl rfl rfl)
theorem d_Lw_law_1740 : decode code 1740 = .ok (.invokevirtual 328, 3) := zo_182 (d := 1) (e := 72) (zd_b zq_code_54 12 rfl rfl rfl) (zd_b zq_code_54 13 rfl rfl rfl) (zd_b zq_code_54 14 rfl rfl rfl)
theorem ok_Lw_law_Mm_worst : z_ok M_Lw_law M_Mm_worst 0 := ⟨z_mj9 (i := 59) rfl (by decide +kernel), rfl, ⟨by decide +kernel, by decide +kernel, by decide +kernel⟩, ⟨by decide, by decide⟩, z_mj1 (i := 14) rfl (by decide +kernel), rfl⟩
theorem ln_Lw_328 : Cond.methodLink "IronpourLaw" 328 M_Mm_worst.1 ∈ z_gw := z_mj9 (i := 56) rfl (by decide +kernel)
theorem w_im_Mm_worst : Cond.instanceMethod M_Mm_worst.1 ∈ z_gw := z_mj9 (i := 57) rfl (by decide +kernel)
theorem w_se_Mm_worst : Cond.selects M_Mm_worst.1.cls M_Mm_worst.1 M_Mm_worst.1 ∈ z_gw := z_mj9 (i := 58) rfl (by decide +kernel)
theorem d_Lw_law_1743 : decode code 1743 = .ok (.istore 7, 2) := zo_54 (d := 7) (zd_b zq_code_54 15 rfl rfl rfl) (zd_b zq_code_54 16 rfl rfl rfl)
theorem d_Lw_law_1745 : decode code 1745 = .ok (.goto 63, 3) := zo_167 (d := 0) (e := 63) (zd_b zq_code_54 17 rfl rfl rfl) (zd_b zq_code_54 18 rfl rfl rfl) (zd_b zq_code_54 19 rfl rfl rfl) (by decide +kernel)
set_option maxHeartbeats 4000000 in
set_option maxRecDepth 100000 in
theorem LC_worst {g : zG} {ad : Nat → Nat} {t : zTT} {u : zNN} {w : zW} {j : Nat} (hI : IVm g ad t u w) (hR : REY t u.1 (48 * j)) {r : Nat} (hJ : 7 * j + 7 ≤ g.2.2 41) (hL : g.2.2 41 ≤ 3584) (ih : LWI g ad j r) : DW g M_Lw_law lwQ w 1732 [(5, .int (nI (7 * j))), (4, .ref (ad 70)), (3, .ref (ad 69)), (2, .ref (ad 52)), (1, .ref (ad 0)), (0, .ref (g.2.2 40))] [] (100 * (r + 1)) (1000 * (r + 1)) := by
  refine y_base (cs := []) (z_I.nil w) ?_
  refine y_aload_n d_Lw_law_1732 rfl 4 rfl ?_
  refine y_aload_n d_Lw_law_1733 rfl 2 rfl ?_
  refine yw_callSX (As := [.ref (ad 0), .ref (ad 69)]) (rest := []) ln_Lw_326 w_st_Lw_worst ok_Lw_law_Lw_worst d_Lw_law_1734 (fun wA hA => W_worst (IVm.nil hA hI)) rfl rfl (Nat.le_of_ble_eq_true rfl) (by omega) (by omega) (fun wA1734 hA1734 E wB1734 hx => ?_) (fun wA1734 hA1734 v wB1734 hx => ?_)
  · obtain ⟨⟨v9, e1⟩, -⟩ := hx
    cases e1
  · obtain ⟨⟨v9, e1⟩, uC, huC, hI2⟩ := hx
    cases e1
    refine yw_st (st2 := [.int v9]) rfl ?_
    have hI := hI2
    refine y_base (cs := []) (z_I.nil _) ?_
    refine y_istore (lv' := [(6, .int v9), (5, .int (nI (7 * j))), (4, .ref (ad 70)), (3, .ref (ad 69)), (2, .ref (ad 52)), (1, .ref (ad 0)), (0, .ref (g.2.2 40))]) d_Lw_law_1737 (by decide) rfl ?_
    refine y_aload_n d_Lw_law_1739 rfl 4 rfl ?_
    refine yw_callVL (As := []) (rest := []) (ci := 12) rfl (fun wA hA => (IVm.nil hA hI).rm) ln_Lw_328 w_im_Mm_worst w_se_Mm_worst ok_Lw_law_Mm_worst d_Lw_law_1740 (fun wA hA => K_Mm_worst (IVm.nil hA hI)) rfl rfl (Nat.le_of_ble_eq_true rfl) (by omega) (by omega) (fun wA1740 hA1740 E wB1740 hx => ?_) (fun wA1740 hA1740 v wB1740 hx => ?_)
    · obtain ⟨⟨v8, e1⟩, -⟩ := hx
      cases e1
    · obtain ⟨⟨v8, e1⟩, uM, huM, hI2⟩ := hx
      cases e1
      refine yw_st (st2 := [.int v8]) rfl ?_
      have hI := hI2
      refine y_base (cs := []) (z_I.nil _) ?_
      refine y_istore (lv' := [(7, .int v8), (6, .int v9), (5, .int (nI (7 * j))), (4, .ref (ad 70)), (3, .ref (ad 69)), (2, .ref (ad 52)), (1, .ref (ad 0)), (0, .ref (g.2.2 40))]) d_Lw_law_1743 (by decide) rfl ?_
      refine y_goto (tgt := 1808) d_Lw_law_1745 (by decide) ?_
      refine y_lv (lv' := [(5, .int (nI (7 * j))), (4, .ref (ad 70)), (3, .ref (ad 69)), (2, .ref (ad 52)), (1, .ref (ad 0)), (0, .ref (g.2.2 40))]) [2, 3, 4, 5, 6, 7] rfl ?_
      refine y_end (fun wC hC => ?_)
      exact LC_next (IVm.nil hC hI) ((hR.n (huM.trans huC)).up (by omega)) hJ hL ih (by omega) (by omega)
theorem d_Lw_law_1795 : decode code 1795 = .ok (.aload_n 1, 1) := zo_43 (zd_b zq_code_56 3 rfl rfl rfl)
theorem d_Lw_law_1796 : decode code 1796 = .ok (.invokevirtual 341, 3) := zo_182 (d := 1) (e := 85) (zd_b zq_code_56 4 rfl rfl rfl) (zd_b zq_code_56 5 rfl rfl rfl) (zd_b zq_code_56 6 rfl rfl rfl)
theorem ok_Lw_law_Ip_isSound : z_ok M_Lw_law M_Ip_isSound 0 := ⟨z_mj2 (i := 195) rfl (by decide +kernel), rfl, ⟨by decide +kernel, by decide +kernel, by decide +kernel⟩, ⟨by decide, by decide⟩, z_mj1 (i := 1) rfl (by decide +kernel), rfl⟩
theorem ln_Lw_341 : Cond.methodLink "IronpourLaw" 341 M_Ip_isSound.1 ∈ z_gw := z_mj2 (i := 192) rfl (by decide +kernel)
theorem w_im_Ip_isSound : Cond.instanceMethod M_Ip_isSound.1 ∈ z_gw := z_mj2 (i := 193) rfl (by decide +kernel)
theorem w_se_Ip_isSound : Cond.selects M_Ip_isSound.1.cls M_Ip_isSound.1 M_Ip_isSound.1 ∈ z_gw := z_mj2 (i := 194) rfl (by decide +kernel)
theorem d_Lw_law_1799 : decode code 1799 = .ok (.pop, 1) := zo_87 (zd_b zq_code_56 7 rfl rfl rfl)
theorem d_Lw_law_1800 : decode code 1800 = .ok (.aload_n 2, 1) := zo_44 (zd_b zq_code_56 8 rfl rfl rfl)
theorem d_Lw_law_1801 : decode code 1801 = .ok (.invokevirtual 345, 3) := zo_182 (d := 1) (e := 89) (zd_b zq_code_56 9 rfl rfl rfl) (zd_b zq_code_56 10 rfl rfl rfl) (zd_b zq_code_56 11 rfl rfl rfl)
theorem ok_Lw_law_Mm_isSound : z_ok M_Lw_law M_Mm_isSound 0 := ⟨z_mj9 (i := 79) rfl (by decide +kernel), rfl, ⟨by decide +kernel, by decide +kernel, by decide +kernel⟩, ⟨by decide, by decide⟩, z_mj1 (i := 14) rfl (by decide +kernel), rfl⟩
theorem ln_Lw_345 : Cond.methodLink "IronpourLaw" 345 M_Mm_isSound.1 ∈ z_gw := z_mj9 (i := 76) rfl (by decide +kernel)
theorem w_im_Mm_isSound : Cond.instanceMethod M_Mm_isSound.1 ∈ z_gw := z_mj9 (i := 77) rfl (by decide +kernel)
theorem w_se_Mm_isSound : Cond.selects M_Mm_isSound.1.cls M_Mm_isSound.1 M_Mm_isSound.1 ∈ z_gw := z_mj9 (i := 78) rfl (by decide +kernel)
theorem d_Lw_law_1804 : decode code 1804 = .ok (.pop, 1) := zo_87 (zd_b zq_code_56 12 rfl rfl rfl)
theorem d_Lw_law_1805 : decode code 1805 = .ok (.goto 3, 3) := zo_167 (d := 0) (e := 3) (zd_b zq_code_56 13 rfl rfl rfl) (zd_b zq_code_56 14 rfl rfl rfl) (zd_b zq_code_56 15 rfl rfl rfl) (by decide +kernel)
set_option maxHeartbeats 4000000 in
set_option maxRecDepth 100000 in
theorem LC_isSound {g : zG} {ad : Nat → Nat} {t : zTT} {u : zNN} {w : zW} {j : Nat} (hI : IVm g ad t u w) (hR : REY t u.1 (48 * j)) {r : Nat} (hJ : 7 * j + 7 ≤ g.2.2 41) (hL : g.2.2 41 ≤ 3584) (ih : LWI g ad j r) : DW g M_Lw_law lwQ w 1795 [(5, .int (nI (7 * j))), (4, .ref (ad 70)), (3, .ref (ad 69)), (2, .ref (ad 52)), (1, .ref (ad 0)), (0, .ref (g.2.2 40))] [] (100 * (r + 1)) (1000 * (r + 1)) := by
  refine y_base (cs := []) (z_I.nil w) ?_
  refine y_aload_n d_Lw_law_1795 rfl 4 rfl ?_
  refine yw_callVL (As := []) (rest := []) (ci := 11) rfl (fun wA hA => (IVm.nil hA hI).ra) ln_Lw_341 w_im_Ip_isSound w_se_Ip_isSound ok_Lw_law_Ip_isSound d_Lw_law_1796 (fun wA hA => K_Ip_isSound (IVm.nil hA hI)) rfl rfl (Nat.le_of_ble_eq_true rfl) (by omega) (by omega) (fun wA1796 hA1796 E wB1796 hx => ?_) (fun wA1796 hA1796 v wB1796 hx => ?_)
  · obtain ⟨h1, -⟩ := hx
    cases zriE h1
  · obtain ⟨h1, uC, huC, hI2⟩ := hx
    obtain ⟨v9, rfl⟩ := zriV h1
    refine yw_st (st2 := [.int v9]) rfl ?_
    have hI := hI2
    refine y_base (cs := []) (z_I.nil _) ?_
    refine y_pop d_Lw_law_1799 rfl ?_
    refine y_aload_n d_Lw_law_1800 rfl 3 rfl ?_
    refine yw_callVL (As := []) (rest := []) (ci := 12) rfl (fun wA hA => (IVm.nil hA hI).rm) ln_Lw_345 w_im_Mm_isSound w_se_Mm_isSound ok_Lw_law_Mm_isSound d_Lw_law_1801 (fun wA hA => K_Mm_isSound (IVm.nil hA hI)) rfl rfl (Nat.le_of_ble_eq_true rfl) (by omega) (by omega) (fun wA1801 hA1801 E wB1801 hx => ?_) (fun wA1801 hA1801 v wB1801 hx => ?_)
    · obtain ⟨⟨v8, e1⟩, -⟩ := hx
      cases e1
    · obtain ⟨⟨v8, e1⟩, uM, huM, hI2⟩ := hx
      cases e1
      refine yw_st (st2 := [.int v8]) rfl ?_
      have hI := hI2
      refine y_base (cs := []) (z_I.nil _) ?_
      refine y_pop d_Lw_law_1804 rfl ?_
      refine y_goto (tgt := 1808) d_Lw_law_1805 (by decide) ?_
      refine y_lv (lv' := [(5, .int (nI (7 * j))), (4, .ref (ad 70)), (3, .ref (ad 69)), (2, .ref (ad 52)), (1, .ref (ad 0)), (0, .ref (g.2.2 40))]) [0, 1, 2, 3, 4, 5] rfl ?_
      refine y_end (fun wC hC => ?_)
      exact LC_next (IVm.nil hC hI) ((hR.n (huM.trans huC)).up (by omega)) hJ hL ih (by omega) (by omega)
end
section
theorem d45 : decode M_Lw_law.2.1 45 = .ok (.tableswitch 1763 0 49 #[215, 293, 333, 361, 374, 387, 400, 413, 453, 469, 521, 585, 637, 665, 693, 721, 749, 813, 843, 883, 896, 924, 966, 996, 1024, 1052, 1080, 1108, 1138, 1154, 1184, 1256, 1346, 1376, 1392, 1420, 1436, 1449, 1477, 1505, 1533, 1575, 1603, 1631, 1659, 1687, 1703, 1716, 1733, 1750], 215) := by decide +kernel
theorem LW_sw {g : zG} {ad : Nat → Nat} {t : zTT} {u : zNN} {w : zW} {j : Nat} (hI : IVm g ad t u w) (hR : REY t u.1 (48 * j)) {r : Nat} (hJ : 7 * j + 7 ≤ g.2.2 41) (hL : g.2.2 41 ≤ 3584) (ih : LWI g ad j r) : DW g M_Lw_law lwQ w 45 [(5, .int (nI (7 * j))), (4, .ref (ad 70)), (3, .ref (ad 69)), (2, .ref (ad 52)), (1, .ref (ad 0)), (0, .ref (g.2.2 40))] [.int (zs g (7 * j) &&& 63)] (100 * (r + 1)) (1000 * (r + 1)) := by
  obtain ⟨k, hk, e⟩ := z_63 (zs g (7 * j))
  rw [e]
  refine y_base (cs := []) (z_I.nil w) ?_
  match k, hk with
  | 0, _ => exact y_tableIn (off := 215) (tgt := 260) d45 (by decide) (by decide) (by decide) (by decide) (y_end (fun wC hC => LC_draw (IVm.nil hC hI) hR hJ hL ih))
  | 1, _ => exact y_tableIn (off := 293) (tgt := 338) d45 (by decide) (by decide) (by decide) (by decide) (y_end (fun wC hC => LC_cell (IVm.nil hC hI) hR hJ hL ih))
  | 2, _ => exact y_tableIn (off := 333) (tgt := 378) d45 (by decide) (by decide) (by decide) (by decide) (y_end (fun wC hC => LC_part (IVm.nil hC hI) hR hJ hL ih))
  | 3, _ => exact y_tableIn (off := 361) (tgt := 406) d45 (by decide) (by decide) (by decide) (by decide) (y_end (fun wC hC => LC_undercut (IVm.nil hC hI) hR hJ hL ih))
  | 4, _ => exact y_tableIn (off := 374) (tgt := 419) d45 (by decide) (by decide) (by decide) (by decide) (y_end (fun wC hC => LC_cores (IVm.nil hC hI) hR hJ hL ih))
  | 5, _ => exact y_tableIn (off := 387) (tgt := 432) d45 (by decide) (by decide) (by decide) (by decide) (y_end (fun wC hC => LC_loose (IVm.nil hC hI) hR hJ hL ih))
  | 6, _ => exact y_tableIn (off := 400) (tgt := 445) d45 (by decide) (by decide) (by decide) (by decide) (y_end (fun wC hC => LC_weight (IVm.nil hC hI) hR hJ hL ih))
  | 7, _ => exact y_tableIn (off := 413) (tgt := 458) d45 (by decide) (by decide) (by decide) (by decide) (y_end (fun wC hC => LC_filledIn (IVm.nil hC hI) hR hJ hL ih))
  | 8, _ => exact y_tableIn (off := 453) (tgt := 498) d45 (by decide) (by decide) (by decide) (by decide) (y_end (fun wC hC => LC_speed (IVm.nil hC hI) hR hJ hL ih))
  | 9, _ => exact y_tableIn (off := 469) (tgt := 514) d45 (by decide) (by decide) (by decide) (by decide) (y_end (fun wC hC => LC_frozenIn (IVm.nil hC hI) hR hJ hL ih))
  | 10, _ => exact y_tableIn (off := 521) (tgt := 566) d45 (by decide) (by decide) (by decide) (by decide) (y_end (fun wC hC => LC_heatAt (IVm.nil hC hI) hR hJ hL ih))
  | 11, _ => exact y_tableIn (off := 585) (tgt := 630) d45 (by decide) (by decide) (by decide) (by decide) (y_end (fun wC hC => LC_isFed (IVm.nil hC hI) hR hJ hL ih))
  | 12, _ => exact y_tableIn (off := 637) (tgt := 682) d45 (by decide) (by decide) (by decide) (by decide) (y_end (fun wC hC => LC_shrunk (IVm.nil hC hI) hR hJ hL ih))
  | 13, _ => exact y_tableIn (off := 665) (tgt := 710) d45 (by decide) (by decide) (by decide) (by decide) (y_end (fun wC hC => LC_shrunkAnew (IVm.nil hC hI) hR hJ hL ih))
  | 14, _ => exact y_tableIn (off := 693) (tgt := 738) d45 (by decide) (by decide) (by decide) (by decide) (y_end (fun wC hC => LC_lastPlace (IVm.nil hC hI) hR hJ hL ih))
  | 15, _ => exact y_tableIn (off := 721) (tgt := 766) d45 (by decide) (by decide) (by decide) (by decide) (y_end (fun wC hC => LC_bestFeeder (IVm.nil hC hI) hR hJ hL ih))
  | 16, _ => exact y_tableIn (off := 749) (tgt := 794) d45 (by decide) (by decide) (by decide) (by decide) (y_end (fun wC hC => LC_mill (IVm.nil hC hI) hR hJ hL ih))
  | 17, _ => exact y_tableIn (off := 813) (tgt := 858) d45 (by decide) (by decide) (by decide) (by decide) (y_end (fun wC hC => LC_sand (IVm.nil hC hI) hR hJ hL ih))
  | 18, _ => exact y_tableIn (off := 843) (tgt := 888) d45 (by decide) (by decide) (by decide) (by decide) (y_end (fun wC hC => LC_makeCores (IVm.nil hC hI) hR hJ hL ih))
  | 19, _ => exact y_tableIn (off := 883) (tgt := 928) d45 (by decide) (by decide) (by decide) (by decide) (y_end (fun wC hC => LC_goodCores (IVm.nil hC hI) hR hJ hL ih))
  | 20, _ => exact y_tableIn (off := 896) (tgt := 941) d45 (by decide) (by decide) (by decide) (by decide) (y_end (fun wC hC => LC_hours (IVm.nil hC hI) hR hJ hL ih))
  | 21, _ => exact y_tableIn (off := 924) (tgt := 969) d45 (by decide) (by decide) (by decide) (by decide) (y_end (fun wC hC => LC_charge (IVm.nil hC hI) hR hJ hL ih))
  | 22, _ => exact y_tableIn (off := 966) (tgt := 1011) d45 (by decide) (by decide) (by decide) (by decide) (y_end (fun wC hC => LC_furnace (IVm.nil hC hI) hR hJ hL ih))
  | 23, _ => exact y_tableIn (off := 996) (tgt := 1041) d45 (by decide) (by decide) (by decide) (by decide) (y_end (fun wC hC => LC_hold (IVm.nil hC hI) hR hJ hL ih))
  | 24, _ => exact y_tableIn (off := 1024) (tgt := 1069) d45 (by decide) (by decide) (by decide) (by decide) (y_end (fun wC hC => LC_tap (IVm.nil hC hI) hR hJ hL ih))
  | 25, _ => exact y_tableIn (off := 1052) (tgt := 1097) d45 (by decide) (by decide) (by decide) (by decide) (y_end (fun wC hC => LC_treat (IVm.nil hC hI) hR hJ hL ih))
  | 26, _ => exact y_tableIn (off := 1080) (tgt := 1125) d45 (by decide) (by decide) (by decide) (by decide) (y_end (fun wC hC => LC_minutes (IVm.nil hC hI) hR hJ hL ih))
  | 27, _ => exact y_tableIn (off := 1108) (tgt := 1153) d45 (by decide) (by decide) (by decide) (by decide) (y_end (fun wC hC => LC_ladle (IVm.nil hC hI) hR hJ hL ih))
  | 28, _ => exact y_tableIn (off := 1138) (tgt := 1183) d45 (by decide) (by decide) (by decide) (by decide) (y_end (fun wC hC => LC_pig (IVm.nil hC hI) hR hJ hL ih))
  | 29, _ => exact y_tableIn (off := 1154) (tgt := 1199) d45 (by decide) (by decide) (by decide) (by decide) (y_end (fun wC hC => LC_pool (IVm.nil hC hI) hR hJ hL ih))
  | 30, _ => exact y_tableIn (off := 1184) (tgt := 1229) d45 (by decide) (by decide) (by decide) (by decide) (y_end (fun wC hC => LC_poolHas (IVm.nil hC hI) hR hJ hL ih))
  | 31, _ => exact y_tableIn (off := 1256) (tgt := 1301) d45 (by decide) (by decide) (by decide) (by decide) (y_end (fun wC hC => LC_leastCost (IVm.nil hC hI) hR hJ hL ih))
  | 32, _ => exact y_tableIn (off := 1346) (tgt := 1391) d45 (by decide) (by decide) (by decide) (by decide) (y_end (fun wC hC => LC_cheapest (IVm.nil hC hI) hR hJ hL ih))
  | 33, _ => exact y_tableIn (off := 1376) (tgt := 1421) d45 (by decide) (by decide) (by decide) (by decide) (y_end (fun wC hC => LC_mould (IVm.nil hC hI) hR hJ hL ih))
  | 34, _ => exact y_tableIn (off := 1392) (tgt := 1437) d45 (by decide) (by decide) (by decide) (by decide) (y_end (fun wC hC => LC_waiting (IVm.nil hC hI) hR hJ hL ih))
  | 35, _ => exact y_tableIn (off := 1420) (tgt := 1465) d45 (by decide) (by decide) (by decide) (by decide) (y_end (fun wC hC => LC_pour (IVm.nil hC hI) hR hJ hL ih))
  | 36, _ => exact y_tableIn (off := 1436) (tgt := 1481) d45 (by decide) (by decide) (by decide) (by decide) (y_end (fun wC hC => LC_castings (IVm.nil hC hI) hR hJ hL ih))
  | 37, _ => exact y_tableIn (off := 1449) (tgt := 1494) d45 (by decide) (by decide) (by decide) (by decide) (y_end (fun wC hC => LC_alloy (IVm.nil hC hI) hR hJ hL ih))
  | 38, _ => exact y_tableIn (off := 1477) (tgt := 1522) d45 (by decide) (by decide) (by decide) (by decide) (y_end (fun wC hC => LC_faults (IVm.nil hC hI) hR hJ hL ih))
  | 39, _ => exact y_tableIn (off := 1505) (tgt := 1550) d45 (by decide) (by decide) (by decide) (by decide) (y_end (fun wC hC => LC_shrunkIn (IVm.nil hC hI) hR hJ hL ih))
  | 40, _ => exact y_tableIn (off := 1533) (tgt := 1578) d45 (by decide) (by decide) (by decide) (by decide) (y_end (fun wC hC => LC_has (IVm.nil hC hI) hR hJ hL ih))
  | 41, _ => exact y_tableIn (off := 1575) (tgt := 1620) d45 (by decide) (by decide) (by decide) (by decide) (y_end (fun wC hC => LC_bar (IVm.nil hC hI) hR hJ hL ih))
  | 42, _ => exact y_tableIn (off := 1603) (tgt := 1648) d45 (by decide) (by decide) (by decide) (by decide) (y_end (fun wC hC => LC_weld (IVm.nil hC hI) hR hJ hL ih))
  | 43, _ => exact y_tableIn (off := 1631) (tgt := 1676) d45 (by decide) (by decide) (by decide) (by decide) (y_end (fun wC hC => LC_deliver (IVm.nil hC hI) hR hJ hL ih))
  | 44, _ => exact y_tableIn (off := 1659) (tgt := 1704) d45 (by decide) (by decide) (by decide) (by decide) (y_end (fun wC hC => LC_breakUp (IVm.nil hC hI) hR hJ hL ih))
  | 45, _ => exact y_tableIn (off := 1687) (tgt := 1732) d45 (by decide) (by decide) (by decide) (by decide) (y_end (fun wC hC => LC_worst (IVm.nil hC hI) hR hJ hL ih))
  | 46, _ => exact y_tableIn (off := 1703) (tgt := 1748) d45 (by decide) (by decide) (by decide) (by decide) (y_end (fun wC hC => LC_delivered (IVm.nil hC hI) hR hJ hL ih))
  | 47, _ => exact y_tableIn (off := 1716) (tgt := 1761) d45 (by decide) (by decide) (by decide) (by decide) (y_end (fun wC hC => LC_goodShare (IVm.nil hC hI) hR hJ hL ih))
  | 48, _ => exact y_tableIn (off := 1733) (tgt := 1778) d45 (by decide) (by decide) (by decide) (by decide) (y_end (fun wC hC => LC_meanBar (IVm.nil hC hI) hR hJ hL ih))
  | 49, _ => exact y_tableIn (off := 1750) (tgt := 1795) d45 (by decide) (by decide) (by decide) (by decide) (y_end (fun wC hC => LC_isSound (IVm.nil hC hI) hR hJ hL ih))
  | 50, _ => exact y_tableOut (tgt := 1808) d45 (by decide) (by decide) (y_end (fun wC hC => LC_next (IVm.nil hC hI) (hR.up (by omega)) hJ hL ih (by omega) (by omega)))
  | 51, _ => exact y_tableOut (tgt := 1808) d45 (by decide) (by decide) (y_end (fun wC hC => LC_next (IVm.nil hC hI) (hR.up (by omega)) hJ hL ih (by omega) (by omega)))
  | 52, _ => exact y_tableOut (tgt := 1808) d45 (by decide) (by decide) (y_end (fun wC hC => LC_next (IVm.nil hC hI) (hR.up (by omega)) hJ hL ih (by omega) (by omega)))
  | 53, _ => exact y_tableOut (tgt := 1808) d45 (by decide) (by decide) (y_end (fun wC hC => LC_next (IVm.nil hC hI) (hR.up (by omega)) hJ hL ih (by omega) (by omega)))
  | 54, _ => exact y_tableOut (tgt := 1808) d45 (by decide) (by decide) (y_end (fun wC hC => LC_next (IVm.nil hC hI) (hR.up (by omega)) hJ hL ih (by omega) (by omega)))
  | 55, _ => exact y_tableOut (tgt := 1808) d45 (by decide) (by decide) (y_end (fun wC hC => LC_next (IVm.nil hC hI) (hR.up (by omega)) hJ hL ih (by omega) (by omega)))
  | 56, _ => exact y_tableOut (tgt := 1808) d45 (by decide) (by decide) (y_end (fun wC hC => LC_next (IVm.nil hC hI) (hR.up (by omega)) hJ hL ih (by omega) (by omega)))
  | 57, _ => exact y_tableOut (tgt := 1808) d45 (by decide) (by decide) (y_end (fun wC hC => LC_next (IVm.nil hC hI) (hR.up (by omega)) hJ hL ih (by omega) (by omega)))
  | 58, _ => exact y_tableOut (tgt := 1808) d45 (by decide) (by decide) (y_end (fun wC hC => LC_next (IVm.nil hC hI) (hR.up (by omega)) hJ hL ih (by omega) (by omega)))
  | 59, _ => exact y_tableOut (tgt := 1808) d45 (by decide) (by decide) (y_end (fun wC hC => LC_next (IVm.nil hC hI) (hR.up (by omega)) hJ hL ih (by omega) (by omega)))
  | 60, _ => exact y_tableOut (tgt := 1808) d45 (by decide) (by decide) (y_end (fun wC hC => LC_next (IVm.nil hC hI) (hR.up (by omega)) hJ hL ih (by omega) (by omega)))
  | 61, _ => exact y_tableOut (tgt := 1808) d45 (by decide) (by decide) (y_end (fun wC hC => LC_next (IVm.nil hC hI) (hR.up (by omega)) hJ hL ih (by omega) (by omega)))
  | 62, _ => exact y_tableOut (tgt := 1808) d45 (by decide) (by decide) (y_end (fun wC hC => LC_next (IVm.nil hC hI) (hR.up (by omega)) hJ hL ih (by omega) (by omega)))
  | 63, _ => exact y_tableOut (tgt := 1808) d45 (by decide) (by decide) (y_end (fun wC hC => LC_next (IVm.nil hC hI) (hR.up (by omega)) hJ hL ih (by omega) (by omega)))
  | k + 64, hk => exact absurd hk (by omega)
def zgs : Nat → Int32 := fun k => ([80, 35, 30, 50, 0] : List Int32).getD k 0
def zms : Nat → Int32 := fun k => ([80, 35, 30, 50, 0, 0, 0, 0, 0, -1, 0] : List Int32).getD k 0
def zT0 : zTT := (fun i => ((if i = 2 ∨ i = 53 ∨ i = 6 then (fa_fill (fun _ => 46) (fun _ => 0) 108) else if i = 31 then zgs else if i = 52 then zms else fun _ => 0), fun _ => 0, fun _ => if i = 1 ∨ i = 52 then 4 else 0), fun _ _ => (fun _ => 0, fun _ => 0, fun _ => 0, fun _ => 0))
theorem z_adI {cs : zC} (h : (cs.map Prod.fst).Nodup) {i j : Nat} (hi : i < cs.length) (hj : j < cs.length) (e : (cs.map Prod.fst).getD i 0 = (cs.map Prod.fst).getD j 0) : i = j := by
  have h1 : ∀ k, (hk : k < cs.length) → (cs.map Prod.fst).getD k 0 = (cs[k]'hk).1 := fun k hk => by
    rw [List.getD_eq_getElem?_getD, List.getElem?_map, List.getElem?_eq_getElem hk]; rfl
  exact z_nd h (List.getElem?_eq_getElem hi) (List.getElem?_eq_getElem hj) ((h1 i hi).symm.trans (e.trans (h1 j hj)))
theorem z_fp_ch : z_ch (fa_fill (fun _ => 46) (fun _ => 0) 108) := fill_ch (fun k _ => Or.inl rfl)
theorem REL.start : REL zT0 (fun _ => 0) 0 := by
  refine ⟨rfl, rfl, fun i hi => ?_, ⟨rfl, ⟨by decide, by decide⟩, fun i hi => absurd hi (Nat.not_lt_zero i)⟩, ⟨⟨rfl, rfl, rfl, rfl⟩, fun _ _ => rfl, fun _ _ => rfl, fun _ _ => rfl, fun _ _ => rfl⟩, ⟨by decide, fun q => absurd rfl q⟩, Or.inl ⟨rfl, rfl⟩, ⟨rfl, rfl, fun i hi => absurd hi (Nat.not_lt_zero i)⟩, ⟨rfl, rfl, fun i hi => absurd hi (Nat.not_lt_zero i)⟩, ⟨by decide, by decide⟩, ⟨by decide, by decide, by decide⟩, fun k hk => fa_fill_out (f := fun _ => 46) (g := fun _ => 0) hk⟩
  match i, hi with
  | 0, _ => exact ⟨rfl, by decide, by decide⟩
  | 1, _ => exact ⟨rfl, by decide, by decide⟩
  | 2, _ => exact ⟨rfl, by decide, by decide⟩
  | 3, _ => exact ⟨rfl, by decide, by decide⟩
  | 4, _ => exact ⟨rfl, by decide, by decide⟩
  | k + 5, hk => exact absurd hk (by omega)
theorem REY.start : REY zT0 (fun _ => 0) 0 := ⟨REL.start, by decide, ⟨by decide, by decide⟩, ⟨by decide, by decide⟩, fun i hi => absurd hi (Nat.not_lt_zero i), rfl, rfl⟩
set_option maxHeartbeats 4000000 in
set_option maxRecDepth 100000 in
theorem IV.start {g : zG} {w0 w : zW} {n : Nat} {a pa pa1 pa2 pa3 ta ta1 ta2 taz taz1 taz2 taz3 taz4 taz5 taz6 ta4 ta5 ta6 sa sa1 sa2 saz saz1 saz2 saz3 saz4 saz5 saz6 sa4 sa5 sa6 gs co co1 co2 co3 fu fub fubg fut1 fut2 fut3 la lab labg gy gyg du dug re wm ac m mp mf mh mn mt mz mc_ mq mgr ml mi mr mm mu mk mx o1 o2 : Nat} (h : z_I w0 w n [(a, .inr (11, [.ref pa, .ref ta, .ref sa, .ref gs, .ref co, .ref fu, .ref la, .ref gy, .ref du, .ref re, .ref wm, .ref ac])), (pa, .inr (8, [.ref pa1, .ref pa2, .ref pa3, .int 4])), (pa1, .inl (1, 108, .inl (fa_fill (fun _ => 46) (fun _ => 0) 108))), (pa2, .inl (2, 108, .inl (fun _ => 0))), (pa3, .inl (0, 108, .inl (fun _ => 0))), (ta, .inr (10, [.ref ta1, .ref ta2, .ref taz, .ref ta4, .ref ta5, .ref ta6, .int 0, .int 0])), (ta1, .inl (1, 108, .inl (fa_fill (fun _ => 46) (fun _ => 0) 108))), (ta2, .inl (0, 108, .inl (fun _ => 0))), (taz, .inr (2, [.ref taz1, .ref taz2, .ref taz3, .ref taz4, .ref taz5, .ref taz6, .int 0])), (taz1, .inl (0, 108, .inl (fun _ => 0))), (taz2, .inl (0, 108, .inl (fun _ => 0))), (taz3, .inl (0, 108, .inl (fun _ => 0))), (taz4, .inl (0, 108, .inl (fun _ => 0))), (taz5, .inl (0, 108, .inl (fun _ => 0))), (taz6, .inl (0, 108, .inl (fun _ => 0))), (ta4, .inl (2, 108, .inl (fun _ => 0))), (ta5, .inl (2, 108, .inl (fun _ => 0))), (ta6, .inl (0, 108, .inl (fun _ => 0))), (sa, .inr (10, [.ref sa1, .ref sa2, .ref saz, .ref sa4, .ref sa5, .ref sa6, .int 0, .int 0])), (sa1, .inl (1, 108, .inl (fa_fill (fun _ => 46) (fun _ => 0) 108))), (sa2, .inl (0, 108, .inl (fun _ => 0))), (saz, .inr (2, [.ref saz1, .ref saz2, .ref saz3, .ref saz4, .ref saz5, .ref saz6, .int 0])), (saz1, .inl (0, 108, .inl (fun _ => 0))), (saz2, .inl (0, 108, .inl (fun _ => 0))), (saz3, .inl (0, 108, .inl (fun _ => 0))), (saz4, .inl (0, 108, .inl (fun _ => 0))), (saz5, .inl (0, 108, .inl (fun _ => 0))), (saz6, .inl (0, 108, .inl (fun _ => 0))), (sa4, .inl (2, 108, .inl (fun _ => 0))), (sa5, .inl (2, 108, .inl (fun _ => 0))), (sa6, .inl (0, 108, .inl (fun _ => 0))), (gs, .inr (4, [.int 80, .int 35, .int 30, .int 50, .int 0])), (co, .inr (1, [.ref co1, .ref co2, .ref co3, .int 0])), (co1, .inl (0, 20, .inl (fun _ => 0))), (co2, .inl (0, 20, .inl (fun _ => 0))), (co3, .inl (0, 20, .inl (fun _ => 0))), (fu, .inr (3, [.ref fub, .ref fut1, .ref fut2, .ref fut3, .long 0])), (fub, .inr (6, [.ref fubg, .int 0])), (fubg, .inl (3, 4, .inr (.inl (fun _ => 0)))), (fut1, .inl (3, 4, .inr (.inl (fun _ => 0)))), (fut2, .inl (3, 4, .inr (.inl (fun _ => 0)))), (fut3, .inl (3, 4, .inr (.inl (fun _ => 0)))), (la, .inr (5, [.ref lab, .int 0, .int 0, .int 0])), (lab, .inr (6, [.ref labg, .int 0])), (labg, .inl (3, 4, .inr (.inl (fun _ => 0)))), (gy, .inr (6, [.ref gyg, .int 0])), (gyg, .inl (3, 4, .inr (.inl (fun _ => 0)))), (du, .inr (6, [.ref dug, .int 0])), (dug, .inl (3, 4, .inr (.inl (fun _ => 0)))), (re, .inr (9, [.int 0, .int 0, .int 0])), (wm, .inr (13, [.int 0, .ref (g.2.2 4), .int 0])), (ac, .inr (13, [.int 0, .ref (g.2.2 4), .int 0])), (m, .inr (12, [.int 0, .ref mp, .int 4, .ref mf, .ref mh, .ref mn, .ref mt, .ref mz, .ref mc_, .ref mq, .ref mgr, .int 80, .int 35, .int 30, .int 50, .int 0, .int 0, .ref ml, .ref mi, .ref mr, .int 0, .int 0, .int 0, .int (-1), .int 0, .ref mm, .ref mu, .ref mk, .ref mx, .long 0, .long 0])), (mp, .inl (1, 108, .inl (fa_fill (fun _ => 46) (fun _ => 0) 108))), (mf, .inl (0, 108, .inl (fun _ => 0))), (mh, .inl (0, 108, .inl (fun _ => 0))), (mn, .inl (0, 108, .inl (fun _ => 0))), (mt, .inl (0, 108, .inl (fun _ => 0))), (mz, .inl (0, 108, .inl (fun _ => 0))), (mc_, .inl (2, 108, .inl (fun _ => 0))), (mq, .inl (0, 108, .inl (fun _ => 0))), (mgr, .inl (0, 108, .inl (fun _ => 0))), (ml, .inr (13, [.int 0, .ref (g.2.2 4), .int 0])), (mi, .inl (0, 4, .inl (fun _ => 0))), (mr, .inl (3, 16, .inr (.inl (fun _ => 0)))), (mm, .inr (13, [.int 0, .ref (g.2.2 4), .int 0])), (mu, .inr (13, [.int 0, .ref (g.2.2 4), .int 0])), (mk, .inr (13, [.int 0, .ref (g.2.2 4), .int 0])), (mx, .inr (13, [.int 0, .ref (g.2.2 4), .int 0])), (o1, .inl (3, 1, .inr (.inl (fun _ => 0)))), (o2, .inl (4, 1, .inr (.inr (.inr (.inl (fun _ => 0))))))]) : IV g (fun i => ([a, pa, pa1, pa2, pa3, ta, ta1, ta2, taz, taz1, taz2, taz3, taz4, taz5, taz6, ta4, ta5, ta6, sa, sa1, sa2, saz, saz1, saz2, saz3, saz4, saz5, saz6, sa4, sa5, sa6, gs, co, co1, co2, co3, fu, fub, fubg, fut1, fut2, fut3, la, lab, labg, gy, gyg, du, dug, re, wm, ac, m, mp, mf, mh, mn, mt, mz, mc_, mq, mgr, ml, mi, mr, mm, mu, mk, mx, o1, o2] : List Nat).getD i 0) zT0 (fun _ => 0, fun _ => none, fun _ _ => 0) w := by
  refine ⟨⟨fun i j hi hj e => z_adI h.2.2.1 hi hj e, fun i hi => ?_⟩, ⟨fun L hL => ?_, fun L hL k hk => absurd hk (Nat.not_lt_zero k), ⟨fun L1 L2 _ _ q h1 _ => (by cases h1), fun L hL j k hj => absurd hj (Nat.not_lt_zero j)⟩, by decide, by decide, by decide, by decide, rfl, by decide, rfl⟩, z_fp_ch, z_fp_ch, ⟨by decide, by decide⟩, ⟨by decide, by decide⟩⟩
  · match i, hi with
    | 0, _ => exact ⟨_, h.at (q0 := 0) rfl, kd_0.mpr rfl⟩
    | 1, _ => exact ⟨_, h.at (q0 := 1) rfl, kd_1.mpr rfl⟩
    | 2, _ => exact ⟨_, h.at (q0 := 2) rfl, kd_2.mpr rfl⟩
    | 3, _ => exact ⟨_, h.at (q0 := 3) rfl, kd_3.mpr ⟨_, rfl⟩⟩
    | 4, _ => exact ⟨_, h.at (q0 := 4) rfl, kd_4.mpr ⟨_, rfl⟩⟩
    | 5, _ => exact ⟨_, h.at (q0 := 5) rfl, kd_5.mpr rfl⟩
    | 6, _ => exact ⟨_, h.at (q0 := 6) rfl, kd_6.mpr rfl⟩
    | 7, _ => exact ⟨_, h.at (q0 := 7) rfl, kd_7.mpr rfl⟩
    | 8, _ => exact ⟨_, h.at (q0 := 8) rfl, kd_8.mpr rfl⟩
    | 9, _ => exact ⟨_, h.at (q0 := 9) rfl, kd_9.mpr rfl⟩
    | 10, _ => exact ⟨_, h.at (q0 := 10) rfl, kd_10.mpr rfl⟩
    | 11, _ => exact ⟨_, h.at (q0 := 11) rfl, kd_11.mpr rfl⟩
    | 12, _ => exact ⟨_, h.at (q0 := 12) rfl, kd_12.mpr rfl⟩
    | 13, _ => exact ⟨_, h.at (q0 := 13) rfl, kd_13.mpr rfl⟩
    | 14, _ => exact ⟨_, h.at (q0 := 14) rfl, kd_14.mpr rfl⟩
    | 15, _ => exact ⟨_, h.at (q0 := 15) rfl, kd_15.mpr ⟨(fun _ _ => Or.inl rfl), rfl⟩⟩
    | 16, _ => exact ⟨_, h.at (q0 := 16) rfl, kd_16.mpr rfl⟩
    | 17, _ => exact ⟨_, h.at (q0 := 17) rfl, kd_17.mpr rfl⟩
    | 18, _ => exact ⟨_, h.at (q0 := 18) rfl, kd_18.mpr ⟨_, _, rfl⟩⟩
    | 19, _ => exact ⟨_, h.at (q0 := 19) rfl, kd_19.mpr ⟨_, rfl⟩⟩
    | 20, _ => exact ⟨_, h.at (q0 := 20) rfl, kd_20.mpr ⟨_, rfl⟩⟩
    | 21, _ => exact ⟨_, h.at (q0 := 21) rfl, kd_21.mpr ⟨_, rfl⟩⟩
    | 22, _ => exact ⟨_, h.at (q0 := 22) rfl, kd_22.mpr ⟨_, rfl⟩⟩
    | 23, _ => exact ⟨_, h.at (q0 := 23) rfl, kd_23.mpr ⟨_, rfl⟩⟩
    | 24, _ => exact ⟨_, h.at (q0 := 24) rfl, kd_24.mpr ⟨_, rfl⟩⟩
    | 25, _ => exact ⟨_, h.at (q0 := 25) rfl, kd_25.mpr ⟨_, rfl⟩⟩
    | 26, _ => exact ⟨_, h.at (q0 := 26) rfl, kd_26.mpr ⟨_, rfl⟩⟩
    | 27, _ => exact ⟨_, h.at (q0 := 27) rfl, kd_27.mpr ⟨_, rfl⟩⟩
    | 28, _ => exact ⟨_, h.at (q0 := 28) rfl, kd_28.mpr ⟨_, rfl⟩⟩
    | 29, _ => exact ⟨_, h.at (q0 := 29) rfl, kd_29.mpr ⟨_, rfl⟩⟩
    | 30, _ => exact ⟨_, h.at (q0 := 30) rfl, kd_30.mpr ⟨_, rfl⟩⟩
    | 31, _ => exact ⟨_, h.at (q0 := 31) rfl, kd_31.mpr rfl⟩
    | 32, _ => exact ⟨_, h.at (q0 := 32) rfl, kd_32.mpr ⟨(Nat.zero_le 20), rfl⟩⟩
    | 33, _ => exact ⟨_, h.at (q0 := 33) rfl, kd_33.mpr rfl⟩
    | 34, _ => exact ⟨_, h.at (q0 := 34) rfl, kd_34.mpr rfl⟩
    | 35, _ => exact ⟨_, h.at (q0 := 35) rfl, kd_35.mpr rfl⟩
    | 36, _ => exact ⟨_, h.at (q0 := 36) rfl, kd_36.mpr rfl⟩
    | 37, _ => exact ⟨_, h.at (q0 := 37) rfl, kd_37.mpr rfl⟩
    | 38, _ => exact ⟨_, h.at (q0 := 38) rfl, kd_38.mpr rfl⟩
    | 39, _ => exact ⟨_, h.at (q0 := 39) rfl, kd_39.mpr rfl⟩
    | 40, _ => exact ⟨_, h.at (q0 := 40) rfl, kd_40.mpr rfl⟩
    | 41, _ => exact ⟨_, h.at (q0 := 41) rfl, kd_41.mpr rfl⟩
    | 42, _ => exact ⟨_, h.at (q0 := 42) rfl, kd_42.mpr ⟨(Or.inl rfl), rfl⟩⟩
    | 43, _ => exact ⟨_, h.at (q0 := 43) rfl, kd_43.mpr ⟨(by decide), rfl⟩⟩
    | 44, _ => exact ⟨_, h.at (q0 := 44) rfl, kd_44.mpr rfl⟩
    | 45, _ => exact ⟨_, h.at (q0 := 45) rfl, kd_45.mpr rfl⟩
    | 46, _ => exact ⟨_, h.at (q0 := 46) rfl, kd_46.mpr rfl⟩
    | 47, _ => exact ⟨_, h.at (q0 := 47) rfl, kd_47.mpr rfl⟩
    | 48, _ => exact ⟨_, h.at (q0 := 48) rfl, kd_48.mpr rfl⟩
    | 49, _ => exact ⟨_, h.at (q0 := 49) rfl, kd_49.mpr rfl⟩
    | 50, _ => exact ⟨_, h.at (q0 := 50) rfl, kd_50.mpr ⟨_, _, _, rfl⟩⟩
    | 51, _ => exact ⟨_, h.at (q0 := 51) rfl, kd_51.mpr ⟨_, _, _, rfl⟩⟩
    | 52, _ => exact ⟨_, h.at (q0 := 52) rfl, kd_52.mpr ⟨_, rfl⟩⟩
    | 53, _ => exact ⟨_, h.at (q0 := 53) rfl, kd_53.mpr rfl⟩
    | 54, _ => exact ⟨_, h.at (q0 := 54) rfl, kd_54.mpr ⟨_, rfl⟩⟩
    | 55, _ => exact ⟨_, h.at (q0 := 55) rfl, kd_55.mpr ⟨_, rfl⟩⟩
    | 56, _ => exact ⟨_, h.at (q0 := 56) rfl, kd_56.mpr ⟨_, rfl⟩⟩
    | 57, _ => exact ⟨_, h.at (q0 := 57) rfl, kd_57.mpr ⟨_, rfl⟩⟩
    | 58, _ => exact ⟨_, h.at (q0 := 58) rfl, kd_58.mpr ⟨_, rfl⟩⟩
    | 59, _ => exact ⟨_, h.at (q0 := 59) rfl, kd_59.mpr ⟨_, rfl⟩⟩
    | 60, _ => exact ⟨_, h.at (q0 := 60) rfl, kd_60.mpr ⟨_, rfl⟩⟩
    | 61, _ => exact ⟨_, h.at (q0 := 61) rfl, kd_61.mpr ⟨_, rfl⟩⟩
    | 62, _ => exact ⟨_, h.at (q0 := 62) rfl, kd_62.mpr ⟨_, _, _, rfl⟩⟩
    | 63, _ => exact ⟨_, h.at (q0 := 63) rfl, kd_63.mpr rfl⟩
    | 64, _ => exact ⟨_, h.at (q0 := 64) rfl, kd_64.mpr rfl⟩
    | 65, _ => exact ⟨_, h.at (q0 := 65) rfl, kd_65.mpr ⟨_, _, _, rfl⟩⟩
    | 66, _ => exact ⟨_, h.at (q0 := 66) rfl, kd_66.mpr ⟨_, _, _, rfl⟩⟩
    | 67, _ => exact ⟨_, h.at (q0 := 67) rfl, kd_67.mpr ⟨_, _, _, rfl⟩⟩
    | 68, _ => exact ⟨_, h.at (q0 := 68) rfl, kd_68.mpr ⟨_, _, _, rfl⟩⟩
    | 69, _ => exact ⟨_, h.at (q0 := 69) rfl, kd_69.mpr rfl⟩
    | 70, _ => exact ⟨_, h.at (q0 := 70) rfl, kd_70.mpr ⟨_, rfl⟩⟩
    | i + 71, hi => exact absurd hi (by omega)
  · match L, hL with
    | 0, _ => exact ⟨_, _, h.at (q0 := 50) rfl, Or.inl ⟨rfl, rfl, rfl⟩⟩
    | 1, _ => exact ⟨_, _, h.at (q0 := 51) rfl, Or.inl ⟨rfl, rfl, rfl⟩⟩
    | 2, _ => exact ⟨_, _, h.at (q0 := 62) rfl, Or.inl ⟨rfl, rfl, rfl⟩⟩
    | 3, _ => exact ⟨_, _, h.at (q0 := 65) rfl, Or.inl ⟨rfl, rfl, rfl⟩⟩
    | 4, _ => exact ⟨_, _, h.at (q0 := 66) rfl, Or.inl ⟨rfl, rfl, rfl⟩⟩
    | 5, _ => exact ⟨_, _, h.at (q0 := 67) rfl, Or.inl ⟨rfl, rfl, rfl⟩⟩
    | 6, _ => exact ⟨_, _, h.at (q0 := 68) rfl, Or.inl ⟨rfl, rfl, rfl⟩⟩
    | L + 7, hL => exact absurd hL (by omega)
theorem d_Lw_law_28 : decode code 28 = .ok (.iload 5, 2) := zo_21 (d := 5) (zd_b zq_code_0 28 rfl rfl rfl) (zd_b zq_code_0 29 rfl rfl rfl)
theorem d_Lw_law_30 : decode code 30 = .ok (.aload_n 0, 1) := zo_42 (zd_b zq_code_0 30 rfl rfl rfl)
theorem d_Lw_law_31 : decode code 31 = .ok (.arraylength, 1) := zo_190 (zd_b zq_code_0 31 rfl rfl rfl)
theorem d_Lw_law_32 : decode code 32 = .ok (.bipush 7, 2) := zo_16 (d := 7) (zd_b zq_code_1 0 rfl rfl rfl) (zd_b zq_code_1 1 rfl rfl rfl) (by decide +kernel)
theorem d_Lw_law_34 : decode code 34 = .ok (.isub, 1) := zo_100 (zd_b zq_code_1 2 rfl rfl rfl)
theorem d_Lw_law_35 : decode code 35 = .ok (.if_icmp .gt 1779, 3) := zo_163 (d := 6) (e := 243) (zd_b zq_code_1 3 rfl rfl rfl) (zd_b zq_code_1 4 rfl rfl rfl) (zd_b zq_code_1 5 rfl rfl rfl) (by decide +kernel)
theorem d_Lw_law_1814 : decode code 1814 = .ok (.iconst 1, 1) := zo_4 (zd_b zq_code_56 22 rfl rfl rfl)
theorem d_Lw_law_1815 : decode code 1815 = .ok (.ireturn, 1) := zo_172 (zd_b zq_code_56 23 rfl rfl rfl)
theorem d_Lw_law_38 : decode code 38 = .ok (.aload_n 0, 1) := zo_42 (zd_b zq_code_1 6 rfl rfl rfl)
theorem d_Lw_law_39 : decode code 39 = .ok (.iload 5, 2) := zo_21 (d := 5) (zd_b zq_code_1 7 rfl rfl rfl) (zd_b zq_code_1 8 rfl rfl rfl)
theorem d_Lw_law_41 : decode code 41 = .ok (.iaload, 1) := zo_46 (zd_b zq_code_1 9 rfl rfl rfl)
theorem d_Lw_law_42 : decode code 42 = .ok (.bipush 63, 2) := zo_16 (d := 63) (zd_b zq_code_1 10 rfl rfl rfl) (zd_b zq_code_1 11 rfl rfl rfl) (by decide +kernel)
theorem d_Lw_law_44 : decode code 44 = .ok (.iand, 1) := zo_126 (zd_b zq_code_1 12 rfl rfl rfl)
set_option maxHeartbeats 4000000 in
set_option maxRecDepth 100000 in
theorem LW_head {g : zG} {ad : Nat → Nat} {t : zTT} {u : zNN} {w : zW} (hI : IVm g ad t u w) {j kc ks : Nat} (hj : 7 * j ≤ g.2.2 41) (hL : g.2.2 41 ≤ 3584) (hk : 7 * j + 7 ≤ g.2.2 41 → DW g M_Lw_law lwQ w 45 [(5, .int (nI (7 * j))), (4, .ref (ad 70)), (3, .ref (ad 69)), (2, .ref (ad 52)), (1, .ref (ad 0)), (0, .ref (g.2.2 40))] [.int (zs g (7 * j) &&& 63)] kc ks) : DW g M_Lw_law lwQ w 28 [(5, .int (nI (7 * j))), (4, .ref (ad 70)), (3, .ref (ad 69)), (2, .ref (ad 52)), (1, .ref (ad 0)), (0, .ref (g.2.2 40))] [] kc ks := by
  refine y_base (cs := []) (z_I.nil w) ?_
  refine y_iload d_Lw_law_28 0 rfl ?_
  refine y_aload_n d_Lw_law_30 rfl 5 rfl ?_
  refine y_slen (v := nI (g.2.2 41)) d_Lw_law_31 rfl ?_
  refine y_bipush d_Lw_law_32 (v := 7) (by decide) ?_
  refine y_isub d_Lw_law_34 (v := nI (g.2.2 41) - 7) rfl ?_
  refine y_icmp_gt (tgt := 1814) d_Lw_law_35 (by decide) (fun c_35 => ?_) (fun c_35 => ?_)
  · refine y_iconst d_Lw_law_1814 (v := 1) (by decide) ?_
    refine y_iret d_Lw_law_1815 rfl rfl ?_
    exact fun w1 h1 => rfl
  · have hJ : 7 * j + 7 ≤ g.2.2 41 := Classical.byContradiction (fun q => c_35 (z_shl q (by omega) (by omega)))
    refine y_aload_n d_Lw_law_38 rfl 5 rfl ?_
    refine y_iload d_Lw_law_39 0 rfl ?_
    refine y_sld (v := zs g (7 * j)) d_Lw_law_41 (vp_in_nI (by omega) (by omega)) (by rw [nI_clamp (by omega)]; rfl) ?_
    refine y_bipush d_Lw_law_42 (v := 63) (by decide) ?_
    refine y_iand d_Lw_law_44 (v := zs g (7 * j) &&& 63) rfl ?_
    refine y_end (fun wC hC => ?_)
    obtain rfl := z_I.same (z_I.nil _) hC
    exact hk hJ
theorem LW_loop {g : zG} {ad : Nat → Nat} (hL : g.2.2 41 ≤ 3584) : ∀ (r j : Nat), g.2.2 41 < 7 * j + 7 * r + 7 → 7 * j ≤ g.2.2 41 → ∀ (t : zTT) (u : zNN) (w : zW), IVm g ad t u w → REY t u.1 (48 * j) → DW g M_Lw_law lwQ w 28 [(5, .int (nI (7 * j))), (4, .ref (ad 70)), (3, .ref (ad 69)), (2, .ref (ad 52)), (1, .ref (ad 0)), (0, .ref (g.2.2 40))] [] (100 * r) (1000 * r) := by
  intro r
  induction r with
  | zero => exact fun j h1 h2 t u w hI hR => LW_head hI h2 hL (fun hJ => absurd hJ (by omega))
  | succ r ih => exact fun j h1 h2 t u w hI hR => LW_head hI h2 hL (fun hJ => LW_sw hI hR hJ hL (ih (j + 1) (by omega) (by omega)))
theorem d_Lw_law_0 : decode code 0 = .ok (.new 8, 3) := zo_187 (d := 0) (e := 8) (zd_b zq_code_0 0 rfl rfl rfl) (zd_b zq_code_0 1 rfl rfl rfl) (zd_b zq_code_0 2 rfl rfl rfl)
theorem nc_Lw_8 : z_nc "IronpourLaw" 8 11 12 [.null, .null, .null, .null, .null, .null, .null, .null, .null, .null, .null, .null] := ⟨R_Ip, F_Ip, t_Ip, rfl, u_Ip, t_Ip_ok, z_mj1 (i := 38) rfl (by decide +kernel), z_mj1 (i := 39) rfl (by decide +kernel), z_mj1 (i := 1) rfl (by decide +kernel), by decide +kernel⟩
theorem d_Lw_law_3 : decode code 3 = .ok (.dup, 1) := zo_89 (zd_b zq_code_0 3 rfl rfl rfl)
theorem d_Lw_law_4 : decode code 4 = .ok (.invokespecial 165, 3) := zo_183 (d := 0) (e := 165) (zd_b zq_code_0 4 rfl rfl rfl) (zd_b zq_code_0 5 rfl rfl rfl) (zd_b zq_code_0 6 rfl rfl rfl)
theorem ok_Lw_law_Ip_init : z_ok M_Lw_law M_Ip_init 0 := ⟨z_mj1 (i := 42) rfl (by decide +kernel), rfl, ⟨by decide +kernel, by decide +kernel, by decide +kernel⟩, ⟨by decide, by decide⟩, z_mj1 (i := 1) rfl (by decide +kernel), rfl⟩
theorem ln_Lw_165 : Cond.methodLink "IronpourLaw" 165 M_Ip_init.1 ∈ z_gw := z_mj1 (i := 40) rfl (by decide +kernel)
theorem w_im_Ip_init : Cond.instanceMethod M_Ip_init.1 ∈ z_gw := z_mj1 (i := 41) rfl (by decide +kernel)
theorem d_Lw_law_7 : decode code 7 = .ok (.astore_n 1, 1) := zo_76 (zd_b zq_code_0 7 rfl rfl rfl)
theorem d_Lw_law_8 : decode code 8 = .ok (.new 166, 3) := zo_187 (d := 0) (e := 166) (zd_b zq_code_0 8 rfl rfl rfl) (zd_b zq_code_0 9 rfl rfl rfl) (zd_b zq_code_0 10 rfl rfl rfl)
theorem nc_Lw_166 : z_nc "IronpourLaw" 166 12 31 [.int 0, .null, .int 0, .null, .null, .null, .null, .null, .null, .null, .null, .int 0, .int 0, .int 0, .int 0, .int 0, .int 0, .null, .null, .null, .int 0, .int 0, .int 0, .int 0, .int 0, .null, .null, .null, .null, .long 0, .long 0] := ⟨R_Mm, F_Mm, t_Mm, rfl, u_Mm, t_Mm_ok, z_mj7 (i := 75) rfl (by decide +kernel), z_mj7 (i := 76) rfl (by decide +kernel), z_mj1 (i := 14) rfl (by decide +kernel), by decide +kernel⟩
theorem d_Lw_law_11 : decode code 11 = .ok (.dup, 1) := zo_89 (zd_b zq_code_0 11 rfl rfl rfl)
theorem d_Lw_law_12 : decode code 12 = .ok (.invokespecial 168, 3) := zo_183 (d := 0) (e := 168) (zd_b zq_code_0 12 rfl rfl rfl) (zd_b zq_code_0 13 rfl rfl rfl) (zd_b zq_code_0 14 rfl rfl rfl)
theorem ok_Lw_law_Mm_init : z_ok M_Lw_law M_Mm_init 0 := ⟨z_mj7 (i := 79) rfl (by decide +kernel), rfl, ⟨by decide +kernel, by decide +kernel, by decide +kernel⟩, ⟨by decide, by decide⟩, z_mj1 (i := 14) rfl (by decide +kernel), rfl⟩
theorem ln_Lw_168 : Cond.methodLink "IronpourLaw" 168 M_Mm_init.1 ∈ z_gw := z_mj7 (i := 77) rfl (by decide +kernel)
theorem w_im_Mm_init : Cond.instanceMethod M_Mm_init.1 ∈ z_gw := z_mj7 (i := 78) rfl (by decide +kernel)
theorem d_Lw_law_15 : decode code 15 = .ok (.astore_n 2, 1) := zo_77 (zd_b zq_code_0 15 rfl rfl rfl)
theorem d_Lw_law_16 : decode code 16 = .ok (.iconst 1, 1) := zo_4 (zd_b zq_code_0 16 rfl rfl rfl)
theorem d_Lw_law_17 : decode code 17 = .ok (.newarray .long, 2) := by decide +kernel
theorem d_Lw_law_19 : decode code 19 = .ok (.astore_n 3, 1) := zo_78 (zd_b zq_code_0 19 rfl rfl rfl)
theorem d_Lw_law_20 : decode code 20 = .ok (.iconst 1, 1) := zo_4 (zd_b zq_code_0 20 rfl rfl rfl)
theorem d_Lw_law_21 : decode code 21 = .ok (.newarray .double, 2) := by decide +kernel
theorem ac_double : Cond.arrayClass .double ∈ z_gw := z_mj9 (i := 80) rfl (by decide +kernel)
theorem d_Lw_law_23 : decode code 23 = .ok (.astore 4, 2) := zo_58 (d := 4) (zd_b zq_code_0 23 rfl rfl rfl) (zd_b zq_code_0 24 rfl rfl rfl)
theorem d_Lw_law_25 : decode code 25 = .ok (.iconst 0, 1) := zo_3 (zd_b zq_code_0 25 rfl rfl rfl)
theorem d_Lw_law_26 : decode code 26 = .ok (.istore 5, 2) := zo_54 (d := 5) (zd_b zq_code_0 26 rfl rfl rfl) (zd_b zq_code_0 27 rfl rfl rfl)
set_option maxHeartbeats 4000000 in
set_option maxRecDepth 100000 in
theorem LW_start {g : zG} {w : zW} {r : Nat} (hL : g.2.2 41 ≤ 3584) (hr : g.2.2 41 < 7 * r + 7) : DW g M_Lw_law lwQ w 0 [(0, .ref (g.2.2 40))] [] (184 + 100 * r) (5400 + 1000 * r) := by
  refine y_base (cs := []) (z_I.nil w) ?_
  refine y_new nc_Lw_8 d_Lw_law_0 (by omega) (by omega) (fun a => ?_)
  refine y_cs (cs2 := [(a, .inr (11, [.null, .null, .null, .null, .null, .null, .null, .null, .null, .null, .null, .null]))]) rfl ?_
  refine y_dup d_Lw_law_3 rfl ?_
  refine y_callI (As := []) (rest := [.ref a]) (csC := [(a, .inr (11, [.null, .null, .null, .null, .null, .null, .null, .null, .null, .null, .null, .null]))]) (is := [0]) rfl rfl ln_Lw_165 w_im_Ip_init ok_Lw_law_Ip_init d_Lw_law_4 (C_Ip_init g a) rfl rfl (Nat.le_of_ble_eq_true rfl) rfl (by decide) (by omega) (by omega) (fun E cs1 hx => ?_) (fun v cs1 hx => ?_)
  · refine Exists.elim hx (fun pa hx => Exists.elim hx (fun pa1 hx => Exists.elim hx (fun pa2 hx => Exists.elim hx (fun pa3 hx => Exists.elim hx (fun ta hx => Exists.elim hx (fun ta1 hx => Exists.elim hx (fun ta2 hx => Exists.elim hx (fun taz hx => Exists.elim hx (fun taz1 hx => Exists.elim hx (fun taz2 hx => Exists.elim hx (fun taz3 hx => Exists.elim hx (fun taz4 hx => Exists.elim hx (fun taz5 hx => Exists.elim hx (fun taz6 hx => Exists.elim hx (fun ta4 hx => Exists.elim hx (fun ta5 hx => Exists.elim hx (fun ta6 hx => Exists.elim hx (fun sa hx => Exists.elim hx (fun sa1 hx => Exists.elim hx (fun sa2 hx => Exists.elim hx (fun saz hx => Exists.elim hx (fun saz1 hx => Exists.elim hx (fun saz2 hx => Exists.elim hx (fun saz3 hx => Exists.elim hx (fun saz4 hx => Exists.elim hx (fun saz5 hx => Exists.elim hx (fun saz6 hx => Exists.elim hx (fun sa4 hx => Exists.elim hx (fun sa5 hx => Exists.elim hx (fun sa6 hx => Exists.elim hx (fun gs hx => Exists.elim hx (fun co hx => Exists.elim hx (fun co1 hx => Exists.elim hx (fun co2 hx => Exists.elim hx (fun co3 hx => Exists.elim hx (fun fu hx => Exists.elim hx (fun fub hx => Exists.elim hx (fun fubg hx => Exists.elim hx (fun fut1 hx => Exists.elim hx (fun fut2 hx => Exists.elim hx (fun fut3 hx => Exists.elim hx (fun la hx => Exists.elim hx (fun lab hx => Exists.elim hx (fun labg hx => Exists.elim hx (fun gy hx => Exists.elim hx (fun gyg hx => Exists.elim hx (fun du hx => Exists.elim hx (fun dug hx => Exists.elim hx (fun re hx => Exists.elim hx (fun wm hx => Exists.elim hx (fun ac hx => ?_)))))))))))))))))))))))))))))))))))))))))))))))))))
    obtain ⟨e1, -⟩ := hx
    cases e1
  · refine Exists.elim hx (fun pa hx => Exists.elim hx (fun pa1 hx => Exists.elim hx (fun pa2 hx => Exists.elim hx (fun pa3 hx => Exists.elim hx (fun ta hx => Exists.elim hx (fun ta1 hx => Exists.elim hx (fun ta2 hx => Exists.elim hx (fun taz hx => Exists.elim hx (fun taz1 hx => Exists.elim hx (fun taz2 hx => Exists.elim hx (fun taz3 hx => Exists.elim hx (fun taz4 hx => Exists.elim hx (fun taz5 hx => Exists.elim hx (fun taz6 hx => Exists.elim hx (fun ta4 hx => Exists.elim hx (fun ta5 hx => Exists.elim hx (fun ta6 hx => Exists.elim hx (fun sa hx => Exists.elim hx (fun sa1 hx => Exists.elim hx (fun sa2 hx => Exists.elim hx (fun saz hx => Exists.elim hx (fun saz1 hx => Exists.elim hx (fun saz2 hx => Exists.elim hx (fun saz3 hx => Exists.elim hx (fun saz4 hx => Exists.elim hx (fun saz5 hx => Exists.elim hx (fun saz6 hx => Exists.elim hx (fun sa4 hx => Exists.elim hx (fun sa5 hx => Exists.elim hx (fun sa6 hx => Exists.elim hx (fun gs hx => Exists.elim hx (fun co hx => Exists.elim hx (fun co1 hx => Exists.elim hx (fun co2 hx => Exists.elim hx (fun co3 hx => Exists.elim hx (fun fu hx => Exists.elim hx (fun fub hx => Exists.elim hx (fun fubg hx => Exists.elim hx (fun fut1 hx => Exists.elim hx (fun fut2 hx => Exists.elim hx (fun fut3 hx => Exists.elim hx (fun la hx => Exists.elim hx (fun lab hx => Exists.elim hx (fun labg hx => Exists.elim hx (fun gy hx => Exists.elim hx (fun gyg hx => Exists.elim hx (fun du hx => Exists.elim hx (fun dug hx => Exists.elim hx (fun re hx => Exists.elim hx (fun wm hx => Exists.elim hx (fun ac hx => ?_)))))))))))))))))))))))))))))))))))))))))))))))))))
    obtain ⟨e1, rfl⟩ := hx
    cases e1
    refine ⟨rfl, ?_⟩
    refine y_st (st2 := [.ref a]) rfl ?_
    refine y_cs (cs2 := [(a, .inr (11, [.ref pa, .ref ta, .ref sa, .ref gs, .ref co, .ref fu, .ref la, .ref gy, .ref du, .ref re, .ref wm, .ref ac])), (pa, .inr (8, [.ref pa1, .ref pa2, .ref pa3, .int 4])), (pa1, .inl (1, 108, .inl (fa_fill (fun _ => 46) (fun _ => 0) 108))), (pa2, .inl (2, 108, .inl (fun _ => 0))), (pa3, .inl (0, 108, .inl (fun _ => 0))), (ta, .inr (10, [.ref ta1, .ref ta2, .ref taz, .ref ta4, .ref ta5, .ref ta6, .int 0, .int 0])), (ta1, .inl (1, 108, .inl (fa_fill (fun _ => 46) (fun _ => 0) 108))), (ta2, .inl (0, 108, .inl (fun _ => 0))), (taz, .inr (2, [.ref taz1, .ref taz2, .ref taz3, .ref taz4, .ref taz5, .ref taz6, .int 0])), (taz1, .inl (0, 108, .inl (fun _ => 0))), (taz2, .inl (0, 108, .inl (fun _ => 0))), (taz3, .inl (0, 108, .inl (fun _ => 0))), (taz4, .inl (0, 108, .inl (fun _ => 0))), (taz5, .inl (0, 108, .inl (fun _ => 0))), (taz6, .inl (0, 108, .inl (fun _ => 0))), (ta4, .inl (2, 108, .inl (fun _ => 0))), (ta5, .inl (2, 108, .inl (fun _ => 0))), (ta6, .inl (0, 108, .inl (fun _ => 0))), (sa, .inr (10, [.ref sa1, .ref sa2, .ref saz, .ref sa4, .ref sa5, .ref sa6, .int 0, .int 0])), (sa1, .inl (1, 108, .inl (fa_fill (fun _ => 46) (fun _ => 0) 108))), (sa2, .inl (0, 108, .inl (fun _ => 0))), (saz, .inr (2, [.ref saz1, .ref saz2, .ref saz3, .ref saz4, .ref saz5, .ref saz6, .int 0])), (saz1, .inl (0, 108, .inl (fun _ => 0))), (saz2, .inl (0, 108, .inl (fun _ => 0))), (saz3, .inl (0, 108, .inl (fun _ => 0))), (saz4, .inl (0, 108, .inl (fun _ => 0))), (saz5, .inl (0, 108, .inl (fun _ => 0))), (saz6, .inl (0, 108, .inl (fun _ => 0))), (sa4, .inl (2, 108, .inl (fun _ => 0))), (sa5, .inl (2, 108, .inl (fun _ => 0))), (sa6, .inl (0, 108, .inl (fun _ => 0))), (gs, .inr (4, [.int 80, .int 35, .int 30, .int 50, .int 0])), (co, .inr (1, [.ref co1, .ref co2, .ref co3, .int 0])), (co1, .inl (0, 20, .inl (fun _ => 0))), (co2, .inl (0, 20, .inl (fun _ => 0))), (co3, .inl (0, 20, .inl (fun _ => 0))), (fu, .inr (3, [.ref fub, .ref fut1, .ref fut2, .ref fut3, .long 0])), (fub, .inr (6, [.ref fubg, .int 0])), (fubg, .inl (3, 4, .inr (.inl (fun _ => 0)))), (fut1, .inl (3, 4, .inr (.inl (fun _ => 0)))), (fut2, .inl (3, 4, .inr (.inl (fun _ => 0)))), (fut3, .inl (3, 4, .inr (.inl (fun _ => 0)))), (la, .inr (5, [.ref lab, .int 0, .int 0, .int 0])), (lab, .inr (6, [.ref labg, .int 0])), (labg, .inl (3, 4, .inr (.inl (fun _ => 0)))), (gy, .inr (6, [.ref gyg, .int 0])), (gyg, .inl (3, 4, .inr (.inl (fun _ => 0)))), (du, .inr (6, [.ref dug, .int 0])), (dug, .inl (3, 4, .inr (.inl (fun _ => 0)))), (re, .inr (9, [.int 0, .int 0, .int 0])), (wm, .inr (13, [.int 0, .ref (g.2.2 4), .int 0])), (ac, .inr (13, [.int 0, .ref (g.2.2 4), .int 0]))]) rfl ?_
    refine y_astore_n (lv' := [(1, .ref a), (0, .ref (g.2.2 40))]) d_Lw_law_7 rfl (by decide) rfl ?_
    refine y_new nc_Lw_166 d_Lw_law_8 (by omega) (by omega) (fun m => ?_)
    refine y_cs (cs2 := [(a, .inr (11, [.ref pa, .ref ta, .ref sa, .ref gs, .ref co, .ref fu, .ref la, .ref gy, .ref du, .ref re, .ref wm, .ref ac])), (pa, .inr (8, [.ref pa1, .ref pa2, .ref pa3, .int 4])), (pa1, .inl (1, 108, .inl (fa_fill (fun _ => 46) (fun _ => 0) 108))), (pa2, .inl (2, 108, .inl (fun _ => 0))), (pa3, .inl (0, 108, .inl (fun _ => 0))), (ta, .inr (10, [.ref ta1, .ref ta2, .ref taz, .ref ta4, .ref ta5, .ref ta6, .int 0, .int 0])), (ta1, .inl (1, 108, .inl (fa_fill (fun _ => 46) (fun _ => 0) 108))), (ta2, .inl (0, 108, .inl (fun _ => 0))), (taz, .inr (2, [.ref taz1, .ref taz2, .ref taz3, .ref taz4, .ref taz5, .ref taz6, .int 0])), (taz1, .inl (0, 108, .inl (fun _ => 0))), (taz2, .inl (0, 108, .inl (fun _ => 0))), (taz3, .inl (0, 108, .inl (fun _ => 0))), (taz4, .inl (0, 108, .inl (fun _ => 0))), (taz5, .inl (0, 108, .inl (fun _ => 0))), (taz6, .inl (0, 108, .inl (fun _ => 0))), (ta4, .inl (2, 108, .inl (fun _ => 0))), (ta5, .inl (2, 108, .inl (fun _ => 0))), (ta6, .inl (0, 108, .inl (fun _ => 0))), (sa, .inr (10, [.ref sa1, .ref sa2, .ref saz, .ref sa4, .ref sa5, .ref sa6, .int 0, .int 0])), (sa1, .inl (1, 108, .inl (fa_fill (fun _ => 46) (fun _ => 0) 108))), (sa2, .inl (0, 108, .inl (fun _ => 0))), (saz, .inr (2, [.ref saz1, .ref saz2, .ref saz3, .ref saz4, .ref saz5, .ref saz6, .int 0])), (saz1, .inl (0, 108, .inl (fun _ => 0))), (saz2, .inl (0, 108, .inl (fun _ => 0))), (saz3, .inl (0, 108, .inl (fun _ => 0))), (saz4, .inl (0, 108, .inl (fun _ => 0))), (saz5, .inl (0, 108, .inl (fun _ => 0))), (saz6, .inl (0, 108, .inl (fun _ => 0))), (sa4, .inl (2, 108, .inl (fun _ => 0))), (sa5, .inl (2, 108, .inl (fun _ => 0))), (sa6, .inl (0, 108, .inl (fun _ => 0))), (gs, .inr (4, [.int 80, .int 35, .int 30, .int 50, .int 0])), (co, .inr (1, [.ref co1, .ref co2, .ref co3, .int 0])), (co1, .inl (0, 20, .inl (fun _ => 0))), (co2, .inl (0, 20, .inl (fun _ => 0))), (co3, .inl (0, 20, .inl (fun _ => 0))), (fu, .inr (3, [.ref fub, .ref fut1, .ref fut2, .ref fut3, .long 0])), (fub, .inr (6, [.ref fubg, .int 0])), (fubg, .inl (3, 4, .inr (.inl (fun _ => 0)))), (fut1, .inl (3, 4, .inr (.inl (fun _ => 0)))), (fut2, .inl (3, 4, .inr (.inl (fun _ => 0)))), (fut3, .inl (3, 4, .inr (.inl (fun _ => 0)))), (la, .inr (5, [.ref lab, .int 0, .int 0, .int 0])), (lab, .inr (6, [.ref labg, .int 0])), (labg, .inl (3, 4, .inr (.inl (fun _ => 0)))), (gy, .inr (6, [.ref gyg, .int 0])), (gyg, .inl (3, 4, .inr (.inl (fun _ => 0)))), (du, .inr (6, [.ref dug, .int 0])), (dug, .inl (3, 4, .inr (.inl (fun _ => 0)))), (re, .inr (9, [.int 0, .int 0, .int 0])), (wm, .inr (13, [.int 0, .ref (g.2.2 4), .int 0])), (ac, .inr (13, [.int 0, .ref (g.2.2 4), .int 0])), (m, .inr (12, [.int 0, .null, .int 0, .null, .null, .null, .null, .null, .null, .null, .null, .int 0, .int 0, .int 0, .int 0, .int 0, .int 0, .null, .null, .null, .int 0, .int 0, .int 0, .int 0, .int 0, .null, .null, .null, .null, .long 0, .long 0]))]) rfl ?_
    refine y_dup d_Lw_law_11 rfl ?_
    refine y_callI (As := []) (rest := [.ref m]) (csC := [(m, .inr (12, [.int 0, .null, .int 0, .null, .null, .null, .null, .null, .null, .null, .null, .int 0, .int 0, .int 0, .int 0, .int 0, .int 0, .null, .null, .null, .int 0, .int 0, .int 0, .int 0, .int 0, .null, .null, .null, .null, .long 0, .long 0]))]) (is := [52]) rfl rfl ln_Lw_168 w_im_Mm_init ok_Lw_law_Mm_init d_Lw_law_12 (C_Mm_init g m) rfl rfl (Nat.le_of_ble_eq_true rfl) rfl (by decide) (by omega) (by omega) (fun E cs1 hx => ?_) (fun v cs1 hx => ?_)
    · refine Exists.elim hx (fun mp hx => Exists.elim hx (fun mf hx => Exists.elim hx (fun mh hx => Exists.elim hx (fun mn hx => Exists.elim hx (fun mt hx => Exists.elim hx (fun mz hx => Exists.elim hx (fun mc_ hx => Exists.elim hx (fun mq hx => Exists.elim hx (fun mgr hx => Exists.elim hx (fun ml hx => Exists.elim hx (fun mi hx => Exists.elim hx (fun mr hx => Exists.elim hx (fun mm hx => Exists.elim hx (fun mu hx => Exists.elim hx (fun mk hx => Exists.elim hx (fun mx hx => ?_))))))))))))))))
      obtain ⟨e1, -⟩ := hx
      cases e1
    · refine Exists.elim hx (fun mp hx => Exists.elim hx (fun mf hx => Exists.elim hx (fun mh hx => Exists.elim hx (fun mn hx => Exists.elim hx (fun mt hx => Exists.elim hx (fun mz hx => Exists.elim hx (fun mc_ hx => Exists.elim hx (fun mq hx => Exists.elim hx (fun mgr hx => Exists.elim hx (fun ml hx => Exists.elim hx (fun mi hx => Exists.elim hx (fun mr hx => Exists.elim hx (fun mm hx => Exists.elim hx (fun mu hx => Exists.elim hx (fun mk hx => Exists.elim hx (fun mx hx => ?_))))))))))))))))
      obtain ⟨e1, rfl⟩ := hx
      cases e1
      refine ⟨rfl, ?_⟩
      refine y_st (st2 := [.ref m]) rfl ?_
      refine y_cs (cs2 := [(a, .inr (11, [.ref pa, .ref ta, .ref sa, .ref gs, .ref co, .ref fu, .ref la, .ref gy, .ref du, .ref re, .ref wm, .ref ac])), (pa, .inr (8, [.ref pa1, .ref pa2, .ref pa3, .int 4])), (pa1, .inl (1, 108, .inl (fa_fill (fun _ => 46) (fun _ => 0) 108))), (pa2, .inl (2, 108, .inl (fun _ => 0))), (pa3, .inl (0, 108, .inl (fun _ => 0))), (ta, .inr (10, [.ref ta1, .ref ta2, .ref taz, .ref ta4, .ref ta5, .ref ta6, .int 0, .int 0])), (ta1, .inl (1, 108, .inl (fa_fill (fun _ => 46) (fun _ => 0) 108))), (ta2, .inl (0, 108, .inl (fun _ => 0))), (taz, .inr (2, [.ref taz1, .ref taz2, .ref taz3, .ref taz4, .ref taz5, .ref taz6, .int 0])), (taz1, .inl (0, 108, .inl (fun _ => 0))), (taz2, .inl (0, 108, .inl (fun _ => 0))), (taz3, .inl (0, 108, .inl (fun _ => 0))), (taz4, .inl (0, 108, .inl (fun _ => 0))), (taz5, .inl (0, 108, .inl (fun _ => 0))), (taz6, .inl (0, 108, .inl (fun _ => 0))), (ta4, .inl (2, 108, .inl (fun _ => 0))), (ta5, .inl (2, 108, .inl (fun _ => 0))), (ta6, .inl (0, 108, .inl (fun _ => 0))), (sa, .inr (10, [.ref sa1, .ref sa2, .ref saz, .ref sa4, .ref sa5, .ref sa6, .int 0, .int 0])), (sa1, .inl (1, 108, .inl (fa_fill (fun _ => 46) (fun _ => 0) 108))), (sa2, .inl (0, 108, .inl (fun _ => 0))), (saz, .inr (2, [.ref saz1, .ref saz2, .ref saz3, .ref saz4, .ref saz5, .ref saz6, .int 0])), (saz1, .inl (0, 108, .inl (fun _ => 0))), (saz2, .inl (0, 108, .inl (fun _ => 0))), (saz3, .inl (0, 108, .inl (fun _ => 0))), (saz4, .inl (0, 108, .inl (fun _ => 0))), (saz5, .inl (0, 108, .inl (fun _ => 0))), (saz6, .inl (0, 108, .inl (fun _ => 0))), (sa4, .inl (2, 108, .inl (fun _ => 0))), (sa5, .inl (2, 108, .inl (fun _ => 0))), (sa6, .inl (0, 108, .inl (fun _ => 0))), (gs, .inr (4, [.int 80, .int 35, .int 30, .int 50, .int 0])), (co, .inr (1, [.ref co1, .ref co2, .ref co3, .int 0])), (co1, .inl (0, 20, .inl (fun _ => 0))), (co2, .inl (0, 20, .inl (fun _ => 0))), (co3, .inl (0, 20, .inl (fun _ => 0))), (fu, .inr (3, [.ref fub, .ref fut1, .ref fut2, .ref fut3, .long 0])), (fub, .inr (6, [.ref fubg, .int 0])), (fubg, .inl (3, 4, .inr (.inl (fun _ => 0)))), (fut1, .inl (3, 4, .inr (.inl (fun _ => 0)))), (fut2, .inl (3, 4, .inr (.inl (fun _ => 0)))), (fut3, .inl (3, 4, .inr (.inl (fun _ => 0)))), (la, .inr (5, [.ref lab, .int 0, .int 0, .int 0])), (lab, .inr (6, [.ref labg, .int 0])), (labg, .inl (3, 4, .inr (.inl (fun _ => 0)))), (gy, .inr (6, [.ref gyg, .int 0])), (gyg, .inl (3, 4, .inr (.inl (fun _ => 0)))), (du, .inr (6, [.ref dug, .int 0])), (dug, .inl (3, 4, .inr (.inl (fun _ => 0)))), (re, .inr (9, [.int 0, .int 0, .int 0])), (wm, .inr (13, [.int 0, .ref (g.2.2 4), .int 0])), (ac, .inr (13, [.int 0, .ref (g.2.2 4), .int 0])), (m, .inr (12, [.int 0, .ref mp, .int 4, .ref mf, .ref mh, .ref mn, .ref mt, .ref mz, .ref mc_, .ref mq, .ref mgr, .int 80, .int 35, .int 30, .int 50, .int 0, .int 0, .ref ml, .ref mi, .ref mr, .int 0, .int 0, .int 0, .int (-1), .int 0, .ref mm, .ref mu, .ref mk, .ref mx, .long 0, .long 0])), (mp, .inl (1, 108, .inl (fa_fill (fun _ => 46) (fun _ => 0) 108))), (mf, .inl (0, 108, .inl (fun _ => 0))), (mh, .inl (0, 108, .inl (fun _ => 0))), (mn, .inl (0, 108, .inl (fun _ => 0))), (mt, .inl (0, 108, .inl (fun _ => 0))), (mz, .inl (0, 108, .inl (fun _ => 0))), (mc_, .inl (2, 108, .inl (fun _ => 0))), (mq, .inl (0, 108, .inl (fun _ => 0))), (mgr, .inl (0, 108, .inl (fun _ => 0))), (ml, .inr (13, [.int 0, .ref (g.2.2 4), .int 0])), (mi, .inl (0, 4, .inl (fun _ => 0))), (mr, .inl (3, 16, .inr (.inl (fun _ => 0)))), (mm, .inr (13, [.int 0, .ref (g.2.2 4), .int 0])), (mu, .inr (13, [.int 0, .ref (g.2.2 4), .int 0])), (mk, .inr (13, [.int 0, .ref (g.2.2 4), .int 0])), (mx, .inr (13, [.int 0, .ref (g.2.2 4), .int 0]))]) rfl ?_
      refine y_astore_n (lv' := [(2, .ref m), (1, .ref a), (0, .ref (g.2.2 40))]) d_Lw_law_15 rfl (by decide) rfl ?_
      refine y_iconst d_Lw_law_16 (v := 1) (by decide) ?_
      refine y_newa_long (N := 1) ac_long d_Lw_law_17 (by decide) (by decide) (by decide) (by omega) (by omega) (fun o1 => ?_)
      refine y_cs (cs2 := [(a, .inr (11, [.ref pa, .ref ta, .ref sa, .ref gs, .ref co, .ref fu, .ref la, .ref gy, .ref du, .ref re, .ref wm, .ref ac])), (pa, .inr (8, [.ref pa1, .ref pa2, .ref pa3, .int 4])), (pa1, .inl (1, 108, .inl (fa_fill (fun _ => 46) (fun _ => 0) 108))), (pa2, .inl (2, 108, .inl (fun _ => 0))), (pa3, .inl (0, 108, .inl (fun _ => 0))), (ta, .inr (10, [.ref ta1, .ref ta2, .ref taz, .ref ta4, .ref ta5, .ref ta6, .int 0, .int 0])), (ta1, .inl (1, 108, .inl (fa_fill (fun _ => 46) (fun _ => 0) 108))), (ta2, .inl (0, 108, .inl (fun _ => 0))), (taz, .inr (2, [.ref taz1, .ref taz2, .ref taz3, .ref taz4, .ref taz5, .ref taz6, .int 0])), (taz1, .inl (0, 108, .inl (fun _ => 0))), (taz2, .inl (0, 108, .inl (fun _ => 0))), (taz3, .inl (0, 108, .inl (fun _ => 0))), (taz4, .inl (0, 108, .inl (fun _ => 0))), (taz5, .inl (0, 108, .inl (fun _ => 0))), (taz6, .inl (0, 108, .inl (fun _ => 0))), (ta4, .inl (2, 108, .inl (fun _ => 0))), (ta5, .inl (2, 108, .inl (fun _ => 0))), (ta6, .inl (0, 108, .inl (fun _ => 0))), (sa, .inr (10, [.ref sa1, .ref sa2, .ref saz, .ref sa4, .ref sa5, .ref sa6, .int 0, .int 0])), (sa1, .inl (1, 108, .inl (fa_fill (fun _ => 46) (fun _ => 0) 108))), (sa2, .inl (0, 108, .inl (fun _ => 0))), (saz, .inr (2, [.ref saz1, .ref saz2, .ref saz3, .ref saz4, .ref saz5, .ref saz6, .int 0])), (saz1, .inl (0, 108, .inl (fun _ => 0))), (saz2, .inl (0, 108, .inl (fun _ => 0))), (saz3, .inl (0, 108, .inl (fun _ => 0))), (saz4, .inl (0, 108, .inl (fun _ => 0))), (saz5, .inl (0, 108, .inl (fun _ => 0))), (saz6, .inl (0, 108, .inl (fun _ => 0))), (sa4, .inl (2, 108, .inl (fun _ => 0))), (sa5, .inl (2, 108, .inl (fun _ => 0))), (sa6, .inl (0, 108, .inl (fun _ => 0))), (gs, .inr (4, [.int 80, .int 35, .int 30, .int 50, .int 0])), (co, .inr (1, [.ref co1, .ref co2, .ref co3, .int 0])), (co1, .inl (0, 20, .inl (fun _ => 0))), (co2, .inl (0, 20, .inl (fun _ => 0))), (co3, .inl (0, 20, .inl (fun _ => 0))), (fu, .inr (3, [.ref fub, .ref fut1, .ref fut2, .ref fut3, .long 0])), (fub, .inr (6, [.ref fubg, .int 0])), (fubg, .inl (3, 4, .inr (.inl (fun _ => 0)))), (fut1, .inl (3, 4, .inr (.inl (fun _ => 0)))), (fut2, .inl (3, 4, .inr (.inl (fun _ => 0)))), (fut3, .inl (3, 4, .inr (.inl (fun _ => 0)))), (la, .inr (5, [.ref lab, .int 0, .int 0, .int 0])), (lab, .inr (6, [.ref labg, .int 0])), (labg, .inl (3, 4, .inr (.inl (fun _ => 0)))), (gy, .inr (6, [.ref gyg, .int 0])), (gyg, .inl (3, 4, .inr (.inl (fun _ => 0)))), (du, .inr (6, [.ref dug, .int 0])), (dug, .inl (3, 4, .inr (.inl (fun _ => 0)))), (re, .inr (9, [.int 0, .int 0, .int 0])), (wm, .inr (13, [.int 0, .ref (g.2.2 4), .int 0])), (ac, .inr (13, [.int 0, .ref (g.2.2 4), .int 0])), (m, .inr (12, [.int 0, .ref mp, .int 4, .ref mf, .ref mh, .ref mn, .ref mt, .ref mz, .ref mc_, .ref mq, .ref mgr, .int 80, .int 35, .int 30, .int 50, .int 0, .int 0, .ref ml, .ref mi, .ref mr, .int 0, .int 0, .int 0, .int (-1), .int 0, .ref mm, .ref mu, .ref mk, .ref mx, .long 0, .long 0])), (mp, .inl (1, 108, .inl (fa_fill (fun _ => 46) (fun _ => 0) 108))), (mf, .inl (0, 108, .inl (fun _ => 0))), (mh, .inl (0, 108, .inl (fun _ => 0))), (mn, .inl (0, 108, .inl (fun _ => 0))), (mt, .inl (0, 108, .inl (fun _ => 0))), (mz, .inl (0, 108, .inl (fun _ => 0))), (mc_, .inl (2, 108, .inl (fun _ => 0))), (mq, .inl (0, 108, .inl (fun _ => 0))), (mgr, .inl (0, 108, .inl (fun _ => 0))), (ml, .inr (13, [.int 0, .ref (g.2.2 4), .int 0])), (mi, .inl (0, 4, .inl (fun _ => 0))), (mr, .inl (3, 16, .inr (.inl (fun _ => 0)))), (mm, .inr (13, [.int 0, .ref (g.2.2 4), .int 0])), (mu, .inr (13, [.int 0, .ref (g.2.2 4), .int 0])), (mk, .inr (13, [.int 0, .ref (g.2.2 4), .int 0])), (mx, .inr (13, [.int 0, .ref (g.2.2 4), .int 0])), (o1, .inl (3, 1, .inr (.inl (fun _ => 0))))]) rfl ?_
      refine y_astore_n (lv' := [(3, .ref o1), (2, .ref m), (1, .ref a), (0, .ref (g.2.2 40))]) d_Lw_law_19 rfl (by decide) rfl ?_
      refine y_iconst d_Lw_law_20 (v := 1) (by decide) ?_
      refine y_newa_double (N := 1) ac_double d_Lw_law_21 (by decide) (by decide) (by decide) (by omega) (by omega) (fun o2 => ?_)
      refine y_cs (cs2 := [(a, .inr (11, [.ref pa, .ref ta, .ref sa, .ref gs, .ref co, .ref fu, .ref la, .ref gy, .ref du, .ref re, .ref wm, .ref ac])), (pa, .inr (8, [.ref pa1, .ref pa2, .ref pa3, .int 4])), (pa1, .inl (1, 108, .inl (fa_fill (fun _ => 46) (fun _ => 0) 108))), (pa2, .inl (2, 108, .inl (fun _ => 0))), (pa3, .inl (0, 108, .inl (fun _ => 0))), (ta, .inr (10, [.ref ta1, .ref ta2, .ref taz, .ref ta4, .ref ta5, .ref ta6, .int 0, .int 0])), (ta1, .inl (1, 108, .inl (fa_fill (fun _ => 46) (fun _ => 0) 108))), (ta2, .inl (0, 108, .inl (fun _ => 0))), (taz, .inr (2, [.ref taz1, .ref taz2, .ref taz3, .ref taz4, .ref taz5, .ref taz6, .int 0])), (taz1, .inl (0, 108, .inl (fun _ => 0))), (taz2, .inl (0, 108, .inl (fun _ => 0))), (taz3, .inl (0, 108, .inl (fun _ => 0))), (taz4, .inl (0, 108, .inl (fun _ => 0))), (taz5, .inl (0, 108, .inl (fun _ => 0))), (taz6, .inl (0, 108, .inl (fun _ => 0))), (ta4, .inl (2, 108, .inl (fun _ => 0))), (ta5, .inl (2, 108, .inl (fun _ => 0))), (ta6, .inl (0, 108, .inl (fun _ => 0))), (sa, .inr (10, [.ref sa1, .ref sa2, .ref saz, .ref sa4, .ref sa5, .ref sa6, .int 0, .int 0])), (sa1, .inl (1, 108, .inl (fa_fill (fun _ => 46) (fun _ => 0) 108))), (sa2, .inl (0, 108, .inl (fun _ => 0))), (saz, .inr (2, [.ref saz1, .ref saz2, .ref saz3, .ref saz4, .ref saz5, .ref saz6, .int 0])), (saz1, .inl (0, 108, .inl (fun _ => 0))), (saz2, .inl (0, 108, .inl (fun _ => 0))), (saz3, .inl (0, 108, .inl (fun _ => 0))), (saz4, .inl (0, 108, .inl (fun _ => 0))), (saz5, .inl (0, 108, .inl (fun _ => 0))), (saz6, .inl (0, 108, .inl (fun _ => 0))), (sa4, .inl (2, 108, .inl (fun _ => 0))), (sa5, .inl (2, 108, .inl (fun _ => 0))), (sa6, .inl (0, 108, .inl (fun _ => 0))), (gs, .inr (4, [.int 80, .int 35, .int 30, .int 50, .int 0])), (co, .inr (1, [.ref co1, .ref co2, .ref co3, .int 0])), (co1, .inl (0, 20, .inl (fun _ => 0))), (co2, .inl (0, 20, .inl (fun _ => 0))), (co3, .inl (0, 20, .inl (fun _ => 0))), (fu, .inr (3, [.ref fub, .ref fut1, .ref fut2, .ref fut3, .long 0])), (fub, .inr (6, [.ref fubg, .int 0])), (fubg, .inl (3, 4, .inr (.inl (fun _ => 0)))), (fut1, .inl (3, 4, .inr (.inl (fun _ => 0)))), (fut2, .inl (3, 4, .inr (.inl (fun _ => 0)))), (fut3, .inl (3, 4, .inr (.inl (fun _ => 0)))), (la, .inr (5, [.ref lab, .int 0, .int 0, .int 0])), (lab, .inr (6, [.ref labg, .int 0])), (labg, .inl (3, 4, .inr (.inl (fun _ => 0)))), (gy, .inr (6, [.ref gyg, .int 0])), (gyg, .inl (3, 4, .inr (.inl (fun _ => 0)))), (du, .inr (6, [.ref dug, .int 0])), (dug, .inl (3, 4, .inr (.inl (fun _ => 0)))), (re, .inr (9, [.int 0, .int 0, .int 0])), (wm, .inr (13, [.int 0, .ref (g.2.2 4), .int 0])), (ac, .inr (13, [.int 0, .ref (g.2.2 4), .int 0])), (m, .inr (12, [.int 0, .ref mp, .int 4, .ref mf, .ref mh, .ref mn, .ref mt, .ref mz, .ref mc_, .ref mq, .ref mgr, .int 80, .int 35, .int 30, .int 50, .int 0, .int 0, .ref ml, .ref mi, .ref mr, .int 0, .int 0, .int 0, .int (-1), .int 0, .ref mm, .ref mu, .ref mk, .ref mx, .long 0, .long 0])), (mp, .inl (1, 108, .inl (fa_fill (fun _ => 46) (fun _ => 0) 108))), (mf, .inl (0, 108, .inl (fun _ => 0))), (mh, .inl (0, 108, .inl (fun _ => 0))), (mn, .inl (0, 108, .inl (fun _ => 0))), (mt, .inl (0, 108, .inl (fun _ => 0))), (mz, .inl (0, 108, .inl (fun _ => 0))), (mc_, .inl (2, 108, .inl (fun _ => 0))), (mq, .inl (0, 108, .inl (fun _ => 0))), (mgr, .inl (0, 108, .inl (fun _ => 0))), (ml, .inr (13, [.int 0, .ref (g.2.2 4), .int 0])), (mi, .inl (0, 4, .inl (fun _ => 0))), (mr, .inl (3, 16, .inr (.inl (fun _ => 0)))), (mm, .inr (13, [.int 0, .ref (g.2.2 4), .int 0])), (mu, .inr (13, [.int 0, .ref (g.2.2 4), .int 0])), (mk, .inr (13, [.int 0, .ref (g.2.2 4), .int 0])), (mx, .inr (13, [.int 0, .ref (g.2.2 4), .int 0])), (o1, .inl (3, 1, .inr (.inl (fun _ => 0)))), (o2, .inl (4, 1, .inr (.inr (.inr (.inl (fun _ => 0))))))]) rfl ?_
      refine y_astore (lv' := [(4, .ref o2), (3, .ref o1), (2, .ref m), (1, .ref a), (0, .ref (g.2.2 40))]) d_Lw_law_23 (by decide) rfl ?_
      refine y_iconst d_Lw_law_25 (v := 0) (by decide) ?_
      refine y_istore (lv' := [(5, .int 0), (4, .ref o2), (3, .ref o1), (2, .ref m), (1, .ref a), (0, .ref (g.2.2 40))]) d_Lw_law_26 (by decide) rfl ?_
      refine y_lv (lv' := [(5, .int 0), (4, .ref o2), (3, .ref o1), (2, .ref m), (1, .ref a), (0, .ref (g.2.2 40))]) [0, 1, 2, 3, 4, 5] rfl ?_
      refine y_cs (cs2 := [(a, .inr (11, [.ref pa, .ref ta, .ref sa, .ref gs, .ref co, .ref fu, .ref la, .ref gy, .ref du, .ref re, .ref wm, .ref ac])), (pa, .inr (8, [.ref pa1, .ref pa2, .ref pa3, .int 4])), (pa1, .inl (1, 108, .inl (fa_fill (fun _ => 46) (fun _ => 0) 108))), (pa2, .inl (2, 108, .inl (fun _ => 0))), (pa3, .inl (0, 108, .inl (fun _ => 0))), (ta, .inr (10, [.ref ta1, .ref ta2, .ref taz, .ref ta4, .ref ta5, .ref ta6, .int 0, .int 0])), (ta1, .inl (1, 108, .inl (fa_fill (fun _ => 46) (fun _ => 0) 108))), (ta2, .inl (0, 108, .inl (fun _ => 0))), (taz, .inr (2, [.ref taz1, .ref taz2, .ref taz3, .ref taz4, .ref taz5, .ref taz6, .int 0])), (taz1, .inl (0, 108, .inl (fun _ => 0))), (taz2, .inl (0, 108, .inl (fun _ => 0))), (taz3, .inl (0, 108, .inl (fun _ => 0))), (taz4, .inl (0, 108, .inl (fun _ => 0))), (taz5, .inl (0, 108, .inl (fun _ => 0))), (taz6, .inl (0, 108, .inl (fun _ => 0))), (ta4, .inl (2, 108, .inl (fun _ => 0))), (ta5, .inl (2, 108, .inl (fun _ => 0))), (ta6, .inl (0, 108, .inl (fun _ => 0))), (sa, .inr (10, [.ref sa1, .ref sa2, .ref saz, .ref sa4, .ref sa5, .ref sa6, .int 0, .int 0])), (sa1, .inl (1, 108, .inl (fa_fill (fun _ => 46) (fun _ => 0) 108))), (sa2, .inl (0, 108, .inl (fun _ => 0))), (saz, .inr (2, [.ref saz1, .ref saz2, .ref saz3, .ref saz4, .ref saz5, .ref saz6, .int 0])), (saz1, .inl (0, 108, .inl (fun _ => 0))), (saz2, .inl (0, 108, .inl (fun _ => 0))), (saz3, .inl (0, 108, .inl (fun _ => 0))), (saz4, .inl (0, 108, .inl (fun _ => 0))), (saz5, .inl (0, 108, .inl (fun _ => 0))), (saz6, .inl (0, 108, .inl (fun _ => 0))), (sa4, .inl (2, 108, .inl (fun _ => 0))), (sa5, .inl (2, 108, .inl (fun _ => 0))), (sa6, .inl (0, 108, .inl (fun _ => 0))), (gs, .inr (4, [.int 80, .int 35, .int 30, .int 50, .int 0])), (co, .inr (1, [.ref co1, .ref co2, .ref co3, .int 0])), (co1, .inl (0, 20, .inl (fun _ => 0))), (co2, .inl (0, 20, .inl (fun _ => 0))), (co3, .inl (0, 20, .inl (fun _ => 0))), (fu, .inr (3, [.ref fub, .ref fut1, .ref fut2, .ref fut3, .long 0])), (fub, .inr (6, [.ref fubg, .int 0])), (fubg, .inl (3, 4, .inr (.inl (fun _ => 0)))), (fut1, .inl (3, 4, .inr (.inl (fun _ => 0)))), (fut2, .inl (3, 4, .inr (.inl (fun _ => 0)))), (fut3, .inl (3, 4, .inr (.inl (fun _ => 0)))), (la, .inr (5, [.ref lab, .int 0, .int 0, .int 0])), (lab, .inr (6, [.ref labg, .int 0])), (labg, .inl (3, 4, .inr (.inl (fun _ => 0)))), (gy, .inr (6, [.ref gyg, .int 0])), (gyg, .inl (3, 4, .inr (.inl (fun _ => 0)))), (du, .inr (6, [.ref dug, .int 0])), (dug, .inl (3, 4, .inr (.inl (fun _ => 0)))), (re, .inr (9, [.int 0, .int 0, .int 0])), (wm, .inr (13, [.int 0, .ref (g.2.2 4), .int 0])), (ac, .inr (13, [.int 0, .ref (g.2.2 4), .int 0])), (m, .inr (12, [.int 0, .ref mp, .int 4, .ref mf, .ref mh, .ref mn, .ref mt, .ref mz, .ref mc_, .ref mq, .ref mgr, .int 80, .int 35, .int 30, .int 50, .int 0, .int 0, .ref ml, .ref mi, .ref mr, .int 0, .int 0, .int 0, .int (-1), .int 0, .ref mm, .ref mu, .ref mk, .ref mx, .long 0, .long 0])), (mp, .inl (1, 108, .inl (fa_fill (fun _ => 46) (fun _ => 0) 108))), (mf, .inl (0, 108, .inl (fun _ => 0))), (mh, .inl (0, 108, .inl (fun _ => 0))), (mn, .inl (0, 108, .inl (fun _ => 0))), (mt, .inl (0, 108, .inl (fun _ => 0))), (mz, .inl (0, 108, .inl (fun _ => 0))), (mc_, .inl (2, 108, .inl (fun _ => 0))), (mq, .inl (0, 108, .inl (fun _ => 0))), (mgr, .inl (0, 108, .inl (fun _ => 0))), (ml, .inr (13, [.int 0, .ref (g.2.2 4), .int 0])), (mi, .inl (0, 4, .inl (fun _ => 0))), (mr, .inl (3, 16, .inr (.inl (fun _ => 0)))), (mm, .inr (13, [.int 0, .ref (g.2.2 4), .int 0])), (mu, .inr (13, [.int 0, .ref (g.2.2 4), .int 0])), (mk, .inr (13, [.int 0, .ref (g.2.2 4), .int 0])), (mx, .inr (13, [.int 0, .ref (g.2.2 4), .int 0])), (o1, .inl (3, 1, .inr (.inl (fun _ => 0)))), (o2, .inl (4, 1, .inr (.inr (.inr (.inl (fun _ => 0))))))]) rfl ?_
      refine y_end (fun wC hC => ?_)
      exact yw_bud (by omega) (by omega) (LW_loop hL r 0 (by omega) (by omega) zT0 _ _ (IVm.of (IV.start hC) (fun _ _ => rfl) rfl) REY.start)
end
