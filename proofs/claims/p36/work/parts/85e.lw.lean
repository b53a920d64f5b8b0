theorem d_Lw_law_794 : decode code 794 = .ok (.aload_n 1, 1) := zo_43 (zd_b zq_code_24 26 rfl rfl rfl)
theorem d_Lw_law_795 : decode code 795 = .ok (.aload_n 0, 1) := zo_42 (zd_b zq_code_24 27 rfl rfl rfl)
theorem d_Lw_law_796 : decode code 796 = .ok (.iload 5, 2) := zo_21 (d := 5) (zd_b zq_code_24 28 rfl rfl rfl) (zd_b zq_code_24 29 rfl rfl rfl)
theorem d_Lw_law_798 : decode code 798 = .ok (.iconst 1, 1) := zo_4 (zd_b zq_code_24 30 rfl rfl rfl)
theorem d_Lw_law_799 : decode code 799 = .ok (.iadd, 1) := zo_96 (zd_b zq_code_24 31 rfl rfl rfl)
theorem d_Lw_law_800 : decode code 800 = .ok (.iaload, 1) := zo_46 (zd_b zq_code_25 0 rfl rfl rfl)
theorem d_Lw_law_801 : decode code 801 = .ok (.aload_n 0, 1) := zo_42 (zd_b zq_code_25 1 rfl rfl rfl)
theorem d_Lw_law_802 : decode code 802 = .ok (.iload 5, 2) := zo_21 (d := 5) (zd_b zq_code_25 2 rfl rfl rfl) (zd_b zq_code_25 3 rfl rfl rfl)
theorem d_Lw_law_804 : decode code 804 = .ok (.iconst 2, 1) := zo_5 (zd_b zq_code_25 4 rfl rfl rfl)
theorem d_Lw_law_805 : decode code 805 = .ok (.iadd, 1) := zo_96 (zd_b zq_code_25 5 rfl rfl rfl)
theorem d_Lw_law_806 : decode code 806 = .ok (.iaload, 1) := zo_46 (zd_b zq_code_25 6 rfl rfl rfl)
theorem d_Lw_law_807 : decode code 807 = .ok (.aload_n 0, 1) := zo_42 (zd_b zq_code_25 7 rfl rfl rfl)
theorem d_Lw_law_808 : decode code 808 = .ok (.iload 5, 2) := zo_21 (d := 5) (zd_b zq_code_25 8 rfl rfl rfl) (zd_b zq_code_25 9 rfl rfl rfl)
theorem d_Lw_law_810 : decode code 810 = .ok (.iconst 3, 1) := zo_6 (zd_b zq_code_25 10 rfl rfl rfl)
theorem d_Lw_law_811 : decode code 811 = .ok (.iadd, 1) := zo_96 (zd_b zq_code_25 11 rfl rfl rfl)
theorem d_Lw_law_812 : decode code 812 = .ok (.iaload, 1) := zo_46 (zd_b zq_code_25 12 rfl rfl rfl)
theorem d_Lw_law_813 : decode code 813 = .ok (.aload_n 0, 1) := zo_42 (zd_b zq_code_25 13 rfl rfl rfl)
theorem d_Lw_law_814 : decode code 814 = .ok (.iload 5, 2) := zo_21 (d := 5) (zd_b zq_code_25 14 rfl rfl rfl) (zd_b zq_code_25 15 rfl rfl rfl)
theorem d_Lw_law_816 : decode code 816 = .ok (.iconst 4, 1) := zo_7 (zd_b zq_code_25 16 rfl rfl rfl)
theorem d_Lw_law_817 : decode code 817 = .ok (.iadd, 1) := zo_96 (zd_b zq_code_25 17 rfl rfl rfl)
theorem d_Lw_law_818 : decode code 818 = .ok (.iaload, 1) := zo_46 (zd_b zq_code_25 18 rfl rfl rfl)
theorem d_Lw_law_819 : decode code 819 = .ok (.aload_n 3, 1) := zo_45 (zd_b zq_code_25 19 rfl rfl rfl)
theorem d_Lw_law_820 : decode code 820 = .ok (.invokestatic 229, 3) := zo_184 (d := 0) (e := 229) (zd_b zq_code_25 20 rfl rfl rfl) (zd_b zq_code_25 21 rfl rfl rfl) (zd_b zq_code_25 22 rfl rfl rfl)
theorem ok_Lw_law_Lw_mill : z_okX M_Lw_law M_Lw_mill 6 := ⟨z_mj4 (i := 170) rfl (by decide +kernel), by decide, ⟨by decide +kernel, by decide +kernel, by decide +kernel⟩, ⟨by decide, by decide⟩, z_mj1 (i := 0) rfl (by decide +kernel), rfl⟩
theorem ln_Lw_229 : Cond.methodLink "IronpourLaw" 229 M_Lw_mill.1 ∈ z_gw := z_mj4 (i := 168) rfl (by decide +kernel)
theorem w_st_Lw_mill : Cond.static M_Lw_mill.1 ∈ z_gw := z_mj4 (i := 169) rfl (by decide +kernel)
theorem d_Lw_law_823 : decode code 823 = .ok (.istore 6, 2) := zo_54 (d := 6) (zd_b zq_code_25 23 rfl rfl rfl) (zd_b zq_code_25 24 rfl rfl rfl)
theorem d_Lw_law_825 : decode code 825 = .ok (.aload_n 2, 1) := zo_44 (zd_b zq_code_25 25 rfl rfl rfl)
theorem d_Lw_law_826 : decode code 826 = .ok (.aload_n 0, 1) := zo_42 (zd_b zq_code_25 26 rfl rfl rfl)
theorem d_Lw_law_827 : decode code 827 = .ok (.iload 5, 2) := zo_21 (d := 5) (zd_b zq_code_25 27 rfl rfl rfl) (zd_b zq_code_25 28 rfl rfl rfl)
theorem d_Lw_law_829 : decode code 829 = .ok (.iconst 1, 1) := zo_4 (zd_b zq_code_25 29 rfl rfl rfl)
theorem d_Lw_law_830 : decode code 830 = .ok (.iadd, 1) := zo_96 (zd_b zq_code_25 30 rfl rfl rfl)
theorem d_Lw_law_831 : decode code 831 = .ok (.iaload, 1) := zo_46 (zd_b zq_code_25 31 rfl rfl rfl)
theorem d_Lw_law_832 : decode code 832 = .ok (.aload_n 0, 1) := zo_42 (zd_b zq_code_26 0 rfl rfl rfl)
theorem d_Lw_law_833 : decode code 833 = .ok (.iload 5, 2) := zo_21 (d := 5) (zd_b zq_code_26 1 rfl rfl rfl) (zd_b zq_code_26 2 rfl rfl rfl)
theorem d_Lw_law_835 : decode code 835 = .ok (.iconst 2, 1) := zo_5 (zd_b zq_code_26 3 rfl rfl rfl)
theorem d_Lw_law_836 : decode code 836 = .ok (.iadd, 1) := zo_96 (zd_b zq_code_26 4 rfl rfl rfl)
theorem d_Lw_law_837 : decode code 837 = .ok (.iaload, 1) := zo_46 (zd_b zq_code_26 5 rfl rfl rfl)
theorem d_Lw_law_838 : decode code 838 = .ok (.aload_n 0, 1) := zo_42 (zd_b zq_code_26 6 rfl rfl rfl)
theorem d_Lw_law_839 : decode code 839 = .ok (.iload 5, 2) := zo_21 (d := 5) (zd_b zq_code_26 7 rfl rfl rfl) (zd_b zq_code_26 8 rfl rfl rfl)
theorem d_Lw_law_841 : decode code 841 = .ok (.iconst 3, 1) := zo_6 (zd_b zq_code_26 9 rfl rfl rfl)
theorem d_Lw_law_842 : decode code 842 = .ok (.iadd, 1) := zo_96 (zd_b zq_code_26 10 rfl rfl rfl)
theorem d_Lw_law_843 : decode code 843 = .ok (.iaload, 1) := zo_46 (zd_b zq_code_26 11 rfl rfl rfl)
theorem d_Lw_law_844 : decode code 844 = .ok (.aload_n 0, 1) := zo_42 (zd_b zq_code_26 12 rfl rfl rfl)
theorem d_Lw_law_845 : decode code 845 = .ok (.iload 5, 2) := zo_21 (d := 5) (zd_b zq_code_26 13 rfl rfl rfl) (zd_b zq_code_26 14 rfl rfl rfl)
theorem d_Lw_law_847 : decode code 847 = .ok (.iconst 4, 1) := zo_7 (zd_b zq_code_26 15 rfl rfl rfl)
theorem d_Lw_law_848 : decode code 848 = .ok (.iadd, 1) := zo_96 (zd_b zq_code_26 16 rfl rfl rfl)
theorem d_Lw_law_849 : decode code 849 = .ok (.iaload, 1) := zo_46 (zd_b zq_code_26 17 rfl rfl rfl)
theorem d_Lw_law_850 : decode code 850 = .ok (.invokevirtual 231, 3) := zo_182 (d := 0) (e := 231) (zd_b zq_code_26 18 rfl rfl rfl) (zd_b zq_code_26 19 rfl rfl rfl) (zd_b zq_code_26 20 rfl rfl rfl)
theorem ok_Lw_law_Mm_mill : z_ok M_Lw_law M_Mm_mill 4 := ⟨z_mj8 (i := 101) rfl (by decide +kernel), rfl, ⟨by decide +kernel, by decide +kernel, by decide +kernel⟩, ⟨by decide, by decide⟩, z_mj1 (i := 14) rfl (by decide +kernel), rfl⟩
theorem ln_Lw_231 : Cond.methodLink "IronpourLaw" 231 M_Mm_mill.1 ∈ z_gw := z_mj8 (i := 98) rfl (by decide +kernel)
theorem w_im_Mm_mill : Cond.instanceMethod M_Mm_mill.1 ∈ z_gw := z_mj8 (i := 99) rfl (by decide +kernel)
theorem w_se_Mm_mill : Cond.selects M_Mm_mill.1.cls M_Mm_mill.1 M_Mm_mill.1 ∈ z_gw := z_mj8 (i := 100) rfl (by decide +kernel)
theorem d_Lw_law_853 : decode code 853 = .ok (.istore 7, 2) := zo_54 (d := 7) (zd_b zq_code_26 21 rfl rfl rfl) (zd_b zq_code_26 22 rfl rfl rfl)
theorem d_Lw_law_855 : decode code 855 = .ok (.goto 953, 3) := zo_167 (d := 3) (e := 185) (zd_b zq_code_26 23 rfl rfl rfl) (zd_b zq_code_26 24 rfl rfl rfl) (zd_b zq_code_26 25 rfl rfl rfl) (by decide +kernel)
set_option maxHeartbeats 4000000 in
set_option maxRecDepth 100000 in
theorem LC_mill {g : zG} {ad : Nat → Nat} {t : zTT} {u : zNN} {w : zW} {j : Nat} (hI : IVm g ad t u w) (hR : REL t u.1 (48 * j)) {r : Nat} (hJ : 7 * j + 7 ≤ g.2.2 41) (hL : g.2.2 41 ≤ 3584) (ih : LWI g ad j r) : DW g M_Lw_law lwQ w 794 [(5, .int (nI (7 * j))), (4, .ref (ad 70)), (3, .ref (ad 69)), (2, .ref (ad 52)), (1, .ref (ad 0)), (0, .ref (g.2.2 40))] [] (100 * (r + 1)) (1000 * (r + 1)) := by
  refine y_base (cs := []) (z_I.nil w) ?_
  refine y_aload_n d_Lw_law_794 rfl 4 rfl ?_
  refine y_aload_n d_Lw_law_795 rfl 5 rfl ?_
  refine y_iload d_Lw_law_796 0 rfl ?_
  refine y_iconst d_Lw_law_798 (v := 1) (by decide) ?_
  refine y_iadd d_Lw_law_799 (v := nI ((7 * j) + 1)) (nI_add _ _) ?_
  refine y_sld (v := zs g (7 * j + 1)) d_Lw_law_800 (vp_in_nI (by omega) (by omega)) (by rw [nI_clamp (by omega)]; rfl) ?_
  refine y_aload_n d_Lw_law_801 rfl 5 rfl ?_
  refine y_iload d_Lw_law_802 0 rfl ?_
  refine y_iconst d_Lw_law_804 (v := 2) (by decide) ?_
  refine y_iadd d_Lw_law_805 (v := nI ((7 * j) + 2)) (nI_add _ _) ?_
  refine y_sld (v := zs g (7 * j + 2)) d_Lw_law_806 (vp_in_nI (by omega) (by omega)) (by rw [nI_clamp (by omega)]; rfl) ?_
  refine y_aload_n d_Lw_law_807 rfl 5 rfl ?_
  refine y_iload d_Lw_law_808 0 rfl ?_
  refine y_iconst d_Lw_law_810 (v := 3) (by decide) ?_
  refine y_iadd d_Lw_law_811 (v := nI ((7 * j) + 3)) (nI_add _ _) ?_
  refine y_sld (v := zs g (7 * j + 3)) d_Lw_law_812 (vp_in_nI (by omega) (by omega)) (by rw [nI_clamp (by omega)]; rfl) ?_
  refine y_aload_n d_Lw_law_813 rfl 5 rfl ?_
  refine y_iload d_Lw_law_814 0 rfl ?_
  refine y_iconst d_Lw_law_816 (v := 4) (by decide) ?_
  refine y_iadd d_Lw_law_817 (v := nI ((7 * j) + 4)) (nI_add _ _) ?_
  refine y_sld (v := zs g (7 * j + 4)) d_Lw_law_818 (vp_in_nI (by omega) (by omega)) (by rw [nI_clamp (by omega)]; rfl) ?_
  refine y_aload_n d_Lw_law_819 rfl 2 rfl ?_
  refine yw_callSX (As := [.ref (ad 0), .int (zs g (7 * j + 1)), .int (zs g (7 * j + 2)), .int (zs g (7 * j + 3)), .int (zs g (7 * j + 4)), .ref (ad 69)]) (rest := []) ln_Lw_229 w_st_Lw_mill ok_Lw_law_Lw_mill d_Lw_law_820 (fun wA hA => W_mill (IVm.nil hA hI) _ _ _ _) rfl rfl (Nat.le_of_ble_eq_true rfl) (by omega) (by omega) (fun wA820 hA820 E wB820 hx => ?_) (fun wA820 hA820 v wB820 hx => ?_)
  · obtain ⟨⟨v9, e1⟩, -⟩ := hx
    cases e1
  · obtain ⟨⟨v9, e1⟩, uC, huC, hI2⟩ := hx
    cases e1
    refine yw_st (st2 := [.int v9]) rfl ?_
    have hI := hI2
    refine y_base (cs := []) (z_I.nil _) ?_
    refine y_istore (lv' := [(6, .int v9), (5, .int (nI (7 * j))), (4, .ref (ad 70)), (3, .ref (ad 69)), (2, .ref (ad 52)), (1, .ref (ad 0)), (0, .ref (g.2.2 40))]) d_Lw_law_823 (by decide) rfl ?_
    refine y_aload_n d_Lw_law_825 rfl 4 rfl ?_
    refine y_aload_n d_Lw_law_826 rfl 6 rfl ?_
    refine y_iload d_Lw_law_827 1 rfl ?_
    refine y_iconst d_Lw_law_829 (v := 1) (by decide) ?_
    refine y_iadd d_Lw_law_830 (v := nI ((7 * j) + 1)) (nI_add _ _) ?_
    refine y_sld (v := zs g (7 * j + 1)) d_Lw_law_831 (vp_in_nI (by omega) (by omega)) (by rw [nI_clamp (by omega)]; rfl) ?_
    refine y_aload_n d_Lw_law_832 rfl 6 rfl ?_
    refine y_iload d_Lw_law_833 1 rfl ?_
    refine y_iconst d_Lw_law_835 (v := 2) (by decide) ?_
    refine y_iadd d_Lw_law_836 (v := nI ((7 * j) + 2)) (nI_add _ _) ?_
    refine y_sld (v := zs g (7 * j + 2)) d_Lw_law_837 (vp_in_nI (by omega) (by omega)) (by rw [nI_clamp (by omega)]; rfl) ?_
    refine y_aload_n d_Lw_law_838 rfl 6 rfl ?_
    refine y_iload d_Lw_law_839 1 rfl ?_
    refine y_iconst d_Lw_law_841 (v := 3) (by decide) ?_
    refine y_iadd d_Lw_law_842 (v := nI ((7 * j) + 3)) (nI_add _ _) ?_
    refine y_sld (v := zs g (7 * j + 3)) d_Lw_law_843 (vp_in_nI (by omega) (by omega)) (by rw [nI_clamp (by omega)]; rfl) ?_
    refine y_aload_n d_Lw_law_844 rfl 6 rfl ?_
    refine y_iload d_Lw_law_845 1 rfl ?_
    refine y_iconst d_Lw_law_847 (v := 4) (by decide) ?_
    refine y_iadd d_Lw_law_848 (v := nI ((7 * j) + 4)) (nI_add _ _) ?_
    refine y_sld (v := zs g (7 * j + 4)) d_Lw_law_849 (vp_in_nI (by omega) (by omega)) (by rw [nI_clamp (by omega)]; rfl) ?_
    refine yw_callVL (As := [.int (zs g (7 * j + 1)), .int (zs g (7 * j + 2)), .int (zs g (7 * j + 3)), .int (zs g (7 * j + 4))]) (rest := []) (ci := 12) rfl (fun wA hA => (IVm.nil hA hI).rm) ln_Lw_231 w_im_Mm_mill w_se_Mm_mill ok_Lw_law_Mm_mill d_Lw_law_850 (fun wA hA => K_Mm_mill (IVm.nil hA hI) _ _ _ _) rfl rfl (Nat.le_of_ble_eq_true rfl) (by omega) (by omega) (fun wA850 hA850 E wB850 hx => ?_) (fun wA850 hA850 v wB850 hx => ?_)
    · obtain ⟨⟨v8, e1⟩, -⟩ := hx
      cases e1
    · obtain ⟨⟨v8, e1⟩, uM, huM, hI2⟩ := hx
      cases e1
      refine yw_st (st2 := [.int v8]) rfl ?_
      have hI := hI2
      refine y_base (cs := []) (z_I.nil _) ?_
      refine y_istore (lv' := [(7, .int v8), (6, .int v9), (5, .int (nI (7 * j))), (4, .ref (ad 70)), (3, .ref (ad 69)), (2, .ref (ad 52)), (1, .ref (ad 0)), (0, .ref (g.2.2 40))]) d_Lw_law_853 (by decide) rfl ?_
      refine y_goto (tgt := 1808) d_Lw_law_855 (by decide) ?_
      refine y_lv (lv' := [(5, .int (nI (7 * j))), (4, .ref (ad 70)), (3, .ref (ad 69)), (2, .ref (ad 52)), (1, .ref (ad 0)), (0, .ref (g.2.2 40))]) [2, 3, 4, 5, 6, 7] rfl ?_
      refine y_end (fun wC hC => ?_)
      exact LC_next (IVm.nil hC hI) ((R_mill _ _ _ _ hR huC huM).up (by omega)) hJ hL ih (by omega) (by omega)
theorem d_Lw_law_858 : decode code 858 = .ok (.aload_n 1, 1) := zo_43 (zd_b zq_code_26 26 rfl rfl rfl)
theorem d_Lw_law_859 : decode code 859 = .ok (.aload_n 0, 1) := zo_42 (zd_b zq_code_26 27 rfl rfl rfl)
theorem d_Lw_law_860 : decode code 860 = .ok (.iload 5, 2) := zo_21 (d := 5) (zd_b zq_code_26 28 rfl rfl rfl) (zd_b zq_code_26 29 rfl rfl rfl)
theorem d_Lw_law_862 : decode code 862 = .ok (.iconst 1, 1) := zo_4 (zd_b zq_code_26 30 rfl rfl rfl)
theorem d_Lw_law_863 : decode code 863 = .ok (.iadd, 1) := zo_96 (zd_b zq_code_26 31 rfl rfl rfl)
theorem d_Lw_law_864 : decode code 864 = .ok (.iaload, 1) := zo_46 (zd_b zq_code_27 0 rfl rfl rfl)
theorem d_Lw_law_865 : decode code 865 = .ok (.i2c, 1) := zo_146 (zd_b zq_code_27 1 rfl rfl rfl)
theorem d_Lw_law_866 : decode code 866 = .ok (.aload_n 3, 1) := zo_45 (zd_b zq_code_27 2 rfl rfl rfl)
theorem d_Lw_law_867 : decode code 867 = .ok (.invokestatic 232, 3) := zo_184 (d := 0) (e := 232) (zd_b zq_code_27 3 rfl rfl rfl) (zd_b zq_code_27 4 rfl rfl rfl) (zd_b zq_code_27 5 rfl rfl rfl)
theorem ok_Lw_law_Lw_sand : z_okX M_Lw_law M_Lw_sand 3 := ⟨z_mj4 (i := 191) rfl (by decide +kernel), by decide, ⟨by decide +kernel, by decide +kernel, by decide +kernel⟩, ⟨by decide, by decide⟩, z_mj1 (i := 0) rfl (by decide +kernel), rfl⟩
theorem ln_Lw_232 : Cond.methodLink "IronpourLaw" 232 M_Lw_sand.1 ∈ z_gw := z_mj4 (i := 189) rfl (by decide +kernel)
theorem w_st_Lw_sand : Cond.static M_Lw_sand.1 ∈ z_gw := z_mj4 (i := 190) rfl (by decide +kernel)
theorem d_Lw_law_870 : decode code 870 = .ok (.istore 6, 2) := zo_54 (d := 6) (zd_b zq_code_27 6 rfl rfl rfl) (zd_b zq_code_27 7 rfl rfl rfl)
theorem d_Lw_law_872 : decode code 872 = .ok (.aload_n 2, 1) := zo_44 (zd_b zq_code_27 8 rfl rfl rfl)
theorem d_Lw_law_873 : decode code 873 = .ok (.aload_n 0, 1) := zo_42 (zd_b zq_code_27 9 rfl rfl rfl)
theorem d_Lw_law_874 : decode code 874 = .ok (.iload 5, 2) := zo_21 (d := 5) (zd_b zq_code_27 10 rfl rfl rfl) (zd_b zq_code_27 11 rfl rfl rfl)
theorem d_Lw_law_876 : decode code 876 = .ok (.iconst 1, 1) := zo_4 (zd_b zq_code_27 12 rfl rfl rfl)
theorem d_Lw_law_877 : decode code 877 = .ok (.iadd, 1) := zo_96 (zd_b zq_code_27 13 rfl rfl rfl)
theorem d_Lw_law_878 : decode code 878 = .ok (.iaload, 1) := zo_46 (zd_b zq_code_27 14 rfl rfl rfl)
theorem d_Lw_law_879 : decode code 879 = .ok (.i2c, 1) := zo_146 (zd_b zq_code_27 15 rfl rfl rfl)
theorem d_Lw_law_880 : decode code 880 = .ok (.invokevirtual 235, 3) := zo_182 (d := 0) (e := 235) (zd_b zq_code_27 16 rfl rfl rfl) (zd_b zq_code_27 17 rfl rfl rfl) (zd_b zq_code_27 18 rfl rfl rfl)
theorem ok_Lw_law_Mm_sand : z_ok M_Lw_law M_Mm_sand 1 := ⟨z_mj8 (i := 114) rfl (by decide +kernel), rfl, ⟨by decide +kernel, by decide +kernel, by decide +kernel⟩, ⟨by decide, by decide⟩, z_mj1 (i := 14) rfl (by decide +kernel), rfl⟩
theorem ln_Lw_235 : Cond.methodLink "IronpourLaw" 235 M_Mm_sand.1 ∈ z_gw := z_mj8 (i := 111) rfl (by decide +kernel)
theorem w_im_Mm_sand : Cond.instanceMethod M_Mm_sand.1 ∈ z_gw := z_mj8 (i := 112) rfl (by decide +kernel)
theorem w_se_Mm_sand : Cond.selects M_Mm_sand.1.cls M_Mm_sand.1 M_Mm_sand.1 ∈ z_gw := z_mj8 (i := 113) rfl (by decide +kernel)
theorem d_Lw_law_883 : decode code 883 = .ok (.istore 7, 2) := zo_54 (d := 7) (zd_b zq_code_27 19 rfl rfl rfl) (zd_b zq_code_27 20 rfl rfl rfl)
theorem d_Lw_law_885 : decode code 885 = .ok (.goto 923, 3) := zo_167 (d := 3) (e := 155) (zd_b zq_code_27 21 rfl rfl rfl) (zd_b zq_code_27 22 rfl rfl rfl) (zd_b zq_code_27 23 rfl rfl rfl) (by decide +kernel)
set_option maxHeartbeats 4000000 in
set_option maxRecDepth 100000 in
theorem LC_sand {g : zG} {ad : Nat → Nat} {t : zTT} {u : zNN} {w : zW} {j : Nat} (hI : IVm g ad t u w) (hR : REL t u.1 (48 * j)) {r : Nat} (hJ : 7 * j + 7 ≤ g.2.2 41) (hL : g.2.2 41 ≤ 3584) (ih : LWI g ad j r) : DW g M_Lw_law lwQ w 858 [(5, .int (nI (7 * j))), (4, .ref (ad 70)), (3, .ref (ad 69)), (2, .ref (ad 52)), (1, .ref (ad 0)), (0, .ref (g.2.2 40))] [] (100 * (r + 1)) (1000 * (r + 1)) := by
  refine y_base (cs := []) (z_I.nil w) ?_
  refine y_aload_n d_Lw_law_858 rfl 4 rfl ?_
  refine y_aload_n d_Lw_law_859 rfl 5 rfl ?_
  refine y_iload d_Lw_law_860 0 rfl ?_
  refine y_iconst d_Lw_law_862 (v := 1) (by decide) ?_
  refine y_iadd d_Lw_law_863 (v := nI ((7 * j) + 1)) (nI_add _ _) ?_
  refine y_sld (v := zs g (7 * j + 1)) d_Lw_law_864 (vp_in_nI (by omega) (by omega)) (by rw [nI_clamp (by omega)]; rfl) ?_
  refine y_i2c d_Lw_law_865 (v := zc g (7 * j + 1)) rfl ?_
  refine y_aload_n d_Lw_law_866 rfl 2 rfl ?_
  refine yw_callSX (As := [.ref (ad 0), .int (zc g (7 * j + 1)), .ref (ad 69)]) (rest := []) ln_Lw_232 w_st_Lw_sand ok_Lw_law_Lw_sand d_Lw_law_867 (fun wA hA => W_sand (IVm.nil hA hI) _) rfl rfl (Nat.le_of_ble_eq_true rfl) (by omega) (by omega) (fun wA867 hA867 E wB867 hx => ?_) (fun wA867 hA867 v wB867 hx => ?_)
  · obtain ⟨⟨v9, e1⟩, -⟩ := hx
    cases e1
  · obtain ⟨⟨v9, e1⟩, uC, huC, hI2⟩ := hx
    cases e1
    refine yw_st (st2 := [.int v9]) rfl ?_
    have hI := hI2
    refine y_base (cs := []) (z_I.nil _) ?_
    refine y_istore (lv' := [(6, .int v9), (5, .int (nI (7 * j))), (4, .ref (ad 70)), (3, .ref (ad 69)), (2, .ref (ad 52)), (1, .ref (ad 0)), (0, .ref (g.2.2 40))]) d_Lw_law_870 (by decide) rfl ?_
    refine y_aload_n d_Lw_law_872 rfl 4 rfl ?_
    refine y_aload_n d_Lw_law_873 rfl 6 rfl ?_
    refine y_iload d_Lw_law_874 1 rfl ?_
    refine y_iconst d_Lw_law_876 (v := 1) (by decide) ?_
    refine y_iadd d_Lw_law_877 (v := nI ((7 * j) + 1)) (nI_add _ _) ?_
    refine y_sld (v := zs g (7 * j + 1)) d_Lw_law_878 (vp_in_nI (by omega) (by omega)) (by rw [nI_clamp (by omega)]; rfl) ?_
    refine y_i2c d_Lw_law_879 (v := zc g (7 * j + 1)) rfl ?_
    refine yw_callVL (As := [.int (zc g (7 * j + 1))]) (rest := []) (ci := 12) rfl (fun wA hA => (IVm.nil hA hI).rm) ln_Lw_235 w_im_Mm_sand w_se_Mm_sand ok_Lw_law_Mm_sand d_Lw_law_880 (fun wA hA => K_Mm_sand (IVm.nil hA hI) _) rfl rfl (Nat.le_of_ble_eq_true rfl) (by omega) (by omega) (fun wA880 hA880 E wB880 hx => ?_) (fun wA880 hA880 v wB880 hx => ?_)
    · obtain ⟨⟨v8, e1⟩, -⟩ := hx
      cases e1
    · obtain ⟨⟨v8, e1⟩, uM, huM, hI2⟩ := hx
      cases e1
      refine yw_st (st2 := [.int v8]) rfl ?_
      have hI := hI2
      refine y_base (cs := []) (z_I.nil _) ?_
      refine y_istore (lv' := [(7, .int v8), (6, .int v9), (5, .int (nI (7 * j))), (4, .ref (ad 70)), (3, .ref (ad 69)), (2, .ref (ad 52)), (1, .ref (ad 0)), (0, .ref (g.2.2 40))]) d_Lw_law_883 (by decide) rfl ?_
      refine y_goto (tgt := 1808) d_Lw_law_885 (by decide) ?_
      refine y_lv (lv' := [(5, .int (nI (7 * j))), (4, .ref (ad 70)), (3, .ref (ad 69)), (2, .ref (ad 52)), (1, .ref (ad 0)), (0, .ref (g.2.2 40))]) [2, 3, 4, 5, 6, 7] rfl ?_
      refine y_end (fun wC hC => ?_)
      exact LC_next (IVm.nil hC hI) ((hR.n (huM.trans huC)).up (by omega)) hJ hL ih (by omega) (by omega)
theorem d_Lw_law_888 : decode code 888 = .ok (.aload_n 1, 1) := zo_43 (zd_b zq_code_27 24 rfl rfl rfl)
theorem d_Lw_law_889 : decode code 889 = .ok (.aload_n 0, 1) := zo_42 (zd_b zq_code_27 25 rfl rfl rfl)
theorem d_Lw_law_890 : decode code 890 = .ok (.iload 5, 2) := zo_21 (d := 5) (zd_b zq_code_27 26 rfl rfl rfl) (zd_b zq_code_27 27 rfl rfl rfl)
theorem d_Lw_law_892 : decode code 892 = .ok (.iconst 1, 1) := zo_4 (zd_b zq_code_27 28 rfl rfl rfl)
theorem d_Lw_law_893 : decode code 893 = .ok (.iadd, 1) := zo_96 (zd_b zq_code_27 29 rfl rfl rfl)
theorem d_Lw_law_894 : decode code 894 = .ok (.iaload, 1) := zo_46 (zd_b zq_code_27 30 rfl rfl rfl)
theorem d_Lw_law_895 : decode code 895 = .ok (.aload_n 0, 1) := zo_42 (zd_b zq_code_27 31 rfl rfl rfl)
theorem d_Lw_law_896 : decode code 896 = .ok (.iload 5, 2) := zo_21 (d := 5) (zd_b zq_code_28 0 rfl rfl rfl) (zd_b zq_code_28 1 rfl rfl rfl)
theorem d_Lw_law_898 : decode code 898 = .ok (.iconst 2, 1) := zo_5 (zd_b zq_code_28 2 rfl rfl rfl)
theorem d_Lw_law_899 : decode code 899 = .ok (.iadd, 1) := zo_96 (zd_b zq_code_28 3 rfl rfl rfl)
theorem d_Lw_law_900 : decode code 900 = .ok (.iaload, 1) := zo_46 (zd_b zq_code_28 4 rfl rfl rfl)
theorem d_Lw_law_901 : decode code 901 = .ok (.aload_n 3, 1) := zo_45 (zd_b zq_code_28 5 rfl rfl rfl)
theorem d_Lw_law_902 : decode code 902 = .ok (.invokestatic 236, 3) := zo_184 (d := 0) (e := 236) (zd_b zq_code_28 6 rfl rfl rfl) (zd_b zq_code_28 7 rfl rfl rfl) (zd_b zq_code_28 8 rfl rfl rfl)
theorem ok_Lw_law_Lw_makeCores : z_okX M_Lw_law M_Lw_makeCores 4 := ⟨z_mj4 (i := 203) rfl (by decide +kernel), by decide, ⟨by decide +kernel, by decide +kernel, by decide +kernel⟩, ⟨by decide, by decide⟩, z_mj1 (i := 0) rfl (by decide +kernel), rfl⟩
theorem ln_Lw_236 : Cond.methodLink "IronpourLaw" 236 M_Lw_makeCores.1 ∈ z_gw := z_mj4 (i := 201) rfl (by decide +kernel)
theorem w_st_Lw_makeCores : Cond.static M_Lw_makeCores.1 ∈ z_gw := z_mj4 (i := 202) rfl (by decide +kernel)
theorem d_Lw_law_905 : decode code 905 = .ok (.istore 6, 2) := zo_54 (d := 6) (zd_b zq_code_28 9 rfl rfl rfl) (zd_b zq_code_28 10 rfl rfl rfl)
theorem d_Lw_law_907 : decode code 907 = .ok (.aload_n 2, 1) := zo_44 (zd_b zq_code_28 11 rfl rfl rfl)
theorem d_Lw_law_908 : decode code 908 = .ok (.aload_n 0, 1) := zo_42 (zd_b zq_code_28 12 rfl rfl rfl)
theorem d_Lw_law_909 : decode code 909 = .ok (.iload 5, 2) := zo_21 (d := 5) (zd_b zq_code_28 13 rfl rfl rfl) (zd_b zq_code_28 14 rfl rfl rfl)
theorem d_Lw_law_911 : decode code 911 = .ok (.iconst 1, 1) := zo_4 (zd_b zq_code_28 15 rfl rfl rfl)
theorem d_Lw_law_912 : decode code 912 = .ok (.iadd, 1) := zo_96 (zd_b zq_code_28 16 rfl rfl rfl)
theorem d_Lw_law_913 : decode code 913 = .ok (.iaload, 1) := zo_46 (zd_b zq_code_28 17 rfl rfl rfl)
theorem d_Lw_law_914 : decode code 914 = .ok (.aload_n 0, 1) := zo_42 (zd_b zq_code_28 18 rfl rfl rfl)
theorem d_Lw_law_915 : decode code 915 = .ok (.iload 5, 2) := zo_21 (d := 5) (zd_b zq_code_28 19 rfl rfl rfl) (zd_b zq_code_28 20 rfl rfl rfl)
theorem d_Lw_law_917 : decode code 917 = .ok (.iconst 2, 1) := zo_5 (zd_b zq_code_28 21 rfl rfl rfl)
theorem d_Lw_law_918 : decode code 918 = .ok (.iadd, 1) := zo_96 (zd_b zq_code_28 22 rfl rfl rfl)
theorem d_Lw_law_919 : decode code 919 = .ok (.iaload, 1) := zo_46 (zd_b zq_code_28 23 rfl rfl rfl)
theorem d_Lw_law_920 : decode code 920 = .ok (.invokevirtual 238, 3) := zo_182 (d := 0) (e := 238) (zd_b zq_code_28 24 rfl rfl rfl) (zd_b zq_code_28 25 rfl rfl rfl) (zd_b zq_code_28 26 rfl rfl rfl)
theorem ok_Lw_law_Mm_makeCores : z_ok M_Lw_law M_Mm_makeCores 2 := ⟨z_mj8 (i := 123) rfl (by decide +kernel), rfl, ⟨by decide +kernel, by decide +kernel, by decide +kernel⟩, ⟨by decide, by decide⟩, z_mj1 (i := 14) rfl (by decide +kernel), rfl⟩
theorem ln_Lw_238 : Cond.methodLink "IronpourLaw" 238 M_Mm_makeCores.1 ∈ z_gw := z_mj8 (i := 120) rfl (by decide +kernel)
theorem w_im_Mm_makeCores : Cond.instanceMethod M_Mm_makeCores.1 ∈ z_gw := z_mj8 (i := 121) rfl (by decide +kernel)
theorem w_se_Mm_makeCores : Cond.selects M_Mm_makeCores.1.cls M_Mm_makeCores.1 M_Mm_makeCores.1 ∈ z_gw := z_mj8 (i := 122) rfl (by decide +kernel)
theorem d_Lw_law_923 : decode code 923 = .ok (.istore 7, 2) := zo_54 (d := 7) (zd_b zq_code_28 27 rfl rfl rfl) (zd_b zq_code_28 28 rfl rfl rfl)
theorem d_Lw_law_925 : decode code 925 = .ok (.goto 883, 3) := zo_167 (d := 3) (e := 115) (zd_b zq_code_28 29 rfl rfl rfl) (zd_b zq_code_28 30 rfl rfl rfl) (zd_b zq_code_28 31 rfl rfl rfl) (by decide +kernel)
set_option maxHeartbeats 4000000 in
set_option maxRecDepth 100000 in
theorem LC_makeCores {g : zG} {ad : Nat → Nat} {t : zTT} {u : zNN} {w : zW} {j : Nat} (hI : IVm g ad t u w) (hR : REL t u.1 (48 * j)) {r : Nat} (hJ : 7 * j + 7 ≤ g.2.2 41) (hL : g.2.2 41 ≤ 3584) (ih : LWI g ad j r) : DW g M_Lw_law lwQ w 888 [(5, .int (nI (7 * j))), (4, .ref (ad 70)), (3, .ref (ad 69)), (2, .ref (ad 52)), (1, .ref (ad 0)), (0, .ref (g.2.2 40))] [] (100 * (r + 1)) (1000 * (r + 1)) := by
  refine y_base (cs := []) (z_I.nil w) ?_
  refine y_aload_n d_Lw_law_888 rfl 4 rfl ?_
  refine y_aload_n d_Lw_law_889 rfl 5 rfl ?_
  refine y_iload d_Lw_law_890 0 rfl ?_
  refine y_iconst d_Lw_law_892 (v := 1) (by decide) ?_
  refine y_iadd d_Lw_law_893 (v := nI ((7 * j) + 1)) (nI_add _ _) ?_
  refine y_sld (v := zs g (7 * j + 1)) d_Lw_law_894 (vp_in_nI (by omega) (by omega)) (by rw [nI_clamp (by omega)]; rfl) ?_
  refine y_aload_n d_Lw_law_895 rfl 5 rfl ?_
  refine y_iload d_Lw_law_896 0 rfl ?_
  refine y_iconst d_Lw_law_898 (v := 2) (by decide) ?_
  refine y_iadd d_Lw_law_899 (v := nI ((7 * j) + 2)) (nI_add _ _) ?_
  refine y_sld (v := zs g (7 * j + 2)) d_Lw_law_900 (vp_in_nI (by omega) (by omega)) (by rw [nI_clamp (by omega)]; rfl) ?_
  refine y_aload_n d_Lw_law_901 rfl 2 rfl ?_
  refine yw_callSX (As := [.ref (ad 0), .int (zs g (7 * j + 1)), .int (zs g (7 * j + 2)), .ref (ad 69)]) (rest := []) ln_Lw_236 w_st_Lw_makeCores ok_Lw_law_Lw_makeCores d_Lw_law_902 (fun wA hA => W_makeCores (IVm.nil hA hI) _ _) rfl rfl (Nat.le_of_ble_eq_true rfl) (by omega) (by omega) (fun wA902 hA902 E wB902 hx => ?_) (fun wA902 hA902 v wB902 hx => ?_)
  · obtain ⟨⟨v9, e1⟩, -⟩ := hx
    cases e1
  · obtain ⟨⟨v9, e1⟩, uC, huC, hI2⟩ := hx
    cases e1
    refine yw_st (st2 := [.int v9]) rfl ?_
    have hI := hI2
    refine y_base (cs := []) (z_I.nil _) ?_
    refine y_istore (lv' := [(6, .int v9), (5, .int (nI (7 * j))), (4, .ref (ad 70)), (3, .ref (ad 69)), (2, .ref (ad 52)), (1, .ref (ad 0)), (0, .ref (g.2.2 40))]) d_Lw_law_905 (by decide) rfl ?_
    refine y_aload_n d_Lw_law_907 rfl 4 rfl ?_
    refine y_aload_n d_Lw_law_908 rfl 6 rfl ?_
    refine y_iload d_Lw_law_909 1 rfl ?_
    refine y_iconst d_Lw_law_911 (v := 1) (by decide) ?_
    refine y_iadd d_Lw_law_912 (v := nI ((7 * j) + 1)) (nI_add _ _) ?_
    refine y_sld (v := zs g (7 * j + 1)) d_Lw_law_913 (vp_in_nI (by omega) (by omega)) (by rw [nI_clamp (by omega)]; rfl) ?_
    refine y_aload_n d_Lw_law_914 rfl 6 rfl ?_
    refine y_iload d_Lw_law_915 1 rfl ?_
    refine y_iconst d_Lw_law_917 (v := 2) (by decide) ?_
    refine y_iadd d_Lw_law_918 (v := nI ((7 * j) + 2)) (nI_add _ _) ?_
    refine y_sld (v := zs g (7 * j + 2)) d_Lw_law_919 (vp_in_nI (by omega) (by omega)) (by rw [nI_clamp (by omega)]; rfl) ?_
    refine yw_callVL (As := [.int (zs g (7 * j + 1)), .int (zs g (7 * j + 2))]) (rest := []) (ci := 12) rfl (fun wA hA => (IVm.nil hA hI).rm) ln_Lw_238 w_im_Mm_makeCores w_se_Mm_makeCores ok_Lw_law_Mm_makeCores d_Lw_law_920 (fun wA hA => K_Mm_makeCores (IVm.nil hA hI) _ _) rfl rfl (Nat.le_of_ble_eq_true rfl) (by omega) (by omega) (fun wA920 hA920 E wB920 hx => ?_) (fun wA920 hA920 v wB920 hx => ?_)
    · obtain ⟨⟨v8, e1⟩, -⟩ := hx
      cases e1
    · obtain ⟨⟨v8, e1⟩, uM, huM, hI2⟩ := hx
      cases e1
      refine yw_st (st2 := [.int v8]) rfl ?_
      have hI := hI2
      refine y_base (cs := []) (z_I.nil _) ?_
      refine y_istore (lv' := [(7, .int v8), (6, .int v9), (5, .int (nI (7 * j))), (4, .ref (ad 70)), (3, .ref (ad 69)), (2, .ref (ad 52)), (1, .ref (ad 0)), (0, .ref (g.2.2 40))]) d_Lw_law_923 (by decide) rfl ?_
      refine y_goto (tgt := 1808) d_Lw_law_925 (by decide) ?_
      refine y_lv (lv' := [(5, .int (nI (7 * j))), (4, .ref (ad 70)), (3, .ref (ad 69)), (2, .ref (ad 52)), (1, .ref (ad 0)), (0, .ref (g.2.2 40))]) [2, 3, 4, 5, 6, 7] rfl ?_
      refine y_end (fun wC hC => ?_)
      exact LC_next (IVm.nil hC hI) ((R_makeCores (by omega) _ _ hR huC huM).up (by omega)) hJ hL ih (by omega) (by omega)
theorem d_Lw_law_928 : decode code 928 = .ok (.aload_n 1, 1) := zo_43 (zd_b zq_code_29 0 rfl rfl rfl)
theorem d_Lw_law_929 : decode code 929 = .ok (.invokevirtual 239, 3) := zo_182 (d := 0) (e := 239) (zd_b zq_code_29 1 rfl rfl rfl) (zd_b zq_code_29 2 rfl rfl rfl) (zd_b zq_code_29 3 rfl rfl rfl)
theorem ok_Lw_law_Ip_goodCores : z_ok M_Lw_law M_Ip_goodCores 0 := ⟨z_mj2 (i := 156) rfl (by decide +kernel), rfl, ⟨by decide +kernel, by decide +kernel, by decide +kernel⟩, ⟨by decide, by decide⟩, z_mj1 (i := 1) rfl (by decide +kernel), rfl⟩
theorem ln_Lw_239 : Cond.methodLink "IronpourLaw" 239 M_Ip_goodCores.1 ∈ z_gw := z_mj2 (i := 153) rfl (by decide +kernel)
theorem w_im_Ip_goodCores : Cond.instanceMethod M_Ip_goodCores.1 ∈ z_gw := z_mj2 (i := 154) rfl (by decide +kernel)
theorem w_se_Ip_goodCores : Cond.selects M_Ip_goodCores.1.cls M_Ip_goodCores.1 M_Ip_goodCores.1 ∈ z_gw := z_mj2 (i := 155) rfl (by decide +kernel)
theorem d_Lw_law_932 : decode code 932 = .ok (.pop, 1) := zo_87 (zd_b zq_code_29 4 rfl rfl rfl)
theorem d_Lw_law_933 : decode code 933 = .ok (.aload_n 2, 1) := zo_44 (zd_b zq_code_29 5 rfl rfl rfl)
theorem d_Lw_law_934 : decode code 934 = .ok (.invokevirtual 242, 3) := zo_182 (d := 0) (e := 242) (zd_b zq_code_29 6 rfl rfl rfl) (zd_b zq_code_29 7 rfl rfl rfl) (zd_b zq_code_29 8 rfl rfl rfl)
theorem ok_Lw_law_Mm_goodCores : z_ok M_Lw_law M_Mm_goodCores 0 := ⟨z_mj8 (i := 135) rfl (by decide +kernel), rfl, ⟨by decide +kernel, by decide +kernel, by decide +kernel⟩, ⟨by decide, by decide⟩, z_mj1 (i := 14) rfl (by decide +kernel), rfl⟩
theorem ln_Lw_242 : Cond.methodLink "IronpourLaw" 242 M_Mm_goodCores.1 ∈ z_gw := z_mj8 (i := 132) rfl (by decide +kernel)
theorem w_im_Mm_goodCores : Cond.instanceMethod M_Mm_goodCores.1 ∈ z_gw := z_mj8 (i := 133) rfl (by decide +kernel)
theorem w_se_Mm_goodCores : Cond.selects M_Mm_goodCores.1.cls M_Mm_goodCores.1 M_Mm_goodCores.1 ∈ z_gw := z_mj8 (i := 134) rfl (by decide +kernel)
theorem d_Lw_law_937 : decode code 937 = .ok (.pop, 1) := zo_87 (zd_b zq_code_29 9 rfl rfl rfl)
theorem d_Lw_law_938 : decode code 938 = .ok (.goto 870, 3) := zo_167 (d := 3) (e := 102) (zd_b zq_code_29 10 rfl rfl rfl) (zd_b zq_code_29 11 rfl rfl rfl) (zd_b zq_code_29 12 rfl rfl rfl) (by decide +kernel)
set_option maxHeartbeats 4000000 in
set_option maxRecDepth 100000 in
theorem LC_goodCores {g : zG} {ad : Nat → Nat} {t : zTT} {u : zNN} {w : zW} {j : Nat} (hI : IVm g ad t u w) (hR : REL t u.1 (48 * j)) {r : Nat} (hJ : 7 * j + 7 ≤ g.2.2 41) (hL : g.2.2 41 ≤ 3584) (ih : LWI g ad j r) : DW g M_Lw_law lwQ w 928 [(5, .int (nI (7 * j))), (4, .ref (ad 70)), (3, .ref (ad 69)), (2, .ref (ad 52)), (1, .ref (ad 0)), (0, .ref (g.2.2 40))] [] (100 * (r + 1)) (1000 * (r + 1)) := by
  refine y_base (cs := []) (z_I.nil w) ?_
  refine y_aload_n d_Lw_law_928 rfl 4 rfl ?_
  refine yw_callVL (As := []) (rest := []) (ci := 11) rfl (fun wA hA => (IVm.nil hA hI).ra) ln_Lw_239 w_im_Ip_goodCores w_se_Ip_goodCores ok_Lw_law_Ip_goodCores d_Lw_law_929 (fun wA hA => K_Ip_goodCores (IVm.nil hA hI)) rfl rfl (Nat.le_of_ble_eq_true rfl) (by omega) (by omega) (fun wA929 hA929 E wB929 hx => ?_) (fun wA929 hA929 v wB929 hx => ?_)
  · obtain ⟨h1, -⟩ := hx
    cases zriE h1
  · obtain ⟨h1, uC, huC, hI2⟩ := hx
    obtain ⟨v9, rfl⟩ := zriV h1
    refine yw_st (st2 := [.int v9]) rfl ?_
    have hI := hI2
    refine y_base (cs := []) (z_I.nil _) ?_
    refine y_pop d_Lw_law_932 rfl ?_
    refine y_aload_n d_Lw_law_933 rfl 3 rfl ?_
    refine yw_callVL (As := []) (rest := []) (ci := 12) rfl (fun wA hA => (IVm.nil hA hI).rm) ln_Lw_242 w_im_Mm_goodCores w_se_Mm_goodCores ok_Lw_law_Mm_goodCores d_Lw_law_934 (fun wA hA => K_Mm_goodCores (IVm.nil hA hI)) rfl rfl (Nat.le_of_ble_eq_true rfl) (by omega) (by omega) (fun wA934 hA934 E wB934 hx => ?_) (fun wA934 hA934 v wB934 hx => ?_)
    · obtain ⟨⟨v8, e1⟩, -⟩ := hx
      cases e1
    · obtain ⟨⟨v8, e1⟩, uM, huM, hI2⟩ := hx
      cases e1
      refine yw_st (st2 := [.int v8]) rfl ?_
      have hI := hI2
      refine y_base (cs := []) (z_I.nil _) ?_
      refine y_pop d_Lw_law_937 rfl ?_
      refine y_goto (tgt := 1808) d_Lw_law_938 (by decide) ?_
      refine y_lv (lv' := [(5, .int (nI (7 * j))), (4, .ref (ad 70)), (3, .ref (ad 69)), (2, .ref (ad 52)), (1, .ref (ad 0)), (0, .ref (g.2.2 40))]) [0, 1, 2, 3, 4, 5] rfl ?_
      refine y_end (fun wC hC => ?_)
      exact LC_next (IVm.nil hC hI) ((hR.n (huM.trans huC)).up (by omega)) hJ hL ih (by omega) (by omega)
theorem d_Lw_law_941 : decode code 941 = .ok (.aload_n 1, 1) := zo_43 (zd_b zq_code_29 13 rfl rfl rfl)
theorem d_Lw_law_942 : decode code 942 = .ok (.aload_n 0, 1) := zo_42 (zd_b zq_code_29 14 rfl rfl rfl)
theorem d_Lw_law_943 : decode code 943 = .ok (.iload 5, 2) := zo_21 (d := 5) (zd_b zq_code_29 15 rfl rfl rfl) (zd_b zq_code_29 16 rfl rfl rfl)
theorem d_Lw_law_945 : decode code 945 = .ok (.iconst 1, 1) := zo_4 (zd_b zq_code_29 17 rfl rfl rfl)
theorem d_Lw_law_946 : decode code 946 = .ok (.iadd, 1) := zo_96 (zd_b zq_code_29 18 rfl rfl rfl)
theorem d_Lw_law_947 : decode code 947 = .ok (.iaload, 1) := zo_46 (zd_b zq_code_29 19 rfl rfl rfl)
theorem d_Lw_law_948 : decode code 948 = .ok (.aload_n 3, 1) := zo_45 (zd_b zq_code_29 20 rfl rfl rfl)
theorem d_Lw_law_949 : decode code 949 = .ok (.invokestatic 243, 3) := zo_184 (d := 0) (e := 243) (zd_b zq_code_29 21 rfl rfl rfl) (zd_b zq_code_29 22 rfl rfl rfl) (zd_b zq_code_29 23 rfl rfl rfl)
theorem ok_Lw_law_Lw_hours : z_okX M_Lw_law M_Lw_hours 3 := ⟨z_mj5 (i := 0) rfl (by decide +kernel), by decide, ⟨by decide +kernel, by decide +kernel, by decide +kernel⟩, ⟨by decide, by decide⟩, z_mj1 (i := 0) rfl (by decide +kernel), rfl⟩
theorem ln_Lw_243 : Cond.methodLink "IronpourLaw" 243 M_Lw_hours.1 ∈ z_gw := z_mj4 (i := 238) rfl (by decide +kernel)
theorem w_st_Lw_hours : Cond.static M_Lw_hours.1 ∈ z_gw := z_mj4 (i := 239) rfl (by decide +kernel)
theorem d_Lw_law_952 : decode code 952 = .ok (.istore 6, 2) := zo_54 (d := 6) (zd_b zq_code_29 24 rfl rfl rfl) (zd_b zq_code_29 25 rfl rfl rfl)
theorem d_Lw_law_954 : decode code 954 = .ok (.aload_n 2, 1) := zo_44 (zd_b zq_code_29 26 rfl rfl rfl)
theorem d_Lw_law_955 : decode code 955 = .ok (.aload_n 0, 1) := zo_42 (zd_b zq_code_29 27 rfl rfl rfl)
theorem d_Lw_law_956 : decode code 956 = .ok (.iload 5, 2) := zo_21 (d := 5) (zd_b zq_code_29 28 rfl rfl rfl) (zd_b zq_code_29 29 rfl rfl rfl)
theorem d_Lw_law_958 : decode code 958 = .ok (.iconst 1, 1) := zo_4 (zd_b zq_code_29 30 rfl rfl rfl)
theorem d_Lw_law_959 : decode code 959 = .ok (.iadd, 1) := zo_96 (zd_b zq_code_29 31 rfl rfl rfl)
theorem d_Lw_law_960 : decode code 960 = .ok (.iaload, 1) := zo_46 (zd_b zq_code_30 0 rfl rfl rfl)
theorem d_Lw_law_961 : decode code 961 = .ok (.invokevirtual 245, 3) := zo_182 (d := 0) (e := 245) (zd_b zq_code_30 1 rfl rfl rfl) (zd_b zq_code_30 2 rfl rfl rfl) (zd_b zq_code_30 3 rfl rfl rfl)
theorem ok_Lw_law_Mm_hours : z_ok M_Lw_law M_Mm_hours 1 := ⟨z_mj8 (i := 143) rfl (by decide +kernel), rfl, ⟨by decide +kernel, by decide +kernel, by decide +kernel⟩, ⟨by decide, by decide⟩, z_mj1 (i := 14) rfl (by decide +kernel), rfl⟩
theorem ln_Lw_245 : Cond.methodLink "IronpourLaw" 245 M_Mm_hours.1 ∈ z_gw := z_mj8 (i := 140) rfl (by decide +kernel)
theorem w_im_Mm_hours : Cond.instanceMethod M_Mm_hours.1 ∈ z_gw := z_mj8 (i := 141) rfl (by decide +kernel)
theorem w_se_Mm_hours : Cond.selects M_Mm_hours.1.cls M_Mm_hours.1 M_Mm_hours.1 ∈ z_gw := z_mj8 (i := 142) rfl (by decide +kernel)
theorem d_Lw_law_964 : decode code 964 = .ok (.istore 7, 2) := zo_54 (d := 7) (zd_b zq_code_30 4 rfl rfl rfl) (zd_b zq_code_30 5 rfl rfl rfl)
theorem d_Lw_law_966 : decode code 966 = .ok (.goto 842, 3) := zo_167 (d := 3) (e := 74) (zd_b zq_code_30 6 rfl rfl rfl) (zd_b zq_code_30 7 rfl rfl rfl) (zd_b zq_code_30 8 rfl rfl rfl) (by decide +kernel)
set_option maxHeartbeats 4000000 in
set_option maxRecDepth 100000 in
theorem LC_hours {g : zG} {ad : Nat → Nat} {t : zTT} {u : zNN} {w : zW} {j : Nat} (hI : IVm g ad t u w) (hR : REL t u.1 (48 * j)) {r : Nat} (hJ : 7 * j + 7 ≤ g.2.2 41) (hL : g.2.2 41 ≤ 3584) (ih : LWI g ad j r) : DW g M_Lw_law lwQ w 941 [(5, .int (nI (7 * j))), (4, .ref (ad 70)), (3, .ref (ad 69)), (2, .ref (ad 52)), (1, .ref (ad 0)), (0, .ref (g.2.2 40))] [] (100 * (r + 1)) (1000 * (r + 1)) := by
  refine y_base (cs := []) (z_I.nil w) ?_
  refine y_aload_n d_Lw_law_941 rfl 4 rfl ?_
  refine y_aload_n d_Lw_law_942 rfl 5 rfl ?_
  refine y_iload d_Lw_law_943 0 rfl ?_
  refine y_iconst d_Lw_law_945 (v := 1) (by decide) ?_
  refine y_iadd d_Lw_law_946 (v := nI ((7 * j) + 1)) (nI_add _ _) ?_
  refine y_sld (v := zs g (7 * j + 1)) d_Lw_law_947 (vp_in_nI (by omega) (by omega)) (by rw [nI_clamp (by omega)]; rfl) ?_
  refine y_aload_n d_Lw_law_948 rfl 2 rfl ?_
  refine yw_callSX (As := [.ref (ad 0), .int (zs g (7 * j + 1)), .ref (ad 69)]) (rest := []) ln_Lw_243 w_st_Lw_hours ok_Lw_law_Lw_hours d_Lw_law_949 (fun wA hA => W_hours (IVm.nil hA hI) _) rfl rfl (Nat.le_of_ble_eq_true rfl) (by omega) (by omega) (fun wA949 hA949 E wB949 hx => ?_) (fun wA949 hA949 v wB949 hx => ?_)
  · obtain ⟨⟨v9, e1⟩, -⟩ := hx
    cases e1
  · obtain ⟨⟨v9, e1⟩, uC, huC, hI2⟩ := hx
    cases e1
    refine yw_st (st2 := [.int v9]) rfl ?_
    have hI := hI2
    refine y_base (cs := []) (z_I.nil _) ?_
    refine y_istore (lv' := [(6, .int v9), (5, .int (nI (7 * j))), (4, .ref (ad 70)), (3, .ref (ad 69)), (2, .ref (ad 52)), (1, .ref (ad 0)), (0, .ref (g.2.2 40))]) d_Lw_law_952 (by decide) rfl ?_
    refine y_aload_n d_Lw_law_954 rfl 4 rfl ?_
    refine y_aload_n d_Lw_law_955 rfl 6 rfl ?_
    refine y_iload d_Lw_law_956 1 rfl ?_
    refine y_iconst d_Lw_law_958 (v := 1) (by decide) ?_
    refine y_iadd d_Lw_law_959 (v := nI ((7 * j) + 1)) (nI_add _ _) ?_
    refine y_sld (v := zs g (7 * j + 1)) d_Lw_law_960 (vp_in_nI (by omega) (by omega)) (by rw [nI_clamp (by omega)]; rfl) ?_
    refine yw_callVL (As := [.int (zs g (7 * j + 1))]) (rest := []) (ci := 12) rfl (fun wA hA => (IVm.nil hA hI).rm) ln_Lw_245 w_im_Mm_hours w_se_Mm_hours ok_Lw_law_Mm_hours d_Lw_law_961 (fun wA hA => K_Mm_hours (IVm.nil hA hI) _) rfl rfl (Nat.le_of_ble_eq_true rfl) (by omega) (by omega) (fun wA961 hA961 E wB961 hx => ?_) (fun wA961 hA961 v wB961 hx => ?_)
    · obtain ⟨⟨v8, e1⟩, -⟩ := hx
      cases e1
    · obtain ⟨⟨v8, e1⟩, uM, huM, hI2⟩ := hx
      cases e1
      refine yw_st (st2 := [.int v8]) rfl ?_
      have hI := hI2
      refine y_base (cs := []) (z_I.nil _) ?_
      refine y_istore (lv' := [(7, .int v8), (6, .int v9), (5, .int (nI (7 * j))), (4, .ref (ad 70)), (3, .ref (ad 69)), (2, .ref (ad 52)), (1, .ref (ad 0)), (0, .ref (g.2.2 40))]) d_Lw_law_964 (by decide) rfl ?_
      refine y_goto (tgt := 1808) d_Lw_law_966 (by decide) ?_
      refine y_lv (lv' := [(5, .int (nI (7 * j))), (4, .ref (ad 70)), (3, .ref (ad 69)), (2, .ref (ad 52)), (1, .ref (ad 0)), (0, .ref (g.2.2 40))]) [2, 3, 4, 5, 6, 7] rfl ?_
      refine y_end (fun wC hC => ?_)
      exact LC_next (IVm.nil hC hI) ((R_hours (b := 48 * j) (by omega) _ hR huC huM).up (by omega)) hJ hL ih (by omega) (by omega)
theorem d_Lw_law_969 : decode code 969 = .ok (.aload_n 1, 1) := zo_43 (zd_b zq_code_30 9 rfl rfl rfl)
theorem d_Lw_law_970 : decode code 970 = .ok (.aload_n 0, 1) := zo_42 (zd_b zq_code_30 10 rfl rfl rfl)
theorem d_Lw_law_971 : decode code 971 = .ok (.iload 5, 2) := zo_21 (d := 5) (zd_b zq_code_30 11 rfl rfl rfl) (zd_b zq_code_30 12 rfl rfl rfl)
theorem d_Lw_law_973 : decode code 973 = .ok (.iconst 1, 1) := zo_4 (zd_b zq_code_30 13 rfl rfl rfl)
theorem d_Lw_law_974 : decode code 974 = .ok (.iadd, 1) := zo_96 (zd_b zq_code_30 14 rfl rfl rfl)
theorem d_Lw_law_975 : decode code 975 = .ok (.iaload, 1) := zo_46 (zd_b zq_code_30 15 rfl rfl rfl)
theorem d_Lw_law_976 : decode code 976 = .ok (.i2c, 1) := zo_146 (zd_b zq_code_30 16 rfl rfl rfl)
theorem d_Lw_law_977 : decode code 977 = .ok (.aload_n 0, 1) := zo_42 (zd_b zq_code_30 17 rfl rfl rfl)
theorem d_Lw_law_978 : decode code 978 = .ok (.iload 5, 2) := zo_21 (d := 5) (zd_b zq_code_30 18 rfl rfl rfl) (zd_b zq_code_30 19 rfl rfl rfl)
theorem d_Lw_law_980 : decode code 980 = .ok (.iconst 2, 1) := zo_5 (zd_b zq_code_30 20 rfl rfl rfl)
theorem d_Lw_law_981 : decode code 981 = .ok (.iadd, 1) := zo_96 (zd_b zq_code_30 21 rfl rfl rfl)
theorem d_Lw_law_982 : decode code 982 = .ok (.iaload, 1) := zo_46 (zd_b zq_code_30 22 rfl rfl rfl)
theorem d_Lw_law_983 : decode code 983 = .ok (.aload_n 3, 1) := zo_45 (zd_b zq_code_30 23 rfl rfl rfl)
theorem d_Lw_law_984 : decode code 984 = .ok (.invokestatic 246, 3) := zo_184 (d := 0) (e := 246) (zd_b zq_code_30 24 rfl rfl rfl) (zd_b zq_code_30 25 rfl rfl rfl) (zd_b zq_code_30 26 rfl rfl rfl)
theorem ok_Lw_law_Lw_charge : z_okX M_Lw_law M_Lw_charge 4 := ⟨z_mj5 (i := 16) rfl (by decide +kernel), by decide, ⟨by decide +kernel, by decide +kernel, by decide +kernel⟩, ⟨by decide, by decide⟩, z_mj1 (i := 0) rfl (by decide +kernel), rfl⟩
theorem ln_Lw_246 : Cond.methodLink "IronpourLaw" 246 M_Lw_charge.1 ∈ z_gw := z_mj5 (i := 14) rfl (by decide +kernel)
theorem w_st_Lw_charge : Cond.static M_Lw_charge.1 ∈ z_gw := z_mj5 (i := 15) rfl (by decide +kernel)
theorem d_Lw_law_987 : decode code 987 = .ok (.istore 6, 2) := zo_54 (d := 6) (zd_b zq_code_30 27 rfl rfl rfl) (zd_b zq_code_30 28 rfl rfl rfl)
theorem d_Lw_law_989 : decode code 989 = .ok (.aload_n 2, 1) := zo_44 (zd_b zq_code_30 29 rfl rfl rfl)
theorem d_Lw_law_990 : decode code 990 = .ok (.aload_n 0, 1) := zo_42 (zd_b zq_code_30 30 rfl rfl rfl)
theorem d_Lw_law_991 : decode code 991 = .ok (.iload 5, 2) := zo_21 (d := 5) (zd_b zq_code_30 31 rfl rfl rfl) (zd_b zq_code_31 0 rfl rfl rfl)
theorem d_Lw_law_993 : decode code 993 = .ok (.iconst 1, 1) := zo_4 (zd_b zq_code_31 1 rfl rfl rfl)
theorem d_Lw_law_994 : decode code 994 = .ok (.iadd, 1) := zo_96 (zd_b zq_code_31 2 rfl rfl rfl)
theorem d_Lw_law_995 : decode code 995 = .ok (.iaload, 1) := zo_46 (zd_b zq_code_31 3 rfl rfl rfl)
theorem d_Lw_law_996 : decode code 996 = .ok (.i2c, 1) := zo_146 (zd_b zq_code_31 4 rfl rfl rfl)
theorem d_Lw_law_997 : decode code 997 = .ok (.aload_n 0, 1) := zo_42 (zd_b zq_code_31 5 rfl rfl rfl)
theorem d_Lw_law_998 : decode code 998 = .ok (.iload 5, 2) := zo_21 (d := 5) (zd_b zq_code_31 6 rfl rfl rfl) (zd_b zq_code_31 7 rfl rfl rfl)
theorem d_Lw_law_1000 : decode code 1000 = .ok (.iconst 2, 1) := zo_5 (zd_b zq_code_31 8 rfl rfl rfl)
theorem d_Lw_law_1001 : decode code 1001 = .ok (.iadd, 1) := zo_96 (zd_b zq_code_31 9 rfl rfl rfl)
theorem d_Lw_law_1002 : decode code 1002 = .ok (.iaload, 1) := zo_46 (zd_b zq_code_31 10 rfl rfl rfl)
theorem d_Lw_law_1003 : decode code 1003 = .ok (.invokevirtual 249, 3) := zo_182 (d := 0) (e := 249) (zd_b zq_code_31 11 rfl rfl rfl) (zd_b zq_code_31 12 rfl rfl rfl) (zd_b zq_code_31 13 rfl rfl rfl)
theorem ok_Lw_law_Mm_charge : z_ok M_Lw_law M_Mm_charge 2 := ⟨z_mj8 (i := 148) rfl (by decide +kernel), rfl, ⟨by decide +kernel, by decide +kernel, by decide +kernel⟩, ⟨by decide, by decide⟩, z_mj1 (i := 14) rfl (by decide +kernel), rfl⟩
theorem ln_Lw_249 : Cond.methodLink "IronpourLaw" 249 M_Mm_charge.1 ∈ z_gw := z_mj8 (i := 145) rfl (by decide +kernel)
theorem w_im_Mm_charge : Cond.instanceMethod M_Mm_charge.1 ∈ z_gw := z_mj8 (i := 146) rfl (by decide +kernel)
theorem w_se_Mm_charge : Cond.selects M_Mm_charge.1.cls M_Mm_charge.1 M_Mm_charge.1 ∈ z_gw := z_mj8 (i := 147) rfl (by decide +kernel)
theorem d_Lw_law_1006 : decode code 1006 = .ok (.istore 7, 2) := zo_54 (d := 7) (zd_b zq_code_31 14 rfl rfl rfl) (zd_b zq_code_31 15 rfl rfl rfl)
theorem d_Lw_law_1008 : decode code 1008 = .ok (.goto 800, 3) := zo_167 (d := 3) (e := 32) (zd_b zq_code_31 16 rfl rfl rfl) (zd_b zq_code_31 17 rfl rfl rfl) (zd_b zq_code_31 18 rfl rfl rfl) (by decide +kernel)
set_option maxHeartbeats 4000000 in
set_option maxRecDepth 100000 in
theorem LC_charge {g : zG} {ad : Nat → Nat} {t : zTT} {u : zNN} {w : zW} {j : Nat} (hI : IVm g ad t u w) (hR : REL t u.1 (48 * j)) {r : Nat} (hJ : 7 * j + 7 ≤ g.2.2 41) (hL : g.2.2 41 ≤ 3584) (ih : LWI g ad j r) : DW g M_Lw_law lwQ w 969 [(5, .int (nI (7 * j))), (4, .ref (ad 70)), (3, .ref (ad 69)), (2, .ref (ad 52)), (1, .ref (ad 0)), (0, .ref (g.2.2 40))] [] (100 * (r + 1)) (1000 * (r + 1)) := by
  refine y_base (cs := []) (z_I.nil w) ?_
  refine y_aload_n d_Lw_law_969 rfl 4 rfl ?_
  refine y_aload_n d_Lw_law_970 rfl 5 rfl ?_
  refine y_iload d_Lw_law_971 0 rfl ?_
  refine y_iconst d_Lw_law_973 (v := 1) (by decide) ?_
  refine y_iadd d_Lw_law_974 (v := nI ((7 * j) + 1)) (nI_add _ _) ?_
  refine y_sld (v := zs g (7 * j + 1)) d_Lw_law_975 (vp_in_nI (by omega) (by omega)) (by rw [nI_clamp (by omega)]; rfl) ?_
  refine y_i2c d_Lw_law_976 (v := zc g (7 * j + 1)) rfl ?_
  refine y_aload_n d_Lw_law_977 rfl 5 rfl ?_
  refine y_iload d_Lw_law_978 0 rfl ?_
  refine y_iconst d_Lw_law_980 (v := 2) (by decide) ?_
  refine y_iadd d_Lw_law_981 (v := nI ((7 * j) + 2)) (nI_add _ _) ?_
  refine y_sld (v := zs g (7 * j + 2)) d_Lw_law_982 (vp_in_nI (by omega) (by omega)) (by rw [nI_clamp (by omega)]; rfl) ?_
  refine y_aload_n d_Lw_law_983 rfl 2 rfl ?_
  refine yw_callSX (As := [.ref (ad 0), .int (zc g (7 * j + 1)), .int (zs g (7 * j + 2)), .ref (ad 69)]) (rest := []) ln_Lw_246 w_st_Lw_charge ok_Lw_law_Lw_charge d_Lw_law_984 (fun wA hA => W_charge (IVm.nil hA hI) _ _) rfl rfl (Nat.le_of_ble_eq_true rfl) (by omega) (by omega) (fun wA984 hA984 E wB984 hx => ?_) (fun wA984 hA984 v wB984 hx => ?_)
  · obtain ⟨⟨v9, e1⟩, -⟩ := hx
    cases e1
  · obtain ⟨⟨v9, e1⟩, uC, huC, hI2⟩ := hx
    cases e1
    refine yw_st (st2 := [.int v9]) rfl ?_
    have hI := hI2
    refine y_base (cs := []) (z_I.nil _) ?_
    refine y_istore (lv' := [(6, .int v9), (5, .int (nI (7 * j))), (4, .ref (ad 70)), (3, .ref (ad 69)), (2, .ref (ad 52)), (1, .ref (ad 0)), (0, .ref (g.2.2 40))]) d_Lw_law_987 (by decide) rfl ?_
    refine y_aload_n d_Lw_law_989 rfl 4 rfl ?_
    refine y_aload_n d_Lw_law_990 rfl 6 rfl ?_
    refine y_iload d_Lw_law_991 1 rfl ?_
    refine y_iconst d_Lw_law_993 (v := 1) (by decide) ?_
    refine y_iadd d_Lw_law_994 (v := nI ((7 * j) + 1)) (nI_add _ _) ?_
    refine y_sld (v := zs g (7 * j + 1)) d_Lw_law_995 (vp_in_nI (by omega) (by omega)) (by rw [nI_clamp (by omega)]; rfl) ?_
    refine y_i2c d_Lw_law_996 (v := zc g (7 * j + 1)) rfl ?_
    refine y_aload_n d_Lw_law_997 rfl 6 rfl ?_
    refine y_iload d_Lw_law_998 1 rfl ?_
    refine y_iconst d_Lw_law_1000 (v := 2) (by decide) ?_
    refine y_iadd d_Lw_law_1001 (v := nI ((7 * j) + 2)) (nI_add _ _) ?_
    refine y_sld (v := zs g (7 * j + 2)) d_Lw_law_1002 (vp_in_nI (by omega) (by omega)) (by rw [nI_clamp (by omega)]; rfl) ?_
    refine yw_callVL (As := [.int (zc g (7 * j + 1)), .int (zs g (7 * j + 2))]) (rest := []) (ci := 12) rfl (fun wA hA => (IVm.nil hA hI).rm) ln_Lw_249 w_im_Mm_charge w_se_Mm_charge ok_Lw_law_Mm_charge d_Lw_law_1003 (fun wA hA => K_Mm_charge (IVm.nil hA hI) _ _) rfl rfl (Nat.le_of_ble_eq_true rfl) (by omega) (by omega) (fun wA1003 hA1003 E wB1003 hx => ?_) (fun wA1003 hA1003 v wB1003 hx => ?_)
    · obtain ⟨⟨v8, e1⟩, -⟩ := hx
      cases e1
    · obtain ⟨⟨v8, e1⟩, uM, huM, hI2⟩ := hx
      cases e1
      refine yw_st (st2 := [.int v8]) rfl ?_
      have hI := hI2
      refine y_base (cs := []) (z_I.nil _) ?_
      refine y_istore (lv' := [(7, .int v8), (6, .int v9), (5, .int (nI (7 * j))), (4, .ref (ad 70)), (3, .ref (ad 69)), (2, .ref (ad 52)), (1, .ref (ad 0)), (0, .ref (g.2.2 40))]) d_Lw_law_1006 (by decide) rfl ?_
      refine y_goto (tgt := 1808) d_Lw_law_1008 (by decide) ?_
      refine y_lv (lv' := [(5, .int (nI (7 * j))), (4, .ref (ad 70)), (3, .ref (ad 69)), (2, .ref (ad 52)), (1, .ref (ad 0)), (0, .ref (g.2.2 40))]) [2, 3, 4, 5, 6, 7] rfl ?_
      refine y_end (fun wC hC => ?_)
      exact LC_next (IVm.nil hC hI) ((R_charge _ _ hR huC huM).up (by omega)) hJ hL ih (by omega) (by omega)
theorem d_Lw_law_1011 : decode code 1011 = .ok (.aload_n 1, 1) := zo_43 (zd_b zq_code_31 19 rfl rfl rfl)
theorem d_Lw_law_1012 : decode code 1012 = .ok (.aload_n 0, 1) := zo_42 (zd_b zq_code_31 20 rfl rfl rfl)
theorem d_Lw_law_1013 : decode code 1013 = .ok (.iload 5, 2) := zo_21 (d := 5) (zd_b zq_code_31 21 rfl rfl rfl) (zd_b zq_code_31 22 rfl rfl rfl)
theorem d_Lw_law_1015 : decode code 1015 = .ok (.iconst 1, 1) := zo_4 (zd_b zq_code_31 23 rfl rfl rfl)
theorem d_Lw_law_1016 : decode code 1016 = .ok (.iadd, 1) := zo_96 (zd_b zq_code_31 24 rfl rfl rfl)
theorem d_Lw_law_1017 : decode code 1017 = .ok (.iaload, 1) := zo_46 (zd_b zq_code_31 25 rfl rfl rfl)
theorem d_Lw_law_1018 : decode code 1018 = .ok (.i2c, 1) := zo_146 (zd_b zq_code_31 26 rfl rfl rfl)
theorem d_Lw_law_1019 : decode code 1019 = .ok (.aload_n 3, 1) := zo_45 (zd_b zq_code_31 27 rfl rfl rfl)
theorem d_Lw_law_1020 : decode code 1020 = .ok (.invokestatic 250, 3) := zo_184 (d := 0) (e := 250) (zd_b zq_code_31 28 rfl rfl rfl) (zd_b zq_code_31 29 rfl rfl rfl) (zd_b zq_code_31 30 rfl rfl rfl)
theorem ok_Lw_law_Lw_furnace : z_okX M_Lw_law M_Lw_furnace 3 := ⟨z_mj5 (i := 67) rfl (by decide +kernel), by decide, ⟨by decide +kernel, by decide +kernel, by decide +kernel⟩, ⟨by decide, by decide⟩, z_mj1 (i := 0) rfl (by decide +kernel), rfl⟩
theorem ln_Lw_250 : Cond.methodLink "IronpourLaw" 250 M_Lw_furnace.1 ∈ z_gw := z_mj5 (i := 65) rfl (by decide +kernel)
theorem w_st_Lw_furnace : Cond.static M_Lw_furnace.1 ∈ z_gw := z_mj5 (i := 66) rfl (by decide +kernel)
theorem d_Lw_law_1023 : decode code 1023 = .ok (.istore 6, 2) := zo_54 (d := 6) (zd_b zq_code_31 31 rfl rfl rfl) (zd_b zq_code_32 0 rfl rfl rfl)
theorem d_Lw_law_1025 : decode code 1025 = .ok (.aload_n 2, 1) := zo_44 (zd_b zq_code_32 1 rfl rfl rfl)
theorem d_Lw_law_1026 : decode code 1026 = .ok (.aload_n 0, 1) := zo_42 (zd_b zq_code_32 2 rfl rfl rfl)
theorem d_Lw_law_1027 : decode code 1027 = .ok (.iload 5, 2) := zo_21 (d := 5) (zd_b zq_code_32 3 rfl rfl rfl) (zd_b zq_code_32 4 rfl rfl rfl)
theorem d_Lw_law_1029 : decode code 1029 = .ok (.iconst 1, 1) := zo_4 (zd_b zq_code_32 5 rfl rfl rfl)
theorem d_Lw_law_1030 : decode code 1030 = .ok (.iadd, 1) := zo_96 (zd_b zq_code_32 6 rfl rfl rfl)
theorem d_Lw_law_1031 : decode code 1031 = .ok (.iaload, 1) := zo_46 (zd_b zq_code_32 7 rfl rfl rfl)
theorem d_Lw_law_1032 : decode code 1032 = .ok (.i2c, 1) := zo_146 (zd_b zq_code_32 8 rfl rfl rfl)
theorem d_Lw_law_1033 : decode code 1033 = .ok (.invokevirtual 252, 3) := zo_182 (d := 0) (e := 252) (zd_b zq_code_32 9 rfl rfl rfl) (zd_b zq_code_32 10 rfl rfl rfl) (zd_b zq_code_32 11 rfl rfl rfl)
theorem ok_Lw_law_Mm_furnace : z_ok M_Lw_law M_Mm_furnace 1 := ⟨z_mj8 (i := 161) rfl (by decide +kernel), rfl, ⟨by decide +kernel, by decide +kernel, by decide +kernel⟩, ⟨by decide, by decide⟩, z_mj1 (i := 14) rfl (by decide +kernel), rfl⟩
theorem ln_Lw_252 : Cond.methodLink "IronpourLaw" 252 M_Mm_furnace.1 ∈ z_gw := z_mj8 (i := 158) rfl (by decide +kernel)
theorem w_im_Mm_furnace : Cond.instanceMethod M_Mm_furnace.1 ∈ z_gw := z_mj8 (i := 159) rfl (by decide +kernel)
theorem w_se_Mm_furnace : Cond.selects M_Mm_furnace.1.cls M_Mm_furnace.1 M_Mm_furnace.1 ∈ z_gw := z_mj8 (i := 160) rfl (by decide +kernel)
theorem d_Lw_law_1036 : decode code 1036 = .ok (.istore 7, 2) := zo_54 (d := 7) (zd_b zq_code_32 12 rfl rfl rfl) (zd_b zq_code_32 13 rfl rfl rfl)
theorem d_Lw_law_1038 : decode code 1038 = .ok (.goto 770, 3) := zo_167 (d := 3) (e := 2) (zd_b zq_code_32 14 rfl rfl rfl) (zd_b zq_code_32 15 rfl rfl rfl) (zd_b zq_code_32 16 rfl rfl rfl) (by decide +kernel)
set_option maxHeartbeats 4000000 in
set_option maxRecDepth 100000 in
theorem LC_furnace {g : zG} {ad : Nat → Nat} {t : zTT} {u : zNN} {w : zW} {j : Nat} (hI : IVm g ad t u w) (hR : REL t u.1 (48 * j)) {r : Nat} (hJ : 7 * j + 7 ≤ g.2.2 41) (hL : g.2.2 41 ≤ 3584) (ih : LWI g ad j r) : DW g M_Lw_law lwQ w 1011 [(5, .int (nI (7 * j))), (4, .ref (ad 70)), (3, .ref (ad 69)), (2, .ref (ad 52)), (1, .ref (ad 0)), (0, .ref (g.2.2 40))] [] (100 * (r + 1)) (1000 * (r + 1)) := by
  refine y_base (cs := []) (z_I.nil w) ?_
  refine y_aload_n d_Lw_law_1011 rfl 4 rfl ?_
  refine y_aload_n d_Lw_law_1012 rfl 5 rfl ?_
  refine y_iload d_Lw_law_1013 0 rfl ?_
  refine y_iconst d_Lw_law_1015 (v := 1) (by decide) ?_
  refine y_iadd d_Lw_law_1016 (v := nI ((7 * j) + 1)) (nI_add _ _) ?_
  refine y_sld (v := zs g (7 * j + 1)) d_Lw_law_1017 (vp_in_nI (by omega) (by omega)) (by rw [nI_clamp (by omega)]; rfl) ?_
  refine y_i2c d_Lw_law_1018 (v := zc g (7 * j + 1)) rfl ?_
  refine y_aload_n d_Lw_law_1019 rfl 2 rfl ?_
  refine yw_callSX (As := [.ref (ad 0), .int (zc g (7 * j + 1)), .ref (ad 69)]) (rest := []) ln_Lw_250 w_st_Lw_furnace ok_Lw_law_Lw_furnace d_Lw_law_1020 (fun wA hA => W_furnace (IVm.nil hA hI) _) rfl rfl (Nat.le_of_ble_eq_true rfl) (by omega) (by omega) (fun wA1020 hA1020 E wB1020 hx => ?_) (fun wA1020 hA1020 v wB1020 hx => ?_)
  · obtain ⟨⟨v9, e1⟩, -⟩ := hx
    cases e1
  · obtain ⟨⟨v9, e1⟩, uC, huC, hI2⟩ := hx
    cases e1
    refine yw_st (st2 := [.int v9]) rfl ?_
    have hI := hI2
    refine y_base (cs := []) (z_I.nil _) ?_
    refine y_istore (lv' := [(6, .int v9), (5, .int (nI (7 * j))), (4, .ref (ad 70)), (3, .ref (ad 69)), (2, .ref (ad 52)), (1, .ref (ad 0)), (0, .ref (g.2.2 40))]) d_Lw_law_1023 (by decide) rfl ?_
    refine y_aload_n d_Lw_law_1025 rfl 4 rfl ?_
    refine y_aload_n d_Lw_law_1026 rfl 6 rfl ?_
    refine y_iload d_Lw_law_1027 1 rfl ?_
    refine y_iconst d_Lw_law_1029 (v := 1) (by decide) ?_
    refine y_iadd d_Lw_law_1030 (v := nI ((7 * j) + 1)) (nI_add _ _) ?_
    refine y_sld (v := zs g (7 * j + 1)) d_Lw_law_1031 (vp_in_nI (by omega) (by omega)) (by rw [nI_clamp (by omega)]; rfl) ?_
    refine y_i2c d_Lw_law_1032 (v := zc g (7 * j + 1)) rfl ?_
    refine yw_callVL (As := [.int (zc g (7 * j + 1))]) (rest := []) (ci := 12) rfl (fun wA hA => (IVm.nil hA hI).rm) ln_Lw_252 w_im_Mm_furnace w_se_Mm_furnace ok_Lw_law_Mm_furnace d_Lw_law_1033 (fun wA hA => K_Mm_furnace (IVm.nil hA hI) _) rfl rfl (Nat.le_of_ble_eq_true rfl) (by omega) (by omega) (fun wA1033 hA1033 E wB1033 hx => ?_) (fun wA1033 hA1033 v wB1033 hx => ?_)
    · obtain ⟨⟨v8, e1⟩, -⟩ := hx
      cases e1
    · obtain ⟨⟨v8, e1⟩, uM, huM, hI2⟩ := hx
      cases e1
      refine yw_st (st2 := [.int v8]) rfl ?_
      have hI := hI2
      refine y_base (cs := []) (z_I.nil _) ?_
      refine y_istore (lv' := [(7, .int v8), (6, .int v9), (5, .int (nI (7 * j))), (4, .ref (ad 70)), (3, .ref (ad 69)), (2, .ref (ad 52)), (1, .ref (ad 0)), (0, .ref (g.2.2 40))]) d_Lw_law_1036 (by decide) rfl ?_
      refine y_goto (tgt := 1808) d_Lw_law_1038 (by decide) ?_
      refine y_lv (lv' := [(5, .int (nI (7 * j))), (4, .ref (ad 70)), (3, .ref (ad 69)), (2, .ref (ad 52)), (1, .ref (ad 0)), (0, .ref (g.2.2 40))]) [2, 3, 4, 5, 6, 7] rfl ?_
      refine y_end (fun wC hC => ?_)
      exact LC_next (IVm.nil hC hI) ((hR.n (huM.trans huC)).up (by omega)) hJ hL ih (by omega) (by omega)
theorem d_Lw_law_1041 : decode code 1041 = .ok (.aload_n 1, 1) := zo_43 (zd_b zq_code_32 17 rfl rfl rfl)
theorem d_Lw_law_1042 : decode code 1042 = .ok (.aload_n 0, 1) := zo_42 (zd_b zq_code_32 18 rfl rfl rfl)
theorem d_Lw_law_1043 : decode code 1043 = .ok (.iload 5, 2) := zo_21 (d := 5) (zd_b zq_code_32 19 rfl rfl rfl) (zd_b zq_code_32 20 rfl rfl rfl)
theorem d_Lw_law_1045 : decode code 1045 = .ok (.iconst 1, 1) := zo_4 (zd_b zq_code_32 21 rfl rfl rfl)
theorem d_Lw_law_1046 : decode code 1046 = .ok (.iadd, 1) := zo_96 (zd_b zq_code_32 22 rfl rfl rfl)
theorem d_Lw_law_1047 : decode code 1047 = .ok (.iaload, 1) := zo_46 (zd_b zq_code_32 23 rfl rfl rfl)
theorem d_Lw_law_1048 : decode code 1048 = .ok (.aload_n 3, 1) := zo_45 (zd_b zq_code_32 24 rfl rfl rfl)
theorem d_Lw_law_1049 : decode code 1049 = .ok (.invokestatic 253, 3) := zo_184 (d := 0) (e := 253) (zd_b zq_code_32 25 rfl rfl rfl) (zd_b zq_code_32 26 rfl rfl rfl) (zd_b zq_code_32 27 rfl rfl rfl)
theorem ok_Lw_law_Lw_hold : z_okX M_Lw_law M_Lw_hold 3 := ⟨z_mj5 (i := 85) rfl (by decide +kernel), by decide, ⟨by decide +kernel, by decide +kernel, by decide +kernel⟩, ⟨by decide, by decide⟩, z_mj1 (i := 0) rfl (by decide +kernel), rfl⟩
theorem ln_Lw_253 : Cond.methodLink "IronpourLaw" 253 M_Lw_hold.1 ∈ z_gw := z_mj5 (i := 83) rfl (by decide +kernel)
theorem w_st_Lw_hold : Cond.static M_Lw_hold.1 ∈ z_gw := z_mj5 (i := 84) rfl (by decide +kernel)
theorem d_Lw_law_1052 : decode code 1052 = .ok (.istore 6, 2) := zo_54 (d := 6) (zd_b zq_code_32 28 rfl rfl rfl) (zd_b zq_code_32 29 rfl rfl rfl)
theorem d_Lw_law_1054 : decode code 1054 = .ok (.aload_n 2, 1) := zo_44 (zd_b zq_code_32 30 rfl rfl rfl)
theorem d_Lw_law_1055 : decode code 1055 = .ok (.aload_n 0, 1) := zo_42 (zd_b zq_code_32 31 rfl rfl rfl)
theorem d_Lw_law_1056 : decode code 1056 = .ok (.iload 5, 2) := zo_21 (d := 5) (zd_b zq_code_33 0 rfl rfl rfl) (zd_b zq_code_33 1 rfl rfl rfl)
theorem d_Lw_law_1058 : decode code 1058 = .ok (.iconst 1, 1) := zo_4 (zd_b zq_code_33 2 rfl rfl rfl)
theorem d_Lw_law_1059 : decode code 1059 = .ok (.iadd, 1) := zo_96 (zd_b zq_code_33 3 rfl rfl rfl)
theorem d_Lw_law_1060 : decode code 1060 = .ok (.iaload, 1) := zo_46 (zd_b zq_code_33 4 rfl rfl rfl)
theorem d_Lw_law_1061 : decode code 1061 = .ok (.invokevirtual 255, 3) := zo_182 (d := 0) (e := 255) (zd_b zq_code_33 5 rfl rfl rfl) (zd_b zq_code_33 6 rfl rfl rfl) (zd_b zq_code_33 7 rfl rfl rfl)
theorem ok_Lw_law_Mm_hold : z_ok M_Lw_law M_Mm_hold 1 := ⟨z_mj8 (i := 173) rfl (by decide +kernel), rfl, ⟨by decide +kernel, by decide +kernel, by decide +kernel⟩, ⟨by decide, by decide⟩, z_mj1 (i := 14) rfl (by decide +kernel), rfl⟩
theorem ln_Lw_255 : Cond.methodLink "IronpourLaw" 255 M_Mm_hold.1 ∈ z_gw := z_mj8 (i := 170) rfl (by decide +kernel)
theorem w_im_Mm_hold : Cond.instanceMethod M_Mm_hold.1 ∈ z_gw := z_mj8 (i := 171) rfl (by decide +kernel)
theorem w_se_Mm_hold : Cond.selects M_Mm_hold.1.cls M_Mm_hold.1 M_Mm_hold.1 ∈ z_gw := z_mj8 (i := 172) rfl (by decide +kernel)
theorem d_Lw_law_1064 : decode code 1064 = .ok (.istore 7, 2) := zo_54 (d := 7) (zd_b zq_code_33 8 rfl rfl rfl) (zd_b zq_code_33 9 rfl rfl rfl)
theorem d_Lw_law_1066 : decode code 1066 = .ok (.goto 742, 3) := zo_167 (d := 2) (e := 230) (zd_b zq_code_33 10 rfl rfl rfl) (zd_b zq_code_33 11 rfl rfl rfl) (zd_b zq_code_33 12 rfl rfl rfl) (by decide +kernel)
set_option maxHeartbeats 4000000 in
set_option maxRecDepth 100000 in
theorem LC_hold {g : zG} {ad : Nat → Nat} {t : zTT} {u : zNN} {w : zW} {j : Nat} (hI : IVm g ad t u w) (hR : REL t u.1 (48 * j)) {r : Nat} (hJ : 7 * j + 7 ≤ g.2.2 41) (hL : g.2.2 41 ≤ 3584) (ih : LWI g ad j r) : DW g M_Lw_law lwQ w 1041 [(5, .int (nI (7 * j))), (4, .ref (ad 70)), (3, .ref (ad 69)), (2, .ref (ad 52)), (1, .ref (ad 0)), (0, .ref (g.2.2 40))] [] (100 * (r + 1)) (1000 * (r + 1)) := by
  refine y_base (cs := []) (z_I.nil w) ?_
  refine y_aload_n d_Lw_law_1041 rfl 4 rfl ?_
  refine y_aload_n d_Lw_law_1042 rfl 5 rfl ?_
  refine y_iload d_Lw_law_1043 0 rfl ?_
  refine y_iconst d_Lw_law_1045 (v := 1) (by decide) ?_
  refine y_iadd d_Lw_law_1046 (v := nI ((7 * j) + 1)) (nI_add _ _) ?_
  refine y_sld (v := zs g (7 * j + 1)) d_Lw_law_1047 (vp_in_nI (by omega) (by omega)) (by rw [nI_clamp (by omega)]; rfl) ?_
  refine y_aload_n d_Lw_law_1048 rfl 2 rfl ?_
  refine yw_callSX (As := [.ref (ad 0), .int (zs g (7 * j + 1)), .ref (ad 69)]) (rest := []) ln_Lw_253 w_st_Lw_hold ok_Lw_law_Lw_hold d_Lw_law_1049 (fun wA hA => W_hold (IVm.nil hA hI) _) rfl rfl (Nat.le_of_ble_eq_true rfl) (by omega) (by omega) (fun wA1049 hA1049 E wB1049 hx => ?_) (fun wA1049 hA1049 v wB1049 hx => ?_)
  · obtain ⟨⟨v9, e1⟩, -⟩ := hx
    cases e1
  · obtain ⟨⟨v9, e1⟩, uC, huC, hI2⟩ := hx
    cases e1
    refine yw_st (st2 := [.int v9]) rfl ?_
    have hI := hI2
    refine y_base (cs := []) (z_I.nil _) ?_
    refine y_istore (lv' := [(6, .int v9), (5, .int (nI (7 * j))), (4, .ref (ad 70)), (3, .ref (ad 69)), (2, .ref (ad 52)), (1, .ref (ad 0)), (0, .ref (g.2.2 40))]) d_Lw_law_1052 (by decide) rfl ?_
    refine y_aload_n d_Lw_law_1054 rfl 4 rfl ?_
    refine y_aload_n d_Lw_law_1055 rfl 6 rfl ?_
    refine y_iload d_Lw_law_1056 1 rfl ?_
    refine y_iconst d_Lw_law_1058 (v := 1) (by decide) ?_
    refine y_iadd d_Lw_law_1059 (v := nI ((7 * j) + 1)) (nI_add _ _) ?_
    refine y_sld (v := zs g (7 * j + 1)) d_Lw_law_1060 (vp_in_nI (by omega) (by omega)) (by rw [nI_clamp (by omega)]; rfl) ?_
    refine yw_callVL (As := [.int (zs g (7 * j + 1))]) (rest := []) (ci := 12) rfl (fun wA hA => (IVm.nil hA hI).rm) ln_Lw_255 w_im_Mm_hold w_se_Mm_hold ok_Lw_law_Mm_hold d_Lw_law_1061 (fun wA hA => K_Mm_hold (IVm.nil hA hI) _) rfl rfl (Nat.le_of_ble_eq_true rfl) (by omega) (by omega) (fun wA1061 hA1061 E wB1061 hx => ?_) (fun wA1061 hA1061 v wB1061 hx => ?_)
    · obtain ⟨⟨v8, e1⟩, -⟩ := hx
      cases e1
    · obtain ⟨⟨v8, e1⟩, uM, huM, hI2⟩ := hx
      cases e1
      refine yw_st (st2 := [.int v8]) rfl ?_
      have hI := hI2
      refine y_base (cs := []) (z_I.nil _) ?_
      refine y_istore (lv' := [(7, .int v8), (6, .int v9), (5, .int (nI (7 * j))), (4, .ref (ad 70)), (3, .ref (ad 69)), (2, .ref (ad 52)), (1, .ref (ad 0)), (0, .ref (g.2.2 40))]) d_Lw_law_1064 (by decide) rfl ?_
      refine y_goto (tgt := 1808) d_Lw_law_1066 (by decide) ?_
      refine y_lv (lv' := [(5, .int (nI (7 * j))), (4, .ref (ad 70)), (3, .ref (ad 69)), (2, .ref (ad 52)), (1, .ref (ad 0)), (0, .ref (g.2.2 40))]) [2, 3, 4, 5, 6, 7] rfl ?_
      refine y_end (fun wC hC => ?_)
      exact LC_next (IVm.nil hC hI) ((R_hold _ hR huC huM).up (by omega)) hJ hL ih (by omega) (by omega)
