theorem d_Lw_law_886 : decode code 886 = .ok (.aload_n 1, 1) := zo_43 (zd_b zq_code_27 22 rfl rfl rfl)
theorem d_Lw_law_887 : decode code 887 = .ok (.aload_n 0, 1) := zo_42 (zd_b zq_code_27 23 rfl rfl rfl)
theorem d_Lw_law_888 : decode code 888 = .ok (.iload 5, 2) := zo_21 (d := 5) (zd_b zq_code_27 24 rfl rfl rfl) (zd_b zq_code_27 25 rfl rfl rfl)
theorem d_Lw_law_890 : decode code 890 = .ok (.iconst 1, 1) := zo_4 (zd_b zq_code_27 26 rfl rfl rfl)
theorem d_Lw_law_891 : decode code 891 = .ok (.iadd, 1) := zo_96 (zd_b zq_code_27 27 rfl rfl rfl)
theorem d_Lw_law_892 : decode code 892 = .ok (.iaload, 1) := zo_46 (zd_b zq_code_27 28 rfl rfl rfl)
theorem d_Lw_law_893 : decode code 893 = .ok (.i2c, 1) := zo_146 (zd_b zq_code_27 29 rfl rfl rfl)
theorem d_Lw_law_894 : decode code 894 = .ok (.aload_n 3, 1) := zo_45 (zd_b zq_code_27 30 rfl rfl rfl)
theorem d_Lw_law_895 : decode code 895 = .ok (.invokestatic 235, 3) := zo_184 (d := 0) (e := 235) (zd_b zq_code_27 31 rfl rfl rfl) (zd_b zq_code_28 0 rfl rfl rfl) (zd_b zq_code_28 1 rfl rfl rfl)
theorem ok_Lw_law_Lw_sand : z_okX M_Lw_law M_Lw_sand 3 := ⟨z_mj4 (i := 191) rfl (by decide +kernel), by decide, ⟨by decide +kernel, by decide +kernel, by decide +kernel⟩, ⟨by decide, by decide⟩, z_mj1 (i := 0) rfl (by decide +kernel), rfl⟩
theorem ln_Lw_235 : Cond.methodLink "IronpourLaw" 235 M_Lw_sand.1 ∈ z_gw := z_mj4 (i := 189) rfl (by decide +kernel)
theorem w_st_Lw_sand : Cond.static M_Lw_sand.1 ∈ z_gw := z_mj4 (i := 190) rfl (by decide +kernel)
theorem d_Lw_law_898 : decode code 898 = .ok (.istore 6, 2) := zo_54 (d := 6) (zd_b zq_code_28 2 rfl rfl rfl) (zd_b zq_code_28 3 rfl rfl rfl)
theorem d_Lw_law_900 : decode code 900 = .ok (.aload_n 2, 1) := zo_44 (zd_b zq_code_28 4 rfl rfl rfl)
theorem d_Lw_law_901 : decode code 901 = .ok (.aload_n 0, 1) := zo_42 (zd_b zq_code_28 5 rfl rfl rfl)
theorem d_Lw_law_902 : decode code 902 = .ok (.iload 5, 2) := zo_21 (d := 5) (zd_b zq_code_28 6 rfl rfl rfl) (zd_b zq_code_28 7 rfl rfl rfl)
theorem d_Lw_law_904 : decode code 904 = .ok (.iconst 1, 1) := zo_4 (zd_b zq_code_28 8 rfl rfl rfl)
theorem d_Lw_law_905 : decode code 905 = .ok (.iadd, 1) := zo_96 (zd_b zq_code_28 9 rfl rfl rfl)
theorem d_Lw_law_906 : decode code 906 = .ok (.iaload, 1) := zo_46 (zd_b zq_code_28 10 rfl rfl rfl)
theorem d_Lw_law_907 : decode code 907 = .ok (.i2c, 1) := zo_146 (zd_b zq_code_28 11 rfl rfl rfl)
theorem d_Lw_law_908 : decode code 908 = .ok (.invokevirtual 238, 3) := zo_182 (d := 0) (e := 238) (zd_b zq_code_28 12 rfl rfl rfl) (zd_b zq_code_28 13 rfl rfl rfl) (zd_b zq_code_28 14 rfl rfl rfl)
theorem ok_Lw_law_Mm_sand : z_ok M_Lw_law M_Mm_sand 1 := ⟨z_mj8 (i := 114) rfl (by decide +kernel), rfl, ⟨by decide +kernel, by decide +kernel, by decide +kernel⟩, ⟨by decide, by decide⟩, z_mj1 (i := 14) rfl (by decide +kernel), rfl⟩
theorem ln_Lw_238 : Cond.methodLink "IronpourLaw" 238 M_Mm_sand.1 ∈ z_gw := z_mj8 (i := 111) rfl (by decide +kernel)
theorem w_im_Mm_sand : Cond.instanceMethod M_Mm_sand.1 ∈ z_gw := z_mj8 (i := 112) rfl (by decide +kernel)
theorem w_se_Mm_sand : Cond.selects M_Mm_sand.1.cls M_Mm_sand.1 M_Mm_sand.1 ∈ z_gw := z_mj8 (i := 113) rfl (by decide +kernel)
theorem d_Lw_law_911 : decode code 911 = .ok (.istore 7, 2) := zo_54 (d := 7) (zd_b zq_code_28 15 rfl rfl rfl) (zd_b zq_code_28 16 rfl rfl rfl)
theorem d_Lw_law_913 : decode code 913 = .ok (.goto 895, 3) := zo_167 (d := 3) (e := 127) (zd_b zq_code_28 17 rfl rfl rfl) (zd_b zq_code_28 18 rfl rfl rfl) (zd_b zq_code_28 19 rfl rfl rfl) (by decide +kernel)
set_option maxHeartbeats 4000000 in
set_option maxRecDepth 100000 in
theorem LC_sand {g : zG} {ad : Nat → Nat} {t : zTT} {u : zNN} {w : zW} {j : Nat} (hI : IVm g ad t u w) (hR : REL t u.1 (48 * j)) {r : Nat} (hJ : 7 * j + 7 ≤ g.2.2 41) (hL : g.2.2 41 ≤ 3584) (ih : LWI g ad j r) : DW g M_Lw_law lwQ w 886 [(5, .int (nI (7 * j))), (4, .ref (ad 70)), (3, .ref (ad 69)), (2, .ref (ad 52)), (1, .ref (ad 0)), (0, .ref (g.2.2 40))] [] (100 * (r + 1)) (1000 * (r + 1)) := by
  refine y_base (cs := []) (z_I.nil w) ?_
  refine y_aload_n d_Lw_law_886 rfl 4 rfl ?_
  refine y_aload_n d_Lw_law_887 rfl 5 rfl ?_
  refine y_iload d_Lw_law_888 0 rfl ?_
  refine y_iconst d_Lw_law_890 (v := 1) (by decide) ?_
  refine y_iadd d_Lw_law_891 (v := nI ((7 * j) + 1)) (nI_add _ _) ?_
  refine y_sld (v := zs g (7 * j + 1)) d_Lw_law_892 (vp_in_nI (by omega) (by omega)) (by rw [nI_clamp (by omega)]; rfl) ?_
  refine y_i2c d_Lw_law_893 (v := zc g (7 * j + 1)) rfl ?_
  refine y_aload_n d_Lw_law_894 rfl 2 rfl ?_
  refine yw_callSX (As := [.ref (ad 0), .int (zc g (7 * j + 1)), .ref (ad 69)]) (rest := []) ln_Lw_235 w_st_Lw_sand ok_Lw_law_Lw_sand d_Lw_law_895 (fun wA hA => W_sand (IVm.nil hA hI) _) rfl rfl (Nat.le_of_ble_eq_true rfl) (by omega) (by omega) (fun wA895 hA895 E wB895 hx => ?_) (fun wA895 hA895 v wB895 hx => ?_)
  · obtain ⟨⟨v9, e1⟩, -⟩ := hx
    cases e1
  · obtain ⟨⟨v9, e1⟩, uC, huC, hI2⟩ := hx
    cases e1
    refine yw_st (st2 := [.int v9]) rfl ?_
    have hI := hI2
    refine y_base (cs := []) (z_I.nil _) ?_
    refine y_istore (lv' := [(6, .int v9), (5, .int (nI (7 * j))), (4, .ref (ad 70)), (3, .ref (ad 69)), (2, .ref (ad 52)), (1, .ref (ad 0)), (0, .ref (g.2.2 40))]) d_Lw_law_898 (by decide) rfl ?_
    refine y_aload_n d_Lw_law_900 rfl 4 rfl ?_
    refine y_aload_n d_Lw_law_901 rfl 6 rfl ?_
    refine y_iload d_Lw_law_902 1 rfl ?_
    refine y_iconst d_Lw_law_904 (v := 1) (by decide) ?_
    refine y_iadd d_Lw_law_905 (v := nI ((7 * j) + 1)) (nI_add _ _) ?_
    refine y_sld (v := zs g (7 * j + 1)) d_Lw_law_906 (vp_in_nI (by omega) (by omega)) (by rw [nI_clamp (by omega)]; rfl) ?_
    refine y_i2c d_Lw_law_907 (v := zc g (7 * j + 1)) rfl ?_
    refine yw_callVL (As := [.int (zc g (7 * j + 1))]) (rest := []) (ci := 12) rfl (fun wA hA => (IVm.nil hA hI).rm) ln_Lw_238 w_im_Mm_sand w_se_Mm_sand ok_Lw_law_Mm_sand d_Lw_law_908 (fun wA hA => K_Mm_sand (IVm.nil hA hI) _) rfl rfl (Nat.le_of_ble_eq_true rfl) (by omega) (by omega) (fun wA908 hA908 E wB908 hx => ?_) (fun wA908 hA908 v wB908 hx => ?_)
    · obtain ⟨⟨v8, e1⟩, -⟩ := hx
      cases e1
    · obtain ⟨⟨v8, e1⟩, uM, huM, hI2⟩ := hx
      cases e1
      refine yw_st (st2 := [.int v8]) rfl ?_
      have hI := hI2
      refine y_base (cs := []) (z_I.nil _) ?_
      refine y_istore (lv' := [(7, .int v8), (6, .int v9), (5, .int (nI (7 * j))), (4, .ref (ad 70)), (3, .ref (ad 69)), (2, .ref (ad 52)), (1, .ref (ad 0)), (0, .ref (g.2.2 40))]) d_Lw_law_911 (by decide) rfl ?_
      refine y_goto (tgt := 1808) d_Lw_law_913 (by decide) ?_
      refine y_lv (lv' := [(5, .int (nI (7 * j))), (4, .ref (ad 70)), (3, .ref (ad 69)), (2, .ref (ad 52)), (1, .ref (ad 0)), (0, .ref (g.2.2 40))]) [2, 3, 4, 5, 6, 7] rfl ?_
      refine y_end (fun wC hC => ?_)
      exact LC_next (IVm.nil hC hI) ((hR.n (huM.trans huC)).up (by omega)) hJ hL ih (by omega) (by omega)
theorem d_Lw_law_916 : decode code 916 = .ok (.aload_n 1, 1) := zo_43 (zd_b zq_code_28 20 rfl rfl rfl)
theorem d_Lw_law_917 : decode code 917 = .ok (.aload_n 0, 1) := zo_42 (zd_b zq_code_28 21 rfl rfl rfl)
theorem d_Lw_law_918 : decode code 918 = .ok (.iload 5, 2) := zo_21 (d := 5) (zd_b zq_code_28 22 rfl rfl rfl) (zd_b zq_code_28 23 rfl rfl rfl)
theorem d_Lw_law_920 : decode code 920 = .ok (.iconst 1, 1) := zo_4 (zd_b zq_code_28 24 rfl rfl rfl)
theorem d_Lw_law_921 : decode code 921 = .ok (.iadd, 1) := zo_96 (zd_b zq_code_28 25 rfl rfl rfl)
theorem d_Lw_law_922 : decode code 922 = .ok (.iaload, 1) := zo_46 (zd_b zq_code_28 26 rfl rfl rfl)
theorem d_Lw_law_923 : decode code 923 = .ok (.aload_n 0, 1) := zo_42 (zd_b zq_code_28 27 rfl rfl rfl)
theorem d_Lw_law_924 : decode code 924 = .ok (.iload 5, 2) := zo_21 (d := 5) (zd_b zq_code_28 28 rfl rfl rfl) (zd_b zq_code_28 29 rfl rfl rfl)
theorem d_Lw_law_926 : decode code 926 = .ok (.iconst 2, 1) := zo_5 (zd_b zq_code_28 30 rfl rfl rfl)
theorem d_Lw_law_927 : decode code 927 = .ok (.iadd, 1) := zo_96 (zd_b zq_code_28 31 rfl rfl rfl)
theorem d_Lw_law_928 : decode code 928 = .ok (.iaload, 1) := zo_46 (zd_b zq_code_29 0 rfl rfl rfl)
theorem d_Lw_law_929 : decode code 929 = .ok (.aload_n 3, 1) := zo_45 (zd_b zq_code_29 1 rfl rfl rfl)
theorem d_Lw_law_930 : decode code 930 = .ok (.invokestatic 239, 3) := zo_184 (d := 0) (e := 239) (zd_b zq_code_29 2 rfl rfl rfl) (zd_b zq_code_29 3 rfl rfl rfl) (zd_b zq_code_29 4 rfl rfl rfl)
theorem ok_Lw_law_Lw_makeCores : z_okX M_Lw_law M_Lw_makeCores 4 := ⟨z_mj4 (i := 203) rfl (by decide +kernel), by decide, ⟨by decide +kernel, by decide +kernel, by decide +kernel⟩, ⟨by decide, by decide⟩, z_mj1 (i := 0) rfl (by decide +kernel), rfl⟩
theorem ln_Lw_239 : Cond.methodLink "IronpourLaw" 239 M_Lw_makeCores.1 ∈ z_gw := z_mj4 (i := 201) rfl (by decide +kernel)
theorem w_st_Lw_makeCores : Cond.static M_Lw_makeCores.1 ∈ z_gw := z_mj4 (i := 202) rfl (by decide +kernel)
theorem d_Lw_law_933 : decode code 933 = .ok (.istore 6, 2) := zo_54 (d := 6) (zd_b zq_code_29 5 rfl rfl rfl) (zd_b zq_code_29 6 rfl rfl rfl)
theorem d_Lw_law_935 : decode code 935 = .ok (.aload_n 2, 1) := zo_44 (zd_b zq_code_29 7 rfl rfl rfl)
theorem d_Lw_law_936 : decode code 936 = .ok (.aload_n 0, 1) := zo_42 (zd_b zq_code_29 8 rfl rfl rfl)
theorem d_Lw_law_937 : decode code 937 = .ok (.iload 5, 2) := zo_21 (d := 5) (zd_b zq_code_29 9 rfl rfl rfl) (zd_b zq_code_29 10 rfl rfl rfl)
theorem d_Lw_law_939 : decode code 939 = .ok (.iconst 1, 1) := zo_4 (zd_b zq_code_29 11 rfl rfl rfl)
theorem d_Lw_law_940 : decode code 940 = .ok (.iadd, 1) := zo_96 (zd_b zq_code_29 12 rfl rfl rfl)
theorem d_Lw_law_941 : decode code 941 = .ok (.iaload, 1) := zo_46 (zd_b zq_code_29 13 rfl rfl rfl)
theorem d_Lw_law_942 : decode code 942 = .ok (.aload_n 0, 1) := zo_42 (zd_b zq_code_29 14 rfl rfl rfl)
theorem d_Lw_law_943 : decode code 943 = .ok (.iload 5, 2) := zo_21 (d := 5) (zd_b zq_code_29 15 rfl rfl rfl) (zd_b zq_code_29 16 rfl rfl rfl)
theorem d_Lw_law_945 : decode code 945 = .ok (.iconst 2, 1) := zo_5 (zd_b zq_code_29 17 rfl rfl rfl)
theorem d_Lw_law_946 : decode code 946 = .ok (.iadd, 1) := zo_96 (zd_b zq_code_29 18 rfl rfl rfl)
theorem d_Lw_law_947 : decode code 947 = .ok (.iaload, 1) := zo_46 (zd_b zq_code_29 19 rfl rfl rfl)
theorem d_Lw_law_948 : decode code 948 = .ok (.invokevirtual 241, 3) := zo_182 (d := 0) (e := 241) (zd_b zq_code_29 20 rfl rfl rfl) (zd_b zq_code_29 21 rfl rfl rfl) (zd_b zq_code_29 22 rfl rfl rfl)
theorem ok_Lw_law_Mm_makeCores : z_ok M_Lw_law M_Mm_makeCores 2 := ⟨z_mj8 (i := 123) rfl (by decide +kernel), rfl, ⟨by decide +kernel, by decide +kernel, by decide +kernel⟩, ⟨by decide, by decide⟩, z_mj1 (i := 14) rfl (by decide +kernel), rfl⟩
theorem ln_Lw_241 : Cond.methodLink "IronpourLaw" 241 M_Mm_makeCores.1 ∈ z_gw := z_mj8 (i := 120) rfl (by decide +kernel)
theorem w_im_Mm_makeCores : Cond.instanceMethod M_Mm_makeCores.1 ∈ z_gw := z_mj8 (i := 121) rfl (by decide +kernel)
theorem w_se_Mm_makeCores : Cond.selects M_Mm_makeCores.1.cls M_Mm_makeCores.1 M_Mm_makeCores.1 ∈ z_gw := z_mj8 (i := 122) rfl (by decide +kernel)
theorem d_Lw_law_951 : decode code 951 = .ok (.istore 7, 2) := zo_54 (d := 7) (zd_b zq_code_29 23 rfl rfl rfl) (zd_b zq_code_29 24 rfl rfl rfl)
theorem d_Lw_law_953 : decode code 953 = .ok (.goto 855, 3) := zo_167 (d := 3) (e := 87) (zd_b zq_code_29 25 rfl rfl rfl) (zd_b zq_code_29 26 rfl rfl rfl) (zd_b zq_code_29 27 rfl rfl rfl) (by decide +kernel)
set_option maxHeartbeats 4000000 in
set_option maxRecDepth 100000 in
theorem LC_makeCores {g : zG} {ad : Nat → Nat} {t : zTT} {u : zNN} {w : zW} {j : Nat} (hI : IVm g ad t u w) (hR : REL t u.1 (48 * j)) {r : Nat} (hJ : 7 * j + 7 ≤ g.2.2 41) (hL : g.2.2 41 ≤ 3584) (ih : LWI g ad j r) : DW g M_Lw_law lwQ w 916 [(5, .int (nI (7 * j))), (4, .ref (ad 70)), (3, .ref (ad 69)), (2, .ref (ad 52)), (1, .ref (ad 0)), (0, .ref (g.2.2 40))] [] (100 * (r + 1)) (1000 * (r + 1)) := by
  refine y_base (cs := []) (z_I.nil w) ?_
  refine y_aload_n d_Lw_law_916 rfl 4 rfl ?_
  refine y_aload_n d_Lw_law_917 rfl 5 rfl ?_
  refine y_iload d_Lw_law_918 0 rfl ?_
  refine y_iconst d_Lw_law_920 (v := 1) (by decide) ?_
  refine y_iadd d_Lw_law_921 (v := nI ((7 * j) + 1)) (nI_add _ _) ?_
  refine y_sld (v := zs g (7 * j + 1)) d_Lw_law_922 (vp_in_nI (by omega) (by omega)) (by rw [nI_clamp (by omega)]; rfl) ?_
  refine y_aload_n d_Lw_law_923 rfl 5 rfl ?_
  refine y_iload d_Lw_law_924 0 rfl ?_
  refine y_iconst d_Lw_law_926 (v := 2) (by decide) ?_
  refine y_iadd d_Lw_law_927 (v := nI ((7 * j) + 2)) (nI_add _ _) ?_
  refine y_sld (v := zs g (7 * j + 2)) d_Lw_law_928 (vp_in_nI (by omega) (by omega)) (by rw [nI_clamp (by omega)]; rfl) ?_
  refine y_aload_n d_Lw_law_929 rfl 2 rfl ?_
  refine yw_callSX (As := [.ref (ad 0), .int (zs g (7 * j + 1)), .int (zs g (7 * j + 2)), .ref (ad 69)]) (rest := []) ln_Lw_239 w_st_Lw_makeCores ok_Lw_law_Lw_makeCores d_Lw_law_930 (fun wA hA => W_makeCores (IVm.nil hA hI) _ _) rfl rfl (Nat.le_of_ble_eq_true rfl) (by omega) (by omega) (fun wA930 hA930 E wB930 hx => ?_) (fun wA930 hA930 v wB930 hx => ?_)
  · obtain ⟨⟨v9, e1⟩, -⟩ := hx
    cases e1
  · obtain ⟨⟨v9, e1⟩, uC, huC, hI2⟩ := hx
    cases e1
    refine yw_st (st2 := [.int v9]) rfl ?_
    have hI := hI2
    refine y_base (cs := []) (z_I.nil _) ?_
    refine y_istore (lv' := [(6, .int v9), (5, .int (nI (7 * j))), (4, .ref (ad 70)), (3, .ref (ad 69)), (2, .ref (ad 52)), (1, .ref (ad 0)), (0, .ref (g.2.2 40))]) d_Lw_law_933 (by decide) rfl ?_
    refine y_aload_n d_Lw_law_935 rfl 4 rfl ?_
    refine y_aload_n d_Lw_law_936 rfl 6 rfl ?_
    refine y_iload d_Lw_law_937 1 rfl ?_
    refine y_iconst d_Lw_law_939 (v := 1) (by decide) ?_
    refine y_iadd d_Lw_law_940 (v := nI ((7 * j) + 1)) (nI_add _ _) ?_
    refine y_sld (v := zs g (7 * j + 1)) d_Lw_law_941 (vp_in_nI (by omega) (by omega)) (by rw [nI_clamp (by omega)]; rfl) ?_
    refine y_aload_n d_Lw_law_942 rfl 6 rfl ?_
    refine y_iload d_Lw_law_943 1 rfl ?_
    refine y_iconst d_Lw_law_945 (v := 2) (by decide) ?_
    refine y_iadd d_Lw_law_946 (v := nI ((7 * j) + 2)) (nI_add _ _) ?_
    refine y_sld (v := zs g (7 * j + 2)) d_Lw_law_947 (vp_in_nI (by omega) (by omega)) (by rw [nI_clamp (by omega)]; rfl) ?_
    refine yw_callVL (As := [.int (zs g (7 * j + 1)), .int (zs g (7 * j + 2))]) (rest := []) (ci := 12) rfl (fun wA hA => (IVm.nil hA hI).rm) ln_Lw_241 w_im_Mm_makeCores w_se_Mm_makeCores ok_Lw_law_Mm_makeCores d_Lw_law_948 (fun wA hA => K_Mm_makeCores (IVm.nil hA hI) _ _) rfl rfl (Nat.le_of_ble_eq_true rfl) (by omega) (by omega) (fun wA948 hA948 E wB948 hx => ?_) (fun wA948 hA948 v wB948 hx => ?_)
    · obtain ⟨⟨v8, e1⟩, -⟩ := hx
      cases e1
    · obtain ⟨⟨v8, e1⟩, uM, huM, hI2⟩ := hx
      cases e1
      refine yw_st (st2 := [.int v8]) rfl ?_
      have hI := hI2
      refine y_base (cs := []) (z_I.nil _) ?_
      refine y_istore (lv' := [(7, .int v8), (6, .int v9), (5, .int (nI (7 * j))), (4, .ref (ad 70)), (3, .ref (ad 69)), (2, .ref (ad 52)), (1, .ref (ad 0)), (0, .ref (g.2.2 40))]) d_Lw_law_951 (by decide) rfl ?_
      refine y_goto (tgt := 1808) d_Lw_law_953 (by decide) ?_
      refine y_lv (lv' := [(5, .int (nI (7 * j))), (4, .ref (ad 70)), (3, .ref (ad 69)), (2, .ref (ad 52)), (1, .ref (ad 0)), (0, .ref (g.2.2 40))]) [2, 3, 4, 5, 6, 7] rfl ?_
      refine y_end (fun wC hC => ?_)
      exact LC_next (IVm.nil hC hI) ((R_makeCores (by omega) _ _ hR huC huM).up (by omega)) hJ hL ih (by omega) (by omega)
theorem d_Lw_law_956 : decode code 956 = .ok (.aload_n 1, 1) := zo_43 (zd_b zq_code_29 28 rfl rfl rfl)
theorem d_Lw_law_957 : decode code 957 = .ok (.invokevirtual 242, 3) := zo_182 (d := 0) (e := 242) (zd_b zq_code_29 29 rfl rfl rfl) (zd_b zq_code_29 30 rfl rfl rfl) (zd_b zq_code_29 31 rfl rfl rfl)
theorem ok_Lw_law_Ip_goodCores : z_ok M_Lw_law M_Ip_goodCores 0 := ⟨z_mj2 (i := 156) rfl (by decide +kernel), rfl, ⟨by decide +kernel, by decide +kernel, by decide +kernel⟩, ⟨by decide, by decide⟩, z_mj1 (i := 1) rfl (by decide +kernel), rfl⟩
theorem ln_Lw_242 : Cond.methodLink "IronpourLaw" 242 M_Ip_goodCores.1 ∈ z_gw := z_mj2 (i := 153) rfl (by decide +kernel)
theorem w_im_Ip_goodCores : Cond.instanceMethod M_Ip_goodCores.1 ∈ z_gw := z_mj2 (i := 154) rfl (by decide +kernel)
theorem w_se_Ip_goodCores : Cond.selects M_Ip_goodCores.1.cls M_Ip_goodCores.1 M_Ip_goodCores.1 ∈ z_gw := z_mj2 (i := 155) rfl (by decide +kernel)
theorem d_Lw_law_960 : decode code 960 = .ok (.pop, 1) := zo_87 (zd_b zq_code_30 0 rfl rfl rfl)
theorem d_Lw_law_961 : decode code 961 = .ok (.aload_n 2, 1) := zo_44 (zd_b zq_code_30 1 rfl rfl rfl)
theorem d_Lw_law_962 : decode code 962 = .ok (.invokevirtual 245, 3) := zo_182 (d := 0) (e := 245) (zd_b zq_code_30 2 rfl rfl rfl) (zd_b zq_code_30 3 rfl rfl rfl) (zd_b zq_code_30 4 rfl rfl rfl)
theorem ok_Lw_law_Mm_goodCores : z_ok M_Lw_law M_Mm_goodCores 0 := ⟨z_mj8 (i := 135) rfl (by decide +kernel), rfl, ⟨by decide +kernel, by decide +kernel, by decide +kernel⟩, ⟨by decide, by decide⟩, z_mj1 (i := 14) rfl (by decide +kernel), rfl⟩
theorem ln_Lw_245 : Cond.methodLink "IronpourLaw" 245 M_Mm_goodCores.1 ∈ z_gw := z_mj8 (i := 132) rfl (by decide +kernel)
theorem w_im_Mm_goodCores : Cond.instanceMethod M_Mm_goodCores.1 ∈ z_gw := z_mj8 (i := 133) rfl (by decide +kernel)
theorem w_se_Mm_goodCores : Cond.selects M_Mm_goodCores.1.cls M_Mm_goodCores.1 M_Mm_goodCores.1 ∈ z_gw := z_mj8 (i := 134) rfl (by decide +kernel)
theorem d_Lw_law_965 : decode code 965 = .ok (.pop, 1) := zo_87 (zd_b zq_code_30 5 rfl rfl rfl)
theorem d_Lw_law_966 : decode code 966 = .ok (.goto 842, 3) := zo_167 (d := 3) (e := 74) (zd_b zq_code_30 6 rfl rfl rfl) (zd_b zq_code_30 7 rfl rfl rfl) (zd_b zq_code_30 8 rfl rfl rfl) (by decide +kernel)
set_option maxHeartbeats 4000000 in
set_option maxRecDepth 100000 in
theorem LC_goodCores {g : zG} {ad : Nat → Nat} {t : zTT} {u : zNN} {w : zW} {j : Nat} (hI : IVm g ad t u w) (hR : REL t u.1 (48 * j)) {r : Nat} (hJ : 7 * j + 7 ≤ g.2.2 41) (hL : g.2.2 41 ≤ 3584) (ih : LWI g ad j r) : DW g M_Lw_law lwQ w 956 [(5, .int (nI (7 * j))), (4, .ref (ad 70)), (3, .ref (ad 69)), (2, .ref (ad 52)), (1, .ref (ad 0)), (0, .ref (g.2.2 40))] [] (100 * (r + 1)) (1000 * (r + 1)) := by
  refine y_base (cs := []) (z_I.nil w) ?_
  refine y_aload_n d_Lw_law_956 rfl 4 rfl ?_
  refine yw_callVL (As := []) (rest := []) (ci := 11) rfl (fun wA hA => (IVm.nil hA hI).ra) ln_Lw_242 w_im_Ip_goodCores w_se_Ip_goodCores ok_Lw_law_Ip_goodCores d_Lw_law_957 (fun wA hA => K_Ip_goodCores (IVm.nil hA hI)) rfl rfl (Nat.le_of_ble_eq_true rfl) (by omega) (by omega) (fun wA957 hA957 E wB957 hx => ?_) (fun wA957 hA957 v wB957 hx => ?_)
  · obtain ⟨h1, -⟩ := hx
    cases zriE h1
  · obtain ⟨h1, uC, huC, hI2⟩ := hx
    obtain ⟨v9, rfl⟩ := zriV h1
    refine yw_st (st2 := [.int v9]) rfl ?_
    have hI := hI2
    refine y_base (cs := []) (z_I.nil _) ?_
    refine y_pop d_Lw_law_960 rfl ?_
    refine y_aload_n d_Lw_law_961 rfl 3 rfl ?_
    refine yw_callVL (As := []) (rest := []) (ci := 12) rfl (fun wA hA => (IVm.nil hA hI).rm) ln_Lw_245 w_im_Mm_goodCores w_se_Mm_goodCores ok_Lw_law_Mm_goodCores d_Lw_law_962 (fun wA hA => K_Mm_goodCores (IVm.nil hA hI)) rfl rfl (Nat.le_of_ble_eq_true rfl) (by omega) (by omega) (fun wA962 hA962 E wB962 hx => ?_) (fun wA962 hA962 v wB962 hx => ?_)
    · obtain ⟨⟨v8, e1⟩, -⟩ := hx
      cases e1
    · obtain ⟨⟨v8, e1⟩, uM, huM, hI2⟩ := hx
      cases e1
      refine yw_st (st2 := [.int v8]) rfl ?_
      have hI := hI2
      refine y_base (cs := []) (z_I.nil _) ?_
      refine y_pop d_Lw_law_965 rfl ?_
      refine y_goto (tgt := 1808) d_Lw_law_966 (by decide) ?_
      refine y_lv (lv' := [(5, .int (nI (7 * j))), (4, .ref (ad 70)), (3, .ref (ad 69)), (2, .ref (ad 52)), (1, .ref (ad 0)), (0, .ref (g.2.2 40))]) [0, 1, 2, 3, 4, 5] rfl ?_
      refine y_end (fun wC hC => ?_)
      exact LC_next (IVm.nil hC hI) ((hR.n (huM.trans huC)).up (by omega)) hJ hL ih (by omega) (by omega)
theorem d_Lw_law_969 : decode code 969 = .ok (.aload_n 1, 1) := zo_43 (zd_b zq_code_30 9 rfl rfl rfl)
theorem d_Lw_law_970 : decode code 970 = .ok (.aload_n 0, 1) := zo_42 (zd_b zq_code_30 10 rfl rfl rfl)
theorem d_Lw_law_971 : decode code 971 = .ok (.iload 5, 2) := zo_21 (d := 5) (zd_b zq_code_30 11 rfl rfl rfl) (zd_b zq_code_30 12 rfl rfl rfl)
theorem d_Lw_law_973 : decode code 973 = .ok (.iconst 1, 1) := zo_4 (zd_b zq_code_30 13 rfl rfl rfl)
theorem d_Lw_law_974 : decode code 974 = .ok (.iadd, 1) := zo_96 (zd_b zq_code_30 14 rfl rfl rfl)
theorem d_Lw_law_975 : decode code 975 = .ok (.iaload, 1) := zo_46 (zd_b zq_code_30 15 rfl rfl rfl)
theorem d_Lw_law_976 : decode code 976 = .ok (.aload_n 3, 1) := zo_45 (zd_b zq_code_30 16 rfl rfl rfl)
theorem d_Lw_law_977 : decode code 977 = .ok (.invokestatic 246, 3) := zo_184 (d := 0) (e := 246) (zd_b zq_code_30 17 rfl rfl rfl) (zd_b zq_code_30 18 rfl rfl rfl) (zd_b zq_code_30 19 rfl rfl rfl)
theorem ok_Lw_law_Lw_hours : z_okX M_Lw_law M_Lw_hours 3 := ⟨z_mj5 (i := 0) rfl (by decide +kernel), by decide, ⟨by decide +kernel, by decide +kernel, by decide +kernel⟩, ⟨by decide, by decide⟩, z_mj1 (i := 0) rfl (by decide +kernel), rfl⟩
theorem ln_Lw_246 : Cond.methodLink "IronpourLaw" 246 M_Lw_hours.1 ∈ z_gw := z_mj4 (i := 238) rfl (by decide +kernel)
theorem w_st_Lw_hours : Cond.static M_Lw_hours.1 ∈ z_gw := z_mj4 (i := 239) rfl (by decide +kernel)
theorem d_Lw_law_980 : decode code 980 = .ok (.istore 6, 2) := zo_54 (d := 6) (zd_b zq_code_30 20 rfl rfl rfl) (zd_b zq_code_30 21 rfl rfl rfl)
theorem d_Lw_law_982 : decode code 982 = .ok (.aload_n 2, 1) := zo_44 (zd_b zq_code_30 22 rfl rfl rfl)
theorem d_Lw_law_983 : decode code 983 = .ok (.aload_n 0, 1) := zo_42 (zd_b zq_code_30 23 rfl rfl rfl)
theorem d_Lw_law_984 : decode code 984 = .ok (.iload 5, 2) := zo_21 (d := 5) (zd_b zq_code_30 24 rfl rfl rfl) (zd_b zq_code_30 25 rfl rfl rfl)
theorem d_Lw_law_986 : decode code 986 = .ok (.iconst 1, 1) := zo_4 (zd_b zq_code_30 26 rfl rfl rfl)
theorem d_Lw_law_987 : decode code 987 = .ok (.iadd, 1) := zo_96 (zd_b zq_code_30 27 rfl rfl rfl)
theorem d_Lw_law_988 : decode code 988 = .ok (.iaload, 1) := zo_46 (zd_b zq_code_30 28 rfl rfl rfl)
theorem d_Lw_law_989 : decode code 989 = .ok (.invokevirtual 248, 3) := zo_182 (d := 0) (e := 248) (zd_b zq_code_30 29 rfl rfl rfl) (zd_b zq_code_30 30 rfl rfl rfl) (zd_b zq_code_30 31 rfl rfl rfl)
theorem ok_Lw_law_Mm_hours : z_ok M_Lw_law M_Mm_hours 1 := ⟨z_mj8 (i := 143) rfl (by decide +kernel), rfl, ⟨by decide +kernel, by decide +kernel, by decide +kernel⟩, ⟨by decide, by decide⟩, z_mj1 (i := 14) rfl (by decide +kernel), rfl⟩
theorem ln_Lw_248 : Cond.methodLink "IronpourLaw" 248 M_Mm_hours.1 ∈ z_gw := z_mj8 (i := 140) rfl (by decide +kernel)
theorem w_im_Mm_hours : Cond.instanceMethod M_Mm_hours.1 ∈ z_gw := z_mj8 (i := 141) rfl (by decide +kernel)
theorem w_se_Mm_hours : Cond.selects M_Mm_hours.1.cls M_Mm_hours.1 M_Mm_hours.1 ∈ z_gw := z_mj8 (i := 142) rfl (by decide +kernel)
theorem d_Lw_law_992 : decode code 992 = .ok (.istore 7, 2) := zo_54 (d := 7) (zd_b zq_code_31 0 rfl rfl rfl) (zd_b zq_code_31 1 rfl rfl rfl)
theorem d_Lw_law_994 : decode code 994 = .ok (.goto 814, 3) := zo_167 (d := 3) (e := 46) (zd_b zq_code_31 2 rfl rfl rfl) (zd_b zq_code_31 3 rfl rfl rfl) (zd_b zq_code_31 4 rfl rfl rfl) (by decide +kernel)
set_option maxHeartbeats 4000000 in
set_option maxRecDepth 100000 in
theorem LC_hours {g : zG} {ad : Nat → Nat} {t : zTT} {u : zNN} {w : zW} {j : Nat} (hI : IVm g ad t u w) (hR : REL t u.1 (48 * j)) {r : Nat} (hJ : 7 * j + 7 ≤ g.2.2 41) (hL : g.2.2 41 ≤ 3584) (ih : LWI g ad j r) : DW g M_Lw_law lwQ w 969 [(5, .int (nI (7 * j))), (4, .ref (ad 70)), (3, .ref (ad 69)), (2, .ref (ad 52)), (1, .ref (ad 0)), (0, .ref (g.2.2 40))] [] (100 * (r + 1)) (1000 * (r + 1)) := by
  refine y_base (cs := []) (z_I.nil w) ?_
  refine y_aload_n d_Lw_law_969 rfl 4 rfl ?_
  refine y_aload_n d_Lw_law_970 rfl 5 rfl ?_
  refine y_iload d_Lw_law_971 0 rfl ?_
  refine y_iconst d_Lw_law_973 (v := 1) (by decide) ?_
  refine y_iadd d_Lw_law_974 (v := nI ((7 * j) + 1)) (nI_add _ _) ?_
  refine y_sld (v := zs g (7 * j + 1)) d_Lw_law_975 (vp_in_nI (by omega) (by omega)) (by rw [nI_clamp (by omega)]; rfl) ?_
  refine y_aload_n d_Lw_law_976 rfl 2 rfl ?_
  refine yw_callSX (As := [.ref (ad 0), .int (zs g (7 * j + 1)), .ref (ad 69)]) (rest := []) ln_Lw_246 w_st_Lw_hours ok_Lw_law_Lw_hours d_Lw_law_977 (fun wA hA => W_hours (IVm.nil hA hI) _) rfl rfl (Nat.le_of_ble_eq_true rfl) (by omega) (by omega) (fun wA977 hA977 E wB977 hx => ?_) (fun wA977 hA977 v wB977 hx => ?_)
  · obtain ⟨⟨v9, e1⟩, -⟩ := hx
    cases e1
  · obtain ⟨⟨v9, e1⟩, uC, huC, hI2⟩ := hx
    cases e1
    refine yw_st (st2 := [.int v9]) rfl ?_
    have hI := hI2
    refine y_base (cs := []) (z_I.nil _) ?_
    refine y_istore (lv' := [(6, .int v9), (5, .int (nI (7 * j))), (4, .ref (ad 70)), (3, .ref (ad 69)), (2, .ref (ad 52)), (1, .ref (ad 0)), (0, .ref (g.2.2 40))]) d_Lw_law_980 (by decide) rfl ?_
    refine y_aload_n d_Lw_law_982 rfl 4 rfl ?_
    refine y_aload_n d_Lw_law_983 rfl 6 rfl ?_
    refine y_iload d_Lw_law_984 1 rfl ?_
    refine y_iconst d_Lw_law_986 (v := 1) (by decide) ?_
    refine y_iadd d_Lw_law_987 (v := nI ((7 * j) + 1)) (nI_add _ _) ?_
    refine y_sld (v := zs g (7 * j + 1)) d_Lw_law_988 (vp_in_nI (by omega) (by omega)) (by rw [nI_clamp (by omega)]; rfl) ?_
    refine yw_callVL (As := [.int (zs g (7 * j + 1))]) (rest := []) (ci := 12) rfl (fun wA hA => (IVm.nil hA hI).rm) ln_Lw_248 w_im_Mm_hours w_se_Mm_hours ok_Lw_law_Mm_hours d_Lw_law_989 (fun wA hA => K_Mm_hours (IVm.nil hA hI) _) rfl rfl (Nat.le_of_ble_eq_true rfl) (by omega) (by omega) (fun wA989 hA989 E wB989 hx => ?_) (fun wA989 hA989 v wB989 hx => ?_)
    · obtain ⟨⟨v8, e1⟩, -⟩ := hx
      cases e1
    · obtain ⟨⟨v8, e1⟩, uM, huM, hI2⟩ := hx
      cases e1
      refine yw_st (st2 := [.int v8]) rfl ?_
      have hI := hI2
      refine y_base (cs := []) (z_I.nil _) ?_
      refine y_istore (lv' := [(7, .int v8), (6, .int v9), (5, .int (nI (7 * j))), (4, .ref (ad 70)), (3, .ref (ad 69)), (2, .ref (ad 52)), (1, .ref (ad 0)), (0, .ref (g.2.2 40))]) d_Lw_law_992 (by decide) rfl ?_
      refine y_goto (tgt := 1808) d_Lw_law_994 (by decide) ?_
      refine y_lv (lv' := [(5, .int (nI (7 * j))), (4, .ref (ad 70)), (3, .ref (ad 69)), (2, .ref (ad 52)), (1, .ref (ad 0)), (0, .ref (g.2.2 40))]) [2, 3, 4, 5, 6, 7] rfl ?_
      refine y_end (fun wC hC => ?_)
      exact LC_next (IVm.nil hC hI) ((R_hours (b := 48 * j) (by omega) _ hR huC huM).up (by omega)) hJ hL ih (by omega) (by omega)
theorem d_Lw_law_997 : decode code 997 = .ok (.aload_n 1, 1) := zo_43 (zd_b zq_code_31 5 rfl rfl rfl)
theorem d_Lw_law_998 : decode code 998 = .ok (.aload_n 0, 1) := zo_42 (zd_b zq_code_31 6 rfl rfl rfl)
theorem d_Lw_law_999 : decode code 999 = .ok (.iload 5, 2) := zo_21 (d := 5) (zd_b zq_code_31 7 rfl rfl rfl) (zd_b zq_code_31 8 rfl rfl rfl)
theorem d_Lw_law_1001 : decode code 1001 = .ok (.iconst 1, 1) := zo_4 (zd_b zq_code_31 9 rfl rfl rfl)
theorem d_Lw_law_1002 : decode code 1002 = .ok (.iadd, 1) := zo_96 (zd_b zq_code_31 10 rfl rfl rfl)
theorem d_Lw_law_1003 : decode code 1003 = .ok (.iaload, 1) := zo_46 (zd_b zq_code_31 11 rfl rfl rfl)
theorem d_Lw_law_1004 : decode code 1004 = .ok (.i2c, 1) := zo_146 (zd_b zq_code_31 12 rfl rfl rfl)
theorem d_Lw_law_1005 : decode code 1005 = .ok (.aload_n 0, 1) := zo_42 (zd_b zq_code_31 13 rfl rfl rfl)
theorem d_Lw_law_1006 : decode code 1006 = .ok (.iload 5, 2) := zo_21 (d := 5) (zd_b zq_code_31 14 rfl rfl rfl) (zd_b zq_code_31 15 rfl rfl rfl)
theorem d_Lw_law_1008 : decode code 1008 = .ok (.iconst 2, 1) := zo_5 (zd_b zq_code_31 16 rfl rfl rfl)
theorem d_Lw_law_1009 : decode code 1009 = .ok (.iadd, 1) := zo_96 (zd_b zq_code_31 17 rfl rfl rfl)
theorem d_Lw_law_1010 : decode code 1010 = .ok (.iaload, 1) := zo_46 (zd_b zq_code_31 18 rfl rfl rfl)
theorem d_Lw_law_1011 : decode code 1011 = .ok (.aload_n 3, 1) := zo_45 (zd_b zq_code_31 19 rfl rfl rfl)
theorem d_Lw_law_1012 : decode code 1012 = .ok (.invokestatic 249, 3) := zo_184 (d := 0) (e := 249) (zd_b zq_code_31 20 rfl rfl rfl) (zd_b zq_code_31 21 rfl rfl rfl) (zd_b zq_code_31 22 rfl rfl rfl)
theorem ok_Lw_law_Lw_charge : z_okX M_Lw_law M_Lw_charge 4 := ⟨z_mj5 (i := 16) rfl (by decide +kernel), by decide, ⟨by decide +kernel, by decide +kernel, by decide +kernel⟩, ⟨by decide, by decide⟩, z_mj1 (i := 0) rfl (by decide +kernel), rfl⟩
theorem ln_Lw_249 : Cond.methodLink "IronpourLaw" 249 M_Lw_charge.1 ∈ z_gw := z_mj5 (i := 14) rfl (by decide +kernel)
theorem w_st_Lw_charge : Cond.static M_Lw_charge.1 ∈ z_gw := z_mj5 (i := 15) rfl (by decide +kernel)
theorem d_Lw_law_1015 : decode code 1015 = .ok (.istore 6, 2) := zo_54 (d := 6) (zd_b zq_code_31 23 rfl rfl rfl) (zd_b zq_code_31 24 rfl rfl rfl)
theorem d_Lw_law_1017 : decode code 1017 = .ok (.aload_n 2, 1) := zo_44 (zd_b zq_code_31 25 rfl rfl rfl)
theorem d_Lw_law_1018 : decode code 1018 = .ok (.aload_n 0, 1) := zo_42 (zd_b zq_code_31 26 rfl rfl rfl)
theorem d_Lw_law_1019 : decode code 1019 = .ok (.iload 5, 2) := zo_21 (d := 5) (zd_b zq_code_31 27 rfl rfl rfl) (zd_b zq_code_31 28 rfl rfl rfl)
theorem d_Lw_law_1021 : decode code 1021 = .ok (.iconst 1, 1) := zo_4 (zd_b zq_code_31 29 rfl rfl rfl)
theorem d_Lw_law_1022 : decode code 1022 = .ok (.iadd, 1) := zo_96 (zd_b zq_code_31 30 rfl rfl rfl)
theorem d_Lw_law_1023 : decode code 1023 = .ok (.iaload, 1) := zo_46 (zd_b zq_code_31 31 rfl rfl rfl)
theorem d_Lw_law_1024 : decode code 1024 = .ok (.i2c, 1) := zo_146 (zd_b zq_code_32 0 rfl rfl rfl)
theorem d_Lw_law_1025 : decode code 1025 = .ok (.aload_n 0, 1) := zo_42 (zd_b zq_code_32 1 rfl rfl rfl)
theorem d_Lw_law_1026 : decode code 1026 = .ok (.iload 5, 2) := zo_21 (d := 5) (zd_b zq_code_32 2 rfl rfl rfl) (zd_b zq_code_32 3 rfl rfl rfl)
theorem d_Lw_law_1028 : decode code 1028 = .ok (.iconst 2, 1) := zo_5 (zd_b zq_code_32 4 rfl rfl rfl)
theorem d_Lw_law_1029 : decode code 1029 = .ok (.iadd, 1) := zo_96 (zd_b zq_code_32 5 rfl rfl rfl)
theorem d_Lw_law_1030 : decode code 1030 = .ok (.iaload, 1) := zo_46 (zd_b zq_code_32 6 rfl rfl rfl)
theorem d_Lw_law_1031 : decode code 1031 = .ok (.invokevirtual 252, 3) := zo_182 (d := 0) (e := 252) (zd_b zq_code_32 7 rfl rfl rfl) (zd_b zq_code_32 8 rfl rfl rfl) (zd_b zq_code_32 9 rfl rfl rfl)
theorem ok_Lw_law_Mm_charge : z_ok M_Lw_law M_Mm_charge 2 := ⟨z_mj8 (i := 148) rfl (by decide +kernel), rfl, ⟨by decide +kernel, by decide +kernel, by decide +kernel⟩, ⟨by decide, by decide⟩, z_mj1 (i := 14) rfl (by decide +kernel), rfl⟩
theorem ln_Lw_252 : Cond.methodLink "IronpourLaw" 252 M_Mm_charge.1 ∈ z_gw := z_mj8 (i := 145) rfl (by decide +kernel)
theorem w_im_Mm_charge : Cond.instanceMethod M_Mm_charge.1 ∈ z_gw := z_mj8 (i := 146) rfl (by decide +kernel)
theorem w_se_Mm_charge : Cond.selects M_Mm_charge.1.cls M_Mm_charge.1 M_Mm_charge.1 ∈ z_gw := z_mj8 (i := 147) rfl (by decide +kernel)
theorem d_Lw_law_1034 : decode code 1034 = .ok (.istore 7, 2) := zo_54 (d := 7) (zd_b zq_code_32 10 rfl rfl rfl) (zd_b zq_code_32 11 rfl rfl rfl)
theorem d_Lw_law_1036 : decode code 1036 = .ok (.goto 772, 3) := zo_167 (d := 3) (e := 4) (zd_b zq_code_32 12 rfl rfl rfl) (zd_b zq_code_32 13 rfl rfl rfl) (zd_b zq_code_32 14 rfl rfl rfl) (by decide +kernel)
set_option maxHeartbeats 4000000 in
set_option maxRecDepth 100000 in
theorem LC_charge {g : zG} {ad : Nat → Nat} {t : zTT} {u : zNN} {w : zW} {j : Nat} (hI : IVm g ad t u w) (hR : REL t u.1 (48 * j)) {r : Nat} (hJ : 7 * j + 7 ≤ g.2.2 41) (hL : g.2.2 41 ≤ 3584) (ih : LWI g ad j r) : DW g M_Lw_law lwQ w 997 [(5, .int (nI (7 * j))), (4, .ref (ad 70)), (3, .ref (ad 69)), (2, .ref (ad 52)), (1, .ref (ad 0)), (0, .ref (g.2.2 40))] [] (100 * (r + 1)) (1000 * (r + 1)) := by
  refine y_base (cs := []) (z_I.nil w) ?_
  refine y_aload_n d_Lw_law_997 rfl 4 rfl ?_
  refine y_aload_n d_Lw_law_998 rfl 5 rfl ?_
  refine y_iload d_Lw_law_999 0 rfl ?_
  refine y_iconst d_Lw_law_1001 (v := 1) (by decide) ?_
  refine y_iadd d_Lw_law_1002 (v := nI ((7 * j) + 1)) (nI_add _ _) ?_
  refine y_sld (v := zs g (7 * j + 1)) d_Lw_law_1003 (vp_in_nI (by omega) (by omega)) (by rw [nI_clamp (by omega)]; rfl) ?_
  refine y_i2c d_Lw_law_1004 (v := zc g (7 * j + 1)) rfl ?_
  refine y_aload_n d_Lw_law_1005 rfl 5 rfl ?_
  refine y_iload d_Lw_law_1006 0 rfl ?_
  refine y_iconst d_Lw_law_1008 (v := 2) (by decide) ?_
  refine y_iadd d_Lw_law_1009 (v := nI ((7 * j) + 2)) (nI_add _ _) ?_
  refine y_sld (v := zs g (7 * j + 2)) d_Lw_law_1010 (vp_in_nI (by omega) (by omega)) (by rw [nI_clamp (by omega)]; rfl) ?_
  refine y_aload_n d_Lw_law_1011 rfl 2 rfl ?_
  refine yw_callSX (As := [.ref (ad 0), .int (zc g (7 * j + 1)), .int (zs g (7 * j + 2)), .ref (ad 69)]) (rest := []) ln_Lw_249 w_st_Lw_charge ok_Lw_law_Lw_charge d_Lw_law_1012 (fun wA hA => W_charge (IVm.nil hA hI) _ _) rfl rfl (Nat.le_of_ble_eq_true rfl) (by omega) (by omega) (fun wA1012 hA1012 E wB1012 hx => ?_) (fun wA1012 hA1012 v wB1012 hx => ?_)
  · obtain ⟨⟨v9, e1⟩, -⟩ := hx
    cases e1
  · obtain ⟨⟨v9, e1⟩, uC, huC, hI2⟩ := hx
    cases e1
    refine yw_st (st2 := [.int v9]) rfl ?_
    have hI := hI2
    refine y_base (cs := []) (z_I.nil _) ?_
    refine y_istore (lv' := [(6, .int v9), (5, .int (nI (7 * j))), (4, .ref (ad 70)), (3, .ref (ad 69)), (2, .ref (ad 52)), (1, .ref (ad 0)), (0, .ref (g.2.2 40))]) d_Lw_law_1015 (by decide) rfl ?_
    refine y_aload_n d_Lw_law_1017 rfl 4 rfl ?_
    refine y_aload_n d_Lw_law_1018 rfl 6 rfl ?_
    refine y_iload d_Lw_law_1019 1 rfl ?_
    refine y_iconst d_Lw_law_1021 (v := 1) (by decide) ?_
    refine y_iadd d_Lw_law_1022 (v := nI ((7 * j) + 1)) (nI_add _ _) ?_
    refine y_sld (v := zs g (7 * j + 1)) d_Lw_law_1023 (vp_in_nI (by omega) (by omega)) (by rw [nI_clamp (by omega)]; rfl) ?_
    refine y_i2c d_Lw_law_1024 (v := zc g (7 * j + 1)) rfl ?_
    refine y_aload_n d_Lw_law_1025 rfl 6 rfl ?_
    refine y_iload d_Lw_law_1026 1 rfl ?_
    refine y_iconst d_Lw_law_1028 (v := 2) (by decide) ?_
    refine y_iadd d_Lw_law_1029 (v := nI ((7 * j) + 2)) (nI_add _ _) ?_
    refine y_sld (v := zs g (7 * j + 2)) d_Lw_law_1030 (vp_in_nI (by omega) (by omega)) (by rw [nI_clamp (by omega)]; rfl) ?_
    refine yw_callVL (As := [.int (zc g (7 * j + 1)), .int (zs g (7 * j + 2))]) (rest := []) (ci := 12) rfl (fun wA hA => (IVm.nil hA hI).rm) ln_Lw_252 w_im_Mm_charge w_se_Mm_charge ok_Lw_law_Mm_charge d_Lw_law_1031 (fun wA hA => K_Mm_charge (IVm.nil hA hI) _ _) rfl rfl (Nat.le_of_ble_eq_true rfl) (by omega) (by omega) (fun wA1031 hA1031 E wB1031 hx => ?_) (fun wA1031 hA1031 v wB1031 hx => ?_)
    · obtain ⟨⟨v8, e1⟩, -⟩ := hx
      cases e1
    · obtain ⟨⟨v8, e1⟩, uM, huM, hI2⟩ := hx
      cases e1
      refine yw_st (st2 := [.int v8]) rfl ?_
      have hI := hI2
      refine y_base (cs := []) (z_I.nil _) ?_
      refine y_istore (lv' := [(7, .int v8), (6, .int v9), (5, .int (nI (7 * j))), (4, .ref (ad 70)), (3, .ref (ad 69)), (2, .ref (ad 52)), (1, .ref (ad 0)), (0, .ref (g.2.2 40))]) d_Lw_law_1034 (by decide) rfl ?_
      refine y_goto (tgt := 1808) d_Lw_law_1036 (by decide) ?_
      refine y_lv (lv' := [(5, .int (nI (7 * j))), (4, .ref (ad 70)), (3, .ref (ad 69)), (2, .ref (ad 52)), (1, .ref (ad 0)), (0, .ref (g.2.2 40))]) [2, 3, 4, 5, 6, 7] rfl ?_
      refine y_end (fun wC hC => ?_)
      exact LC_next (IVm.nil hC hI) ((R_charge _ _ hR huC huM).up (by omega)) hJ hL ih (by omega) (by omega)
theorem d_Lw_law_1039 : decode code 1039 = .ok (.aload_n 1, 1) := zo_43 (zd_b zq_code_32 15 rfl rfl rfl)
theorem d_Lw_law_1040 : decode code 1040 = .ok (.aload_n 0, 1) := zo_42 (zd_b zq_code_32 16 rfl rfl rfl)
theorem d_Lw_law_1041 : decode code 1041 = .ok (.iload 5, 2) := zo_21 (d := 5) (zd_b zq_code_32 17 rfl rfl rfl) (zd_b zq_code_32 18 rfl rfl rfl)
theorem d_Lw_law_1043 : decode code 1043 = .ok (.iconst 1, 1) := zo_4 (zd_b zq_code_32 19 rfl rfl rfl)
theorem d_Lw_law_1044 : decode code 1044 = .ok (.iadd, 1) := zo_96 (zd_b zq_code_32 20 rfl rfl rfl)
theorem d_Lw_law_1045 : decode code 1045 = .ok (.iaload, 1) := zo_46 (zd_b zq_code_32 21 rfl rfl rfl)
theorem d_Lw_law_1046 : decode code 1046 = .ok (.i2c, 1) := zo_146 (zd_b zq_code_32 22 rfl rfl rfl)
theorem d_Lw_law_1047 : decode code 1047 = .ok (.aload_n 3, 1) := zo_45 (zd_b zq_code_32 23 rfl rfl rfl)
theorem d_Lw_law_1048 : decode code 1048 = .ok (.invokestatic 253, 3) := zo_184 (d := 0) (e := 253) (zd_b zq_code_32 24 rfl rfl rfl) (zd_b zq_code_32 25 rfl rfl rfl) (zd_b zq_code_32 26 rfl rfl rfl)
theorem ok_Lw_law_Lw_furnace : z_okX M_Lw_law M_Lw_furnace 3 := ⟨z_mj5 (i := 67) rfl (by decide +kernel), by decide, ⟨by decide +kernel, by decide +kernel, by decide +kernel⟩, ⟨by decide, by decide⟩, z_mj1 (i := 0) rfl (by decide +kernel), rfl⟩
theorem ln_Lw_253 : Cond.methodLink "IronpourLaw" 253 M_Lw_furnace.1 ∈ z_gw := z_mj5 (i := 65) rfl (by decide +kernel)
theorem w_st_Lw_furnace : Cond.static M_Lw_furnace.1 ∈ z_gw := z_mj5 (i := 66) rfl (by decide +kernel)
theorem d_Lw_law_1051 : decode code 1051 = .ok (.istore 6, 2) := zo_54 (d := 6) (zd_b zq_code_32 27 rfl rfl rfl) (zd_b zq_code_32 28 rfl rfl rfl)
theorem d_Lw_law_1053 : decode code 1053 = .ok (.aload_n 2, 1) := zo_44 (zd_b zq_code_32 29 rfl rfl rfl)
theorem d_Lw_law_1054 : decode code 1054 = .ok (.aload_n 0, 1) := zo_42 (zd_b zq_code_32 30 rfl rfl rfl)
theorem d_Lw_law_1055 : decode code 1055 = .ok (.iload 5, 2) := zo_21 (d := 5) (zd_b zq_code_32 31 rfl rfl rfl) (zd_b zq_code_33 0 rfl rfl rfl)
theorem d_Lw_law_1057 : decode code 1057 = .ok (.iconst 1, 1) := zo_4 (zd_b zq_code_33 1 rfl rfl rfl)
theorem d_Lw_law_1058 : decode code 1058 = .ok (.iadd, 1) := zo_96 (zd_b zq_code_33 2 rfl rfl rfl)
theorem d_Lw_law_1059 : decode code 1059 = .ok (.iaload, 1) := zo_46 (zd_b zq_code_33 3 rfl rfl rfl)
theorem d_Lw_law_1060 : decode code 1060 = .ok (.i2c, 1) := zo_146 (zd_b zq_code_33 4 rfl rfl rfl)
theorem d_Lw_law_1061 : decode code 1061 = .ok (.invokevirtual 255, 3) := zo_182 (d := 0) (e := 255) (zd_b zq_code_33 5 rfl rfl rfl) (zd_b zq_code_33 6 rfl rfl rfl) (zd_b zq_code_33 7 rfl rfl rfl)
theorem ok_Lw_law_Mm_furnace : z_ok M_Lw_law M_Mm_furnace 1 := ⟨z_mj8 (i := 161) rfl (by decide +kernel), rfl, ⟨by decide +kernel, by decide +kernel, by decide +kernel⟩, ⟨by decide, by decide⟩, z_mj1 (i := 14) rfl (by decide +kernel), rfl⟩
theorem ln_Lw_255 : Cond.methodLink "IronpourLaw" 255 M_Mm_furnace.1 ∈ z_gw := z_mj8 (i := 158) rfl (by decide +kernel)
theorem w_im_Mm_furnace : Cond.instanceMethod M_Mm_furnace.1 ∈ z_gw := z_mj8 (i := 159) rfl (by decide +kernel)
theorem w_se_Mm_furnace : Cond.selects M_Mm_furnace.1.cls M_Mm_furnace.1 M_Mm_furnace.1 ∈ z_gw := z_mj8 (i := 160) rfl (by decide +kernel)
theorem d_Lw_law_1064 : decode code 1064 = .ok (.istore 7, 2) := zo_54 (d := 7) (zd_b zq_code_33 8 rfl rfl rfl) (zd_b zq_code_33 9 rfl rfl rfl)
theorem d_Lw_law_1066 : decode code 1066 = .ok (.goto 742, 3) := zo_167 (d := 2) (e := 230) (zd_b zq_code_33 10 rfl rfl rfl) (zd_b zq_code_33 11 rfl rfl rfl) (zd_b zq_code_33 12 rfl rfl rfl) (by decide +kernel)
set_option maxHeartbeats 4000000 in
set_option maxRecDepth 100000 in
theorem LC_furnace {g : zG} {ad : Nat → Nat} {t : zTT} {u : zNN} {w : zW} {j : Nat} (hI : IVm g ad t u w) (hR : REL t u.1 (48 * j)) {r : Nat} (hJ : 7 * j + 7 ≤ g.2.2 41) (hL : g.2.2 41 ≤ 3584) (ih : LWI g ad j r) : DW g M_Lw_law lwQ w 1039 [(5, .int (nI (7 * j))), (4, .ref (ad 70)), (3, .ref (ad 69)), (2, .ref (ad 52)), (1, .ref (ad 0)), (0, .ref (g.2.2 40))] [] (100 * (r + 1)) (1000 * (r + 1)) := by
  refine y_base (cs := []) (z_I.nil w) ?_
  refine y_aload_n d_Lw_law_1039 rfl 4 rfl ?_
  refine y_aload_n d_Lw_law_1040 rfl 5 rfl ?_
  refine y_iload d_Lw_law_1041 0 rfl ?_
  refine y_iconst d_Lw_law_1043 (v := 1) (by decide) ?_
  refine y_iadd d_Lw_law_1044 (v := nI ((7 * j) + 1)) (nI_add _ _) ?_
  refine y_sld (v := zs g (7 * j + 1)) d_Lw_law_1045 (vp_in_nI (by omega) (by omega)) (by rw [nI_clamp (by omega)]; rfl) ?_
  refine y_i2c d_Lw_law_1046 (v := zc g (7 * j + 1)) rfl ?_
  refine y_aload_n d_Lw_law_1047 rfl 2 rfl ?_
  refine yw_callSX (As := [.ref (ad 0), .int (zc g (7 * j + 1)), .ref (ad 69)]) (rest := []) ln_Lw_253 w_st_Lw_furnace ok_Lw_law_Lw_furnace d_Lw_law_1048 (fun wA hA => W_furnace (IVm.nil hA hI) _) rfl rfl (Nat.le_of_ble_eq_true rfl) (by omega) (by omega) (fun wA1048 hA1048 E wB1048 hx => ?_) (fun wA1048 hA1048 v wB1048 hx => ?_)
  · obtain ⟨⟨v9, e1⟩, -⟩ := hx
    cases e1
  · obtain ⟨⟨v9, e1⟩, uC, huC, hI2⟩ := hx
    cases e1
    refine yw_st (st2 := [.int v9]) rfl ?_
    have hI := hI2
    refine y_base (cs := []) (z_I.nil _) ?_
    refine y_istore (lv' := [(6, .int v9), (5, .int (nI (7 * j))), (4, .ref (ad 70)), (3, .ref (ad 69)), (2, .ref (ad 52)), (1, .ref (ad 0)), (0, .ref (g.2.2 40))]) d_Lw_law_1051 (by decide) rfl ?_
    refine y_aload_n d_Lw_law_1053 rfl 4 rfl ?_
    refine y_aload_n d_Lw_law_1054 rfl 6 rfl ?_
    refine y_iload d_Lw_law_1055 1 rfl ?_
    refine y_iconst d_Lw_law_1057 (v := 1) (by decide) ?_
    refine y_iadd d_Lw_law_1058 (v := nI ((7 * j) + 1)) (nI_add _ _) ?_
    refine y_sld (v := zs g (7 * j + 1)) d_Lw_law_1059 (vp_in_nI (by omega) (by omega)) (by rw [nI_clamp (by omega)]; rfl) ?_
    refine y_i2c d_Lw_law_1060 (v := zc g (7 * j + 1)) rfl ?_
    refine yw_callVL (As := [.int (zc g (7 * j + 1))]) (rest := []) (ci := 12) rfl (fun wA hA => (IVm.nil hA hI).rm) ln_Lw_255 w_im_Mm_furnace w_se_Mm_furnace ok_Lw_law_Mm_furnace d_Lw_law_1061 (fun wA hA => K_Mm_furnace (IVm.nil hA hI) _) rfl rfl (Nat.le_of_ble_eq_true rfl) (by omega) (by omega) (fun wA1061 hA1061 E wB1061 hx => ?_) (fun wA1061 hA1061 v wB1061 hx => ?_)
    · obtain ⟨⟨v8, e1⟩, -⟩ := hx
      cases e1
    · obtain ⟨⟨v8, e1⟩, uM, huM, hI2⟩ := hx
      cases e1
      refine yw_st (st2 := [.int v8]) rfl ?_
      have hI := hI2
      refine y_base (cs := []) (z_I.nil _) ?_
      refine y_istore (lv' := [(7, .int v8), (6, .int v9), (5, .int (nI (7 * j))), (4, .ref (ad 70)), (3, .ref (ad 69)), (2, .ref (ad 52)), (1, .ref (ad 0)), (0, .ref (g.2.2 40))]) d_Lw_law_1064 (by decide) rfl ?_
      refine y_goto (tgt := 1808) d_Lw_law_1066 (by decide) ?_
      refine y_lv (lv' := [(5, .int (nI (7 * j))), (4, .ref (ad 70)), (3, .ref (ad 69)), (2, .ref (ad 52)), (1, .ref (ad 0)), (0, .ref (g.2.2 40))]) [2, 3, 4, 5, 6, 7] rfl ?_
      refine y_end (fun wC hC => ?_)
      exact LC_next (IVm.nil hC hI) ((hR.n (huM.trans huC)).up (by omega)) hJ hL ih (by omega) (by omega)
theorem d_Lw_law_1069 : decode code 1069 = .ok (.aload_n 1, 1) := zo_43 (zd_b zq_code_33 13 rfl rfl rfl)
theorem d_Lw_law_1070 : decode code 1070 = .ok (.aload_n 0, 1) := zo_42 (zd_b zq_code_33 14 rfl rfl rfl)
theorem d_Lw_law_1071 : decode code 1071 = .ok (.iload 5, 2) := zo_21 (d := 5) (zd_b zq_code_33 15 rfl rfl rfl) (zd_b zq_code_33 16 rfl rfl rfl)
theorem d_Lw_law_1073 : decode code 1073 = .ok (.iconst 1, 1) := zo_4 (zd_b zq_code_33 17 rfl rfl rfl)
theorem d_Lw_law_1074 : decode code 1074 = .ok (.iadd, 1) := zo_96 (zd_b zq_code_33 18 rfl rfl rfl)
theorem d_Lw_law_1075 : decode code 1075 = .ok (.iaload, 1) := zo_46 (zd_b zq_code_33 19 rfl rfl rfl)
theorem d_Lw_law_1076 : decode code 1076 = .ok (.aload_n 3, 1) := zo_45 (zd_b zq_code_33 20 rfl rfl rfl)
theorem d_Lw_law_1077 : decode code 1077 = .ok (.invokestatic 256, 3) := zo_184 (d := 1) (e := 0) (zd_b zq_code_33 21 rfl rfl rfl) (zd_b zq_code_33 22 rfl rfl rfl) (zd_b zq_code_33 23 rfl rfl rfl)
theorem ok_Lw_law_Lw_hold : z_okX M_Lw_law M_Lw_hold 3 := ⟨z_mj5 (i := 85) rfl (by decide +kernel), by decide, ⟨by decide +kernel, by decide +kernel, by decide +kernel⟩, ⟨by decide, by decide⟩, z_mj1 (i := 0) rfl (by decide +kernel), rfl⟩
theorem ln_Lw_256 : Cond.methodLink "IronpourLaw" 256 M_Lw_hold.1 ∈ z_gw := z_mj5 (i := 83) rfl (by decide +kernel)
theorem w_st_Lw_hold : Cond.static M_Lw_hold.1 ∈ z_gw := z_mj5 (i := 84) rfl (by decide +kernel)
theorem d_Lw_law_1080 : decode code 1080 = .ok (.istore 6, 2) := zo_54 (d := 6) (zd_b zq_code_33 24 rfl rfl rfl) (zd_b zq_code_33 25 rfl rfl rfl)
theorem d_Lw_law_1082 : decode code 1082 = .ok (.aload_n 2, 1) := zo_44 (zd_b zq_code_33 26 rfl rfl rfl)
theorem d_Lw_law_1083 : decode code 1083 = .ok (.aload_n 0, 1) := zo_42 (zd_b zq_code_33 27 rfl rfl rfl)
theorem d_Lw_law_1084 : decode code 1084 = .ok (.iload 5, 2) := zo_21 (d := 5) (zd_b zq_code_33 28 rfl rfl rfl) (zd_b zq_code_33 29 rfl rfl rfl)
theorem d_Lw_law_1086 : decode code 1086 = .ok (.iconst 1, 1) := zo_4 (zd_b zq_code_33 30 rfl rfl rfl)
theorem d_Lw_law_1087 : decode code 1087 = .ok (.iadd, 1) := zo_96 (zd_b zq_code_33 31 rfl rfl rfl)
theorem d_Lw_law_1088 : decode code 1088 = .ok (.iaload, 1) := zo_46 (zd_b zq_code_34 0 rfl rfl rfl)
theorem d_Lw_law_1089 : decode code 1089 = .ok (.invokevirtual 258, 3) := zo_182 (d := 1) (e := 2) (zd_b zq_code_34 1 rfl rfl rfl) (zd_b zq_code_34 2 rfl rfl rfl) (zd_b zq_code_34 3 rfl rfl rfl)
theorem ok_Lw_law_Mm_hold : z_ok M_Lw_law M_Mm_hold 1 := ⟨z_mj8 (i := 173) rfl (by decide +kernel), rfl, ⟨by decide +kernel, by decide +kernel, by decide +kernel⟩, ⟨by decide, by decide⟩, z_mj1 (i := 14) rfl (by decide +kernel), rfl⟩
theorem ln_Lw_258 : Cond.methodLink "IronpourLaw" 258 M_Mm_hold.1 ∈ z_gw := z_mj8 (i := 170) rfl (by decide +kernel)
theorem w_im_Mm_hold : Cond.instanceMethod M_Mm_hold.1 ∈ z_gw := z_mj8 (i := 171) rfl (by decide +kernel)
theorem w_se_Mm_hold : Cond.selects M_Mm_hold.1.cls M_Mm_hold.1 M_Mm_hold.1 ∈ z_gw := z_mj8 (i := 172) rfl (by decide +kernel)
theorem d_Lw_law_1092 : decode code 1092 = .ok (.istore 7, 2) := zo_54 (d := 7) (zd_b zq_code_34 4 rfl rfl rfl) (zd_b zq_code_34 5 rfl rfl rfl)
theorem d_Lw_law_1094 : decode code 1094 = .ok (.goto 714, 3) := zo_167 (d := 2) (e := 202) (zd_b zq_code_34 6 rfl rfl rfl) (zd_b zq_code_34 7 rfl rfl rfl) (zd_b zq_code_34 8 rfl rfl rfl) (by decide +kernel)
set_option maxHeartbeats 4000000 in
set_option maxRecDepth 100000 in
theorem LC_hold {g : zG} {ad : Nat → Nat} {t : zTT} {u : zNN} {w : zW} {j : Nat} (hI : IVm g ad t u w) (hR : REL t u.1 (48 * j)) {r : Nat} (hJ : 7 * j + 7 ≤ g.2.2 41) (hL : g.2.2 41 ≤ 3584) (ih : LWI g ad j r) : DW g M_Lw_law lwQ w 1069 [(5, .int (nI (7 * j))), (4, .ref (ad 70)), (3, .ref (ad 69)), (2, .ref (ad 52)), (1, .ref (ad 0)), (0, .ref (g.2.2 40))] [] (100 * (r + 1)) (1000 * (r + 1)) := by
  refine y_base (cs := []) (z_I.nil w) ?_
  refine y_aload_n d_Lw_law_1069 rfl 4 rfl ?_
  refine y_aload_n d_Lw_law_1070 rfl 5 rfl ?_
  refine y_iload d_Lw_law_1071 0 rfl ?_
  refine y_iconst d_Lw_law_1073 (v := 1) (by decide) ?_
  refine y_iadd d_Lw_law_1074 (v := nI ((7 * j) + 1)) (nI_add _ _) ?_
  refine y_sld (v := zs g (7 * j + 1)) d_Lw_law_1075 (vp_in_nI (by omega) (by omega)) (by rw [nI_clamp (by omega)]; rfl) ?_
  refine y_aload_n d_Lw_law_1076 rfl 2 rfl ?_
  refine yw_callSX (As := [.ref (ad 0), .int (zs g (7 * j + 1)), .ref (ad 69)]) (rest := []) ln_Lw_256 w_st_Lw_hold ok_Lw_law_Lw_hold d_Lw_law_1077 (fun wA hA => W_hold (IVm.nil hA hI) _) rfl rfl (Nat.le_of_ble_eq_true rfl) (by omega) (by omega) (fun wA1077 hA1077 E wB1077 hx => ?_) (fun wA1077 hA1077 v wB1077 hx => ?_)
  · obtain ⟨⟨v9, e1⟩, -⟩ := hx
    cases e1
  · obtain ⟨⟨v9, e1⟩, uC, huC, hI2⟩ := hx
    cases e1
    refine yw_st (st2 := [.int v9]) rfl ?_
    have hI := hI2
    refine y_base (cs := []) (z_I.nil _) ?_
    refine y_istore (lv' := [(6, .int v9), (5, .int (nI (7 * j))), (4, .ref (ad 70)), (3, .ref (ad 69)), (2, .ref (ad 52)), (1, .ref (ad 0)), (0, .ref (g.2.2 40))]) d_Lw_law_1080 (by decide) rfl ?_
    refine y_aload_n d_Lw_law_1082 rfl 4 rfl ?_
    refine y_aload_n d_Lw_law_1083 rfl 6 rfl ?_
    refine y_iload d_Lw_law_1084 1 rfl ?_
    refine y_iconst d_Lw_law_1086 (v := 1) (by decide) ?_
    refine y_iadd d_Lw_law_1087 (v := nI ((7 * j) + 1)) (nI_add _ _) ?_
    refine y_sld (v := zs g (7 * j + 1)) d_Lw_law_1088 (vp_in_nI (by omega) (by omega)) (by rw [nI_clamp (by omega)]; rfl) ?_
    refine yw_callVL (As := [.int (zs g (7 * j + 1))]) (rest := []) (ci := 12) rfl (fun wA hA => (IVm.nil hA hI).rm) ln_Lw_258 w_im_Mm_hold w_se_Mm_hold ok_Lw_law_Mm_hold d_Lw_law_1089 (fun wA hA => K_Mm_hold (IVm.nil hA hI) _) rfl rfl (Nat.le_of_ble_eq_true rfl) (by omega) (by omega) (fun wA1089 hA1089 E wB1089 hx => ?_) (fun wA1089 hA1089 v wB1089 hx => ?_)
    · obtain ⟨⟨v8, e1⟩, -⟩ := hx
      cases e1
    · obtain ⟨⟨v8, e1⟩, uM, huM, hI2⟩ := hx
      cases e1
      refine yw_st (st2 := [.int v8]) rfl ?_
      have hI := hI2
      refine y_base (cs := []) (z_I.nil _) ?_
      refine y_istore (lv' := [(7, .int v8), (6, .int v9), (5, .int (nI (7 * j))), (4, .ref (ad 70)), (3, .ref (ad 69)), (2, .ref (ad 52)), (1, .ref (ad 0)), (0, .ref (g.2.2 40))]) d_Lw_law_1092 (by decide) rfl ?_
      refine y_goto (tgt := 1808) d_Lw_law_1094 (by decide) ?_
      refine y_lv (lv' := [(5, .int (nI (7 * j))), (4, .ref (ad 70)), (3, .ref (ad 69)), (2, .ref (ad 52)), (1, .ref (ad 0)), (0, .ref (g.2.2 40))]) [2, 3, 4, 5, 6, 7] rfl ?_
      refine y_end (fun wC hC => ?_)
      exact LC_next (IVm.nil hC hI) ((R_hold _ hR huC huM).up (by omega)) hJ hL ih (by omega) (by omega)
theorem d_Lw_law_1097 : decode code 1097 = .ok (.aload_n 1, 1) := zo_43 (zd_b zq_code_34 9 rfl rfl rfl)
theorem d_Lw_law_1098 : decode code 1098 = .ok (.aload_n 0, 1) := zo_42 (zd_b zq_code_34 10 rfl rfl rfl)
theorem d_Lw_law_1099 : decode code 1099 = .ok (.iload 5, 2) := zo_21 (d := 5) (zd_b zq_code_34 11 rfl rfl rfl) (zd_b zq_code_34 12 rfl rfl rfl)
theorem d_Lw_law_1101 : decode code 1101 = .ok (.iconst 1, 1) := zo_4 (zd_b zq_code_34 13 rfl rfl rfl)
theorem d_Lw_law_1102 : decode code 1102 = .ok (.iadd, 1) := zo_96 (zd_b zq_code_34 14 rfl rfl rfl)
theorem d_Lw_law_1103 : decode code 1103 = .ok (.iaload, 1) := zo_46 (zd_b zq_code_34 15 rfl rfl rfl)
theorem d_Lw_law_1104 : decode code 1104 = .ok (.aload_n 3, 1) := zo_45 (zd_b zq_code_34 16 rfl rfl rfl)
theorem d_Lw_law_1105 : decode code 1105 = .ok (.invokestatic 259, 3) := zo_184 (d := 1) (e := 3) (zd_b zq_code_34 17 rfl rfl rfl) (zd_b zq_code_34 18 rfl rfl rfl) (zd_b zq_code_34 19 rfl rfl rfl)
theorem ok_Lw_law_Lw_tap : z_okX M_Lw_law M_Lw_tap 3 := ⟨z_mj5 (i := 101) rfl (by decide +kernel), by decide, ⟨by decide +kernel, by decide +kernel, by decide +kernel⟩, ⟨by decide, by decide⟩, z_mj1 (i := 0) rfl (by decide +kernel), rfl⟩
theorem ln_Lw_259 : Cond.methodLink "IronpourLaw" 259 M_Lw_tap.1 ∈ z_gw := z_mj5 (i := 99) rfl (by decide +kernel)
theorem w_st_Lw_tap : Cond.static M_Lw_tap.1 ∈ z_gw := z_mj5 (i := 100) rfl (by decide +kernel)
theorem d_Lw_law_1108 : decode code 1108 = .ok (.istore 6, 2) := zo_54 (d := 6) (zd_b zq_code_34 20 rfl rfl rfl) (zd_b zq_code_34 21 rfl rfl rfl)
theorem d_Lw_law_1110 : decode code 1110 = .ok (.aload_n 2, 1) := zo_44 (zd_b zq_code_34 22 rfl rfl rfl)
theorem d_Lw_law_1111 : decode code 1111 = .ok (.aload_n 0, 1) := zo_42 (zd_b zq_code_34 23 rfl rfl rfl)
theorem d_Lw_law_1112 : decode code 1112 = .ok (.iload 5, 2) := zo_21 (d := 5) (zd_b zq_code_34 24 rfl rfl rfl) (zd_b zq_code_34 25 rfl rfl rfl)
theorem d_Lw_law_1114 : decode code 1114 = .ok (.iconst 1, 1) := zo_4 (zd_b zq_code_34 26 rfl rfl rfl)
theorem d_Lw_law_1115 : decode code 1115 = .ok (.iadd, 1) := zo_96 (zd_b zq_code_34 27 rfl rfl rfl)
theorem d_Lw_law_1116 : decode code 1116 = .ok (.iaload, 1) := zo_46 (zd_b zq_code_34 28 rfl rfl rfl)
theorem d_Lw_law_1117 : decode code 1117 = .ok (.invokevirtual 261, 3) := zo_182 (d := 1) (e := 5) (zd_b zq_code_34 29 rfl rfl rfl) (zd_b zq_code_34 30 rfl rfl rfl) (zd_b zq_code_34 31 rfl rfl rfl)
theorem ok_Lw_law_Mm_tap : z_ok M_Lw_law M_Mm_tap 1 := ⟨z_mj8 (i := 179) rfl (by decide +kernel), rfl, ⟨by decide +kernel, by decide +kernel, by decide +kernel⟩, ⟨by decide, by decide⟩, z_mj1 (i := 14) rfl (by decide +kernel), rfl⟩
theorem ln_Lw_261 : Cond.methodLink "IronpourLaw" 261 M_Mm_tap.1 ∈ z_gw := z_mj8 (i := 176) rfl (by decide +kernel)
theorem w_im_Mm_tap : Cond.instanceMethod M_Mm_tap.1 ∈ z_gw := z_mj8 (i := 177) rfl (by decide +kernel)
theorem w_se_Mm_tap : Cond.selects M_Mm_tap.1.cls M_Mm_tap.1 M_Mm_tap.1 ∈ z_gw := z_mj8 (i := 178) rfl (by decide +kernel)
theorem d_Lw_law_1120 : decode code 1120 = .ok (.istore 7, 2) := zo_54 (d := 7) (zd_b zq_code_35 0 rfl rfl rfl) (zd_b zq_code_35 1 rfl rfl rfl)
theorem d_Lw_law_1122 : decode code 1122 = .ok (.goto 686, 3) := zo_167 (d := 2) (e := 174) (zd_b zq_code_35 2 rfl rfl rfl) (zd_b zq_code_35 3 rfl rfl rfl) (zd_b zq_code_35 4 rfl rfl rfl) (by decide +kernel)
set_option maxHeartbeats 4000000 in
set_option maxRecDepth 100000 in
theorem LC_tap {g : zG} {ad : Nat → Nat} {t : zTT} {u : zNN} {w : zW} {j : Nat} (hI : IVm g ad t u w) (hR : REL t u.1 (48 * j)) {r : Nat} (hJ : 7 * j + 7 ≤ g.2.2 41) (hL : g.2.2 41 ≤ 3584) (ih : LWI g ad j r) : DW g M_Lw_law lwQ w 1097 [(5, .int (nI (7 * j))), (4, .ref (ad 70)), (3, .ref (ad 69)), (2, .ref (ad 52)), (1, .ref (ad 0)), (0, .ref (g.2.2 40))] [] (100 * (r + 1)) (1000 * (r + 1)) := by
  refine y_base (cs := []) (z_I.nil w) ?_
  refine y_aload_n d_Lw_law_1097 rfl 4 rfl ?_
  refine y_aload_n d_Lw_law_1098 rfl 5 rfl ?_
  refine y_iload d_Lw_law_1099 0 rfl ?_
  refine y_iconst d_Lw_law_1101 (v := 1) (by decide) ?_
  refine y_iadd d_Lw_law_1102 (v := nI ((7 * j) + 1)) (nI_add _ _) ?_
  refine y_sld (v := zs g (7 * j + 1)) d_Lw_law_1103 (vp_in_nI (by omega) (by omega)) (by rw [nI_clamp (by omega)]; rfl) ?_
  refine y_aload_n d_Lw_law_1104 rfl 2 rfl ?_
  refine yw_callSX (As := [.ref (ad 0), .int (zs g (7 * j + 1)), .ref (ad 69)]) (rest := []) ln_Lw_259 w_st_Lw_tap ok_Lw_law_Lw_tap d_Lw_law_1105 (fun wA hA => W_tap (IVm.nil hA hI) _) rfl rfl (Nat.le_of_ble_eq_true rfl) (by omega) (by omega) (fun wA1105 hA1105 E wB1105 hx => ?_) (fun wA1105 hA1105 v wB1105 hx => ?_)
  · obtain ⟨⟨v9, e1⟩, -⟩ := hx
    cases e1
  · obtain ⟨⟨v9, e1⟩, uC, huC, hI2⟩ := hx
    cases e1
    refine yw_st (st2 := [.int v9]) rfl ?_
    have hI := hI2
    refine y_base (cs := []) (z_I.nil _) ?_
    refine y_istore (lv' := [(6, .int v9), (5, .int (nI (7 * j))), (4, .ref (ad 70)), (3, .ref (ad 69)), (2, .ref (ad 52)), (1, .ref (ad 0)), (0, .ref (g.2.2 40))]) d_Lw_law_1108 (by decide) rfl ?_
    refine y_aload_n d_Lw_law_1110 rfl 4 rfl ?_
    refine y_aload_n d_Lw_law_1111 rfl 6 rfl ?_
    refine y_iload d_Lw_law_1112 1 rfl ?_
    refine y_iconst d_Lw_law_1114 (v := 1) (by decide) ?_
    refine y_iadd d_Lw_law_1115 (v := nI ((7 * j) + 1)) (nI_add _ _) ?_
    refine y_sld (v := zs g (7 * j + 1)) d_Lw_law_1116 (vp_in_nI (by omega) (by omega)) (by rw [nI_clamp (by omega)]; rfl) ?_
    refine yw_callVL (As := [.int (zs g (7 * j + 1))]) (rest := []) (ci := 12) rfl (fun wA hA => (IVm.nil hA hI).rm) ln_Lw_261 w_im_Mm_tap w_se_Mm_tap ok_Lw_law_Mm_tap d_Lw_law_1117 (fun wA hA => K_Mm_tap (IVm.nil hA hI) _) rfl rfl (Nat.le_of_ble_eq_true rfl) (by omega) (by omega) (fun wA1117 hA1117 E wB1117 hx => ?_) (fun wA1117 hA1117 v wB1117 hx => ?_)
    · obtain ⟨⟨v8, e1⟩, -⟩ := hx
      cases e1
    · obtain ⟨⟨v8, e1⟩, uM, huM, hI2⟩ := hx
      cases e1
      refine yw_st (st2 := [.int v8]) rfl ?_
      have hI := hI2
      refine y_base (cs := []) (z_I.nil _) ?_
      refine y_istore (lv' := [(7, .int v8), (6, .int v9), (5, .int (nI (7 * j))), (4, .ref (ad 70)), (3, .ref (ad 69)), (2, .ref (ad 52)), (1, .ref (ad 0)), (0, .ref (g.2.2 40))]) d_Lw_law_1120 (by decide) rfl ?_
      refine y_goto (tgt := 1808) d_Lw_law_1122 (by decide) ?_
      refine y_lv (lv' := [(5, .int (nI (7 * j))), (4, .ref (ad 70)), (3, .ref (ad 69)), (2, .ref (ad 52)), (1, .ref (ad 0)), (0, .ref (g.2.2 40))]) [2, 3, 4, 5, 6, 7] rfl ?_
      refine y_end (fun wC hC => ?_)
      exact LC_next (IVm.nil hC hI) ((R_tap _ hR huC huM).up (by omega)) hJ hL ih (by omega) (by omega)
