theorem d_Lw_law_888 : decode code 888 = .ok (.aload_n 1, 1) := by decide +kernel
theorem d_Lw_law_889 : decode code 889 = .ok (.aload_n 0, 1) := by decide +kernel
theorem d_Lw_law_890 : decode code 890 = .ok (.iload 5, 2) := by decide +kernel
theorem d_Lw_law_892 : decode code 892 = .ok (.iconst 1, 1) := by decide +kernel
theorem d_Lw_law_893 : decode code 893 = .ok (.iadd, 1) := by decide +kernel
theorem d_Lw_law_894 : decode code 894 = .ok (.iaload, 1) := by decide +kernel
theorem d_Lw_law_895 : decode code 895 = .ok (.aload_n 0, 1) := by decide +kernel
theorem d_Lw_law_896 : decode code 896 = .ok (.iload 5, 2) := by decide +kernel
theorem d_Lw_law_898 : decode code 898 = .ok (.iconst 2, 1) := by decide +kernel
theorem d_Lw_law_899 : decode code 899 = .ok (.iadd, 1) := by decide +kernel
theorem d_Lw_law_900 : decode code 900 = .ok (.iaload, 1) := by decide +kernel
theorem d_Lw_law_901 : decode code 901 = .ok (.aload_n 3, 1) := by decide +kernel
theorem d_Lw_law_902 : decode code 902 = .ok (.invokestatic 236, 3) := by decide +kernel
theorem ok_Lw_law_Lw_makeCores : z_okX M_Lw_law M_Lw_makeCores 4 := ⟨z_mem (i := 980) (by decide +kernel) (by decide +kernel), by decide, ⟨by decide +kernel, by decide +kernel, by decide +kernel⟩, ⟨by decide, by decide⟩, z_mem (i := 57) (by decide +kernel) (by decide +kernel), rfl⟩
theorem ln_Lw_236 : Cond.methodLink "IronpourLaw" 236 M_Lw_makeCores.1 ∈ z_gw := z_mem (i := 978) (by decide +kernel) (by decide +kernel)
theorem w_st_Lw_makeCores : Cond.static M_Lw_makeCores.1 ∈ z_gw := z_mem (i := 979) (by decide +kernel) (by decide +kernel)
theorem d_Lw_law_905 : decode code 905 = .ok (.istore 6, 2) := by decide +kernel
theorem d_Lw_law_907 : decode code 907 = .ok (.aload_n 2, 1) := by decide +kernel
theorem d_Lw_law_908 : decode code 908 = .ok (.aload_n 0, 1) := by decide +kernel
theorem d_Lw_law_909 : decode code 909 = .ok (.iload 5, 2) := by decide +kernel
theorem d_Lw_law_911 : decode code 911 = .ok (.iconst 1, 1) := by decide +kernel
theorem d_Lw_law_912 : decode code 912 = .ok (.iadd, 1) := by decide +kernel
theorem d_Lw_law_913 : decode code 913 = .ok (.iaload, 1) := by decide +kernel
theorem d_Lw_law_914 : decode code 914 = .ok (.aload_n 0, 1) := by decide +kernel
theorem d_Lw_law_915 : decode code 915 = .ok (.iload 5, 2) := by decide +kernel
theorem d_Lw_law_917 : decode code 917 = .ok (.iconst 2, 1) := by decide +kernel
theorem d_Lw_law_918 : decode code 918 = .ok (.iadd, 1) := by decide +kernel
theorem d_Lw_law_919 : decode code 919 = .ok (.iaload, 1) := by decide +kernel
theorem d_Lw_law_920 : decode code 920 = .ok (.invokevirtual 238, 3) := by decide +kernel
theorem ok_Lw_law_Mm_makeCores : z_ok M_Lw_law M_Mm_makeCores 2 := ⟨z_mem (i := 1860) (by decide +kernel) (by decide +kernel), rfl, ⟨by decide +kernel, by decide +kernel, by decide +kernel⟩, ⟨by decide, by decide⟩, z_mem (i := 71) (by decide +kernel) (by decide +kernel), rfl⟩
theorem ln_Lw_238 : Cond.methodLink "IronpourLaw" 238 M_Mm_makeCores.1 ∈ z_gw := z_mem (i := 1857) (by decide +kernel) (by decide +kernel)
theorem w_im_Mm_makeCores : Cond.instanceMethod M_Mm_makeCores.1 ∈ z_gw := z_mem (i := 1858) (by decide +kernel) (by decide +kernel)
theorem w_se_Mm_makeCores : Cond.selects M_Mm_makeCores.1.cls M_Mm_makeCores.1 M_Mm_makeCores.1 ∈ z_gw := z_mem (i := 1859) (by decide +kernel) (by decide +kernel)
theorem d_Lw_law_923 : decode code 923 = .ok (.istore 7, 2) := by decide +kernel
theorem d_Lw_law_925 : decode code 925 = .ok (.goto 883, 3) := by decide +kernel
set_option maxHeartbeats 4000000 in
set_option maxRecDepth 100000 in
theorem LC_makeCores {g : zG} {ad : Nat → Nat} {t : zTT} {u : zNN} {w : zW} (hI : IV g ad t u w) (hR : REL t) {j r : Nat} (hJ : 7 * j + 7 ≤ g.2.2 41) (hL : g.2.2 41 < 2 ^ 31) (ih : LWI g ad j r) : DW g M_Lw_law lwQ w 888 [(5, .int (nI (7 * j))), (4, .ref (ad 70)), (3, .ref (ad 69)), (2, .ref (ad 52)), (1, .ref (ad 0)), (0, .ref (g.2.2 40))] [] (100 * (r + 1)) (1000 * (r + 1)) := by
  refine y_base (cs := []) (z_I.nil w) ?_
  refine y_aload_n d_Lw_law_888 rfl 4 rfl ?_
  refine y_aload_n d_Lw_law_889 rfl 5 rfl ?_
  refine y_iload d_Lw_law_890 0 rfl ?_
  refine y_iconst d_Lw_law_892 (v := 1) (by decide) ?_
  refine y_iadd d_Lw_law_893 (v := nI ((7 * j) + 1)) (nI_add _ _) ?_
  refine y_sld (v := zs g (7 * j + 1)) d_Lw_law_894 (vp_in_nI (by omega) (by omega)) (by rw [nI_clamp (by omega)]; rfl) ?_
  refine y_aload_n d_Lw_law_895 rfl 5 rfl ?_
  refine y_iload d_Lw_law_896 0 rfl ?_
  refine y_iconst d_Lw_law_898 (v := 2) (by decide) ?_
  refine y_iadd d_Lw_law_899 (v := nI ((7 * j) + 2)) (nI_add _ _) ?_
  refine y_sld (v := zs g (7 * j + 2)) d_Lw_law_900 (vp_in_nI (by omega) (by omega)) (by rw [nI_clamp (by omega)]; rfl) ?_
  refine y_aload_n d_Lw_law_901 rfl 2 rfl ?_
  refine yw_callSX (As := [.ref (ad 0), .int (zs g (7 * j + 1)), .int (zs g (7 * j + 2)), .ref (ad 69)]) (rest := []) ln_Lw_236 w_st_Lw_makeCores ok_Lw_law_Lw_makeCores d_Lw_law_902 (fun wA hA => W_makeCores (IV.nil hA hI) _ _) rfl rfl (Nat.le_of_ble_eq_true rfl) (by omega) (by omega) (fun wA902 hA902 E wB902 hx => ?_) (fun wA902 hA902 v wB902 hx => ?_)
  · obtain ⟨⟨v9, e1⟩, -⟩ := hx
    cases e1
  · obtain ⟨⟨v9, e1⟩, u2, hI2⟩ := hx
    cases e1
    refine yw_st (st2 := [.int v9]) rfl ?_
    have hI := hI2
    refine y_base (cs := []) (z_I.nil _) ?_
    refine y_istore (lv' := [(6, .int v9), (5, .int (nI (7 * j))), (4, .ref (ad 70)), (3, .ref (ad 69)), (2, .ref (ad 52)), (1, .ref (ad 0)), (0, .ref (g.2.2 40))]) d_Lw_law_905 (by decide) rfl ?_
    refine y_aload_n d_Lw_law_907 rfl 4 rfl ?_
    refine y_aload_n d_Lw_law_908 rfl 6 rfl ?_
    refine y_iload d_Lw_law_909 1 rfl ?_
    refine y_iconst d_Lw_law_911 (v := 1) (by decide) ?_
    refine y_iadd d_Lw_law_912 (v := nI ((7 * j) + 1)) (nI_add _ _) ?_
    refine y_sld (v := zs g (7 * j + 1)) d_Lw_law_913 (vp_in_nI (by omega) (by omega)) (by rw [nI_clamp (by omega)]; rfl) ?_
    refine y_aload_n d_Lw_law_914 rfl 6 rfl ?_
    refine y_iload d_Lw_law_915 1 rfl ?_
    refine y_iconst d_Lw_law_917 (v := 2) (by decide) ?_
    refine y_iadd d_Lw_law_918 (v := nI ((7 * j) + 2)) (nI_add _ _) ?_
    refine y_sld (v := zs g (7 * j + 2)) d_Lw_law_919 (vp_in_nI (by omega) (by omega)) (by rw [nI_clamp (by omega)]; rfl) ?_
    refine yw_callVL (As := [.int (zs g (7 * j + 1)), .int (zs g (7 * j + 2))]) (rest := []) (ci := 12) rfl (fun wA hA => (IV.nil hA hI).rm) ln_Lw_238 w_im_Mm_makeCores w_se_Mm_makeCores ok_Lw_law_Mm_makeCores d_Lw_law_920 (fun wA hA => K_Mm_makeCores (IV.nil hA hI) _ _) rfl rfl (Nat.le_of_ble_eq_true rfl) (by omega) (by omega) (fun wA920 hA920 E wB920 hx => ?_) (fun wA920 hA920 v wB920 hx => ?_)
    · obtain ⟨⟨v8, e1⟩, -⟩ := hx
      cases e1
    · obtain ⟨⟨v8, e1⟩, u2, hI2⟩ := hx
      cases e1
      refine yw_st (st2 := [.int v8]) rfl ?_
      have hI := hI2
      refine y_base (cs := []) (z_I.nil _) ?_
      refine y_istore (lv' := [(7, .int v8), (6, .int v9), (5, .int (nI (7 * j))), (4, .ref (ad 70)), (3, .ref (ad 69)), (2, .ref (ad 52)), (1, .ref (ad 0)), (0, .ref (g.2.2 40))]) d_Lw_law_923 (by decide) rfl ?_
      refine y_goto (tgt := 1808) d_Lw_law_925 (by decide) ?_
      refine y_lv (lv' := [(5, .int (nI (7 * j))), (4, .ref (ad 70)), (3, .ref (ad 69)), (2, .ref (ad 52)), (1, .ref (ad 0)), (0, .ref (g.2.2 40))]) [2, 3, 4, 5, 6, 7] rfl ?_
      refine y_end (fun wC hC => ?_)
      exact LC_next (IV.nil hC hI) hR hJ hL ih (by omega) (by omega)
theorem d_Lw_law_928 : decode code 928 = .ok (.aload_n 1, 1) := by decide +kernel
theorem d_Lw_law_929 : decode code 929 = .ok (.invokevirtual 239, 3) := by decide +kernel
theorem ok_Lw_law_Ip_goodCores : z_ok M_Lw_law M_Ip_goodCores 0 := ⟨z_mem (i := 453) (by decide +kernel) (by decide +kernel), rfl, ⟨by decide +kernel, by decide +kernel, by decide +kernel⟩, ⟨by decide, by decide⟩, z_mem (i := 58) (by decide +kernel) (by decide +kernel), rfl⟩
theorem ln_Lw_239 : Cond.methodLink "IronpourLaw" 239 M_Ip_goodCores.1 ∈ z_gw := z_mem (i := 450) (by decide +kernel) (by decide +kernel)
theorem w_im_Ip_goodCores : Cond.instanceMethod M_Ip_goodCores.1 ∈ z_gw := z_mem (i := 451) (by decide +kernel) (by decide +kernel)
theorem w_se_Ip_goodCores : Cond.selects M_Ip_goodCores.1.cls M_Ip_goodCores.1 M_Ip_goodCores.1 ∈ z_gw := z_mem (i := 452) (by decide +kernel) (by decide +kernel)
theorem d_Lw_law_932 : decode code 932 = .ok (.pop, 1) := by decide +kernel
theorem d_Lw_law_933 : decode code 933 = .ok (.aload_n 2, 1) := by decide +kernel
theorem d_Lw_law_934 : decode code 934 = .ok (.invokevirtual 242, 3) := by decide +kernel
theorem ok_Lw_law_Mm_goodCores : z_ok M_Lw_law M_Mm_goodCores 0 := ⟨z_mem (i := 1872) (by decide +kernel) (by decide +kernel), rfl, ⟨by decide +kernel, by decide +kernel, by decide +kernel⟩, ⟨by decide, by decide⟩, z_mem (i := 71) (by decide +kernel) (by decide +kernel), rfl⟩
theorem ln_Lw_242 : Cond.methodLink "IronpourLaw" 242 M_Mm_goodCores.1 ∈ z_gw := z_mem (i := 1869) (by decide +kernel) (by decide +kernel)
theorem w_im_Mm_goodCores : Cond.instanceMethod M_Mm_goodCores.1 ∈ z_gw := z_mem (i := 1870) (by decide +kernel) (by decide +kernel)
theorem w_se_Mm_goodCores : Cond.selects M_Mm_goodCores.1.cls M_Mm_goodCores.1 M_Mm_goodCores.1 ∈ z_gw := z_mem (i := 1871) (by decide +kernel) (by decide +kernel)
theorem d_Lw_law_937 : decode code 937 = .ok (.pop, 1) := by decide +kernel
theorem d_Lw_law_938 : decode code 938 = .ok (.goto 870, 3) := by decide +kernel
set_option maxHeartbeats 4000000 in
set_option maxRecDepth 100000 in
theorem LC_goodCores {g : zG} {ad : Nat → Nat} {t : zTT} {u : zNN} {w : zW} (hI : IV g ad t u w) (hR : REL t) {j r : Nat} (hJ : 7 * j + 7 ≤ g.2.2 41) (hL : g.2.2 41 < 2 ^ 31) (ih : LWI g ad j r) : DW g M_Lw_law lwQ w 928 [(5, .int (nI (7 * j))), (4, .ref (ad 70)), (3, .ref (ad 69)), (2, .ref (ad 52)), (1, .ref (ad 0)), (0, .ref (g.2.2 40))] [] (100 * (r + 1)) (1000 * (r + 1)) := by
  refine y_base (cs := []) (z_I.nil w) ?_
  refine y_aload_n d_Lw_law_928 rfl 4 rfl ?_
  refine yw_callVL (As := []) (rest := []) (ci := 11) rfl (fun wA hA => (IV.nil hA hI).ra) ln_Lw_239 w_im_Ip_goodCores w_se_Ip_goodCores ok_Lw_law_Ip_goodCores d_Lw_law_929 (fun wA hA => K_Ip_goodCores (IV.nil hA hI)) rfl rfl (Nat.le_of_ble_eq_true rfl) (by omega) (by omega) (fun wA929 hA929 E wB929 hx => ?_) (fun wA929 hA929 v wB929 hx => ?_)
  · obtain ⟨h1, -⟩ := hx
    cases zriE h1
  · obtain ⟨h1, u2, hI2⟩ := hx
    obtain ⟨v9, rfl⟩ := zriV h1
    refine yw_st (st2 := [.int v9]) rfl ?_
    have hI := hI2
    refine y_base (cs := []) (z_I.nil _) ?_
    refine y_pop d_Lw_law_932 rfl ?_
    refine y_aload_n d_Lw_law_933 rfl 3 rfl ?_
    refine yw_callVL (As := []) (rest := []) (ci := 12) rfl (fun wA hA => (IV.nil hA hI).rm) ln_Lw_242 w_im_Mm_goodCores w_se_Mm_goodCores ok_Lw_law_Mm_goodCores d_Lw_law_934 (fun wA hA => K_Mm_goodCores (IV.nil hA hI)) rfl rfl (Nat.le_of_ble_eq_true rfl) (by omega) (by omega) (fun wA934 hA934 E wB934 hx => ?_) (fun wA934 hA934 v wB934 hx => ?_)
    · obtain ⟨⟨v8, e1⟩, -⟩ := hx
      cases e1
    · obtain ⟨⟨v8, e1⟩, u2, hI2⟩ := hx
      cases e1
      refine yw_st (st2 := [.int v8]) rfl ?_
      have hI := hI2
      refine y_base (cs := []) (z_I.nil _) ?_
      refine y_pop d_Lw_law_937 rfl ?_
      refine y_goto (tgt := 1808) d_Lw_law_938 (by decide) ?_
      refine y_lv (lv' := [(5, .int (nI (7 * j))), (4, .ref (ad 70)), (3, .ref (ad 69)), (2, .ref (ad 52)), (1, .ref (ad 0)), (0, .ref (g.2.2 40))]) [0, 1, 2, 3, 4, 5] rfl ?_
      refine y_end (fun wC hC => ?_)
      exact LC_next (IV.nil hC hI) hR hJ hL ih (by omega) (by omega)
theorem d_Lw_law_941 : decode code 941 = .ok (.aload_n 1, 1) := by decide +kernel
theorem d_Lw_law_942 : decode code 942 = .ok (.aload_n 0, 1) := by decide +kernel
theorem d_Lw_law_943 : decode code 943 = .ok (.iload 5, 2) := by decide +kernel
theorem d_Lw_law_945 : decode code 945 = .ok (.iconst 1, 1) := by decide +kernel
theorem d_Lw_law_946 : decode code 946 = .ok (.iadd, 1) := by decide +kernel
theorem d_Lw_law_947 : decode code 947 = .ok (.iaload, 1) := by decide +kernel
theorem d_Lw_law_948 : decode code 948 = .ok (.aload_n 3, 1) := by decide +kernel
theorem d_Lw_law_949 : decode code 949 = .ok (.invokestatic 243, 3) := by decide +kernel
theorem ok_Lw_law_Lw_hours : z_okX M_Lw_law M_Lw_hours 3 := ⟨z_mem (i := 1017) (by decide +kernel) (by decide +kernel), by decide, ⟨by decide +kernel, by decide +kernel, by decide +kernel⟩, ⟨by decide, by decide⟩, z_mem (i := 57) (by decide +kernel) (by decide +kernel), rfl⟩
theorem ln_Lw_243 : Cond.methodLink "IronpourLaw" 243 M_Lw_hours.1 ∈ z_gw := z_mem (i := 1015) (by decide +kernel) (by decide +kernel)
theorem w_st_Lw_hours : Cond.static M_Lw_hours.1 ∈ z_gw := z_mem (i := 1016) (by decide +kernel) (by decide +kernel)
theorem d_Lw_law_952 : decode code 952 = .ok (.istore 6, 2) := by decide +kernel
theorem d_Lw_law_954 : decode code 954 = .ok (.aload_n 2, 1) := by decide +kernel
theorem d_Lw_law_955 : decode code 955 = .ok (.aload_n 0, 1) := by decide +kernel
theorem d_Lw_law_956 : decode code 956 = .ok (.iload 5, 2) := by decide +kernel
theorem d_Lw_law_958 : decode code 958 = .ok (.iconst 1, 1) := by decide +kernel
theorem d_Lw_law_959 : decode code 959 = .ok (.iadd, 1) := by decide +kernel
theorem d_Lw_law_960 : decode code 960 = .ok (.iaload, 1) := by decide +kernel
theorem d_Lw_law_961 : decode code 961 = .ok (.invokevirtual 245, 3) := by decide +kernel
theorem ok_Lw_law_Mm_hours : z_ok M_Lw_law M_Mm_hours 1 := ⟨z_mem (i := 1880) (by decide +kernel) (by decide +kernel), rfl, ⟨by decide +kernel, by decide +kernel, by decide +kernel⟩, ⟨by decide, by decide⟩, z_mem (i := 71) (by decide +kernel) (by decide +kernel), rfl⟩
theorem ln_Lw_245 : Cond.methodLink "IronpourLaw" 245 M_Mm_hours.1 ∈ z_gw := z_mem (i := 1877) (by decide +kernel) (by decide +kernel)
theorem w_im_Mm_hours : Cond.instanceMethod M_Mm_hours.1 ∈ z_gw := z_mem (i := 1878) (by decide +kernel) (by decide +kernel)
theorem w_se_Mm_hours : Cond.selects M_Mm_hours.1.cls M_Mm_hours.1 M_Mm_hours.1 ∈ z_gw := z_mem (i := 1879) (by decide +kernel) (by decide +kernel)
theorem d_Lw_law_964 : decode code 964 = .ok (.istore 7, 2) := by decide +kernel
theorem d_Lw_law_966 : decode code 966 = .ok (.goto 842, 3) := by decide +kernel
set_option maxHeartbeats 4000000 in
set_option maxRecDepth 100000 in
theorem LC_hours {g : zG} {ad : Nat → Nat} {t : zTT} {u : zNN} {w : zW} (hI : IV g ad t u w) (hR : REL t) {j r : Nat} (hJ : 7 * j + 7 ≤ g.2.2 41) (hL : g.2.2 41 < 2 ^ 31) (ih : LWI g ad j r) : DW g M_Lw_law lwQ w 941 [(5, .int (nI (7 * j))), (4, .ref (ad 70)), (3, .ref (ad 69)), (2, .ref (ad 52)), (1, .ref (ad 0)), (0, .ref (g.2.2 40))] [] (100 * (r + 1)) (1000 * (r + 1)) := by
  refine y_base (cs := []) (z_I.nil w) ?_
  refine y_aload_n d_Lw_law_941 rfl 4 rfl ?_
  refine y_aload_n d_Lw_law_942 rfl 5 rfl ?_
  refine y_iload d_Lw_law_943 0 rfl ?_
  refine y_iconst d_Lw_law_945 (v := 1) (by decide) ?_
  refine y_iadd d_Lw_law_946 (v := nI ((7 * j) + 1)) (nI_add _ _) ?_
  refine y_sld (v := zs g (7 * j + 1)) d_Lw_law_947 (vp_in_nI (by omega) (by omega)) (by rw [nI_clamp (by omega)]; rfl) ?_
  refine y_aload_n d_Lw_law_948 rfl 2 rfl ?_
  refine yw_callSX (As := [.ref (ad 0), .int (zs g (7 * j + 1)), .ref (ad 69)]) (rest := []) ln_Lw_243 w_st_Lw_hours ok_Lw_law_Lw_hours d_Lw_law_949 (fun wA hA => W_hours (IV.nil hA hI) _) rfl rfl (Nat.le_of_ble_eq_true rfl) (by omega) (by omega) (fun wA949 hA949 E wB949 hx => ?_) (fun wA949 hA949 v wB949 hx => ?_)
  · obtain ⟨⟨v9, e1⟩, -⟩ := hx
    cases e1
  · obtain ⟨⟨v9, e1⟩, u2, hI2⟩ := hx
    cases e1
    refine yw_st (st2 := [.int v9]) rfl ?_
    have hI := hI2
    refine y_base (cs := []) (z_I.nil _) ?_
    refine y_istore (lv' := [(6, .int v9), (5, .int (nI (7 * j))), (4, .ref (ad 70)), (3, .ref (ad 69)), (2, .ref (ad 52)), (1, .ref (ad 0)), (0, .ref (g.2.2 40))]) d_Lw_law_952 (by decide) rfl ?_
    refine y_aload_n d_Lw_law_954 rfl 4 rfl ?_
    refine y_aload_n d_Lw_law_955 rfl 6 rfl ?_
    refine y_iload d_Lw_law_956 1 rfl ?_
    refine y_iconst d_Lw_law_958 (v := 1) (by decide) ?_
    refine y_iadd d_Lw_law_959 (v := nI ((7 * j) + 1)) (nI_add _ _) ?_
    refine y_sld (v := zs g (7 * j + 1)) d_Lw_law_960 (vp_in_nI (by omega) (by omega)) (by rw [nI_clamp (by omega)]; rfl) ?_
    refine yw_callVL (As := [.int (zs g (7 * j + 1))]) (rest := []) (ci := 12) rfl (fun wA hA => (IV.nil hA hI).rm) ln_Lw_245 w_im_Mm_hours w_se_Mm_hours ok_Lw_law_Mm_hours d_Lw_law_961 (fun wA hA => K_Mm_hours (IV.nil hA hI) _) rfl rfl (Nat.le_of_ble_eq_true rfl) (by omega) (by omega) (fun wA961 hA961 E wB961 hx => ?_) (fun wA961 hA961 v wB961 hx => ?_)
    · obtain ⟨⟨v8, e1⟩, -⟩ := hx
      cases e1
    · obtain ⟨⟨v8, e1⟩, u2, hI2⟩ := hx
      cases e1
      refine yw_st (st2 := [.int v8]) rfl ?_
      have hI := hI2
      refine y_base (cs := []) (z_I.nil _) ?_
      refine y_istore (lv' := [(7, .int v8), (6, .int v9), (5, .int (nI (7 * j))), (4, .ref (ad 70)), (3, .ref (ad 69)), (2, .ref (ad 52)), (1, .ref (ad 0)), (0, .ref (g.2.2 40))]) d_Lw_law_964 (by decide) rfl ?_
      refine y_goto (tgt := 1808) d_Lw_law_966 (by decide) ?_
      refine y_lv (lv' := [(5, .int (nI (7 * j))), (4, .ref (ad 70)), (3, .ref (ad 69)), (2, .ref (ad 52)), (1, .ref (ad 0)), (0, .ref (g.2.2 40))]) [2, 3, 4, 5, 6, 7] rfl ?_
      refine y_end (fun wC hC => ?_)
      exact LC_next (IV.nil hC hI) hR hJ hL ih (by omega) (by omega)
theorem d_Lw_law_969 : decode code 969 = .ok (.aload_n 1, 1) := by decide +kernel
theorem d_Lw_law_970 : decode code 970 = .ok (.aload_n 0, 1) := by decide +kernel
theorem d_Lw_law_971 : decode code 971 = .ok (.iload 5, 2) := by decide +kernel
theorem d_Lw_law_973 : decode code 973 = .ok (.iconst 1, 1) := by decide +kernel
theorem d_Lw_law_974 : decode code 974 = .ok (.iadd, 1) := by decide +kernel
theorem d_Lw_law_975 : decode code 975 = .ok (.iaload, 1) := by decide +kernel
theorem d_Lw_law_976 : decode code 976 = .ok (.i2c, 1) := by decide +kernel
theorem d_Lw_law_977 : decode code 977 = .ok (.aload_n 0, 1) := by decide +kernel
theorem d_Lw_law_978 : decode code 978 = .ok (.iload 5, 2) := by decide +kernel
theorem d_Lw_law_980 : decode code 980 = .ok (.iconst 2, 1) := by decide +kernel
theorem d_Lw_law_981 : decode code 981 = .ok (.iadd, 1) := by decide +kernel
theorem d_Lw_law_982 : decode code 982 = .ok (.iaload, 1) := by decide +kernel
theorem d_Lw_law_983 : decode code 983 = .ok (.aload_n 3, 1) := by decide +kernel
theorem d_Lw_law_984 : decode code 984 = .ok (.invokestatic 246, 3) := by decide +kernel
theorem ok_Lw_law_Lw_charge : z_okX M_Lw_law M_Lw_charge 4 := ⟨z_mem (i := 1033) (by decide +kernel) (by decide +kernel), by decide, ⟨by decide +kernel, by decide +kernel, by decide +kernel⟩, ⟨by decide, by decide⟩, z_mem (i := 57) (by decide +kernel) (by decide +kernel), rfl⟩
theorem ln_Lw_246 : Cond.methodLink "IronpourLaw" 246 M_Lw_charge.1 ∈ z_gw := z_mem (i := 1031) (by decide +kernel) (by decide +kernel)
theorem w_st_Lw_charge : Cond.static M_Lw_charge.1 ∈ z_gw := z_mem (i := 1032) (by decide +kernel) (by decide +kernel)
theorem d_Lw_law_987 : decode code 987 = .ok (.istore 6, 2) := by decide +kernel
theorem d_Lw_law_989 : decode code 989 = .ok (.aload_n 2, 1) := by decide +kernel
theorem d_Lw_law_990 : decode code 990 = .ok (.aload_n 0, 1) := by decide +kernel
theorem d_Lw_law_991 : decode code 991 = .ok (.iload 5, 2) := by decide +kernel
theorem d_Lw_law_993 : decode code 993 = .ok (.iconst 1, 1) := by decide +kernel
theorem d_Lw_law_994 : decode code 994 = .ok (.iadd, 1) := by decide +kernel
theorem d_Lw_law_995 : decode code 995 = .ok (.iaload, 1) := by decide +kernel
theorem d_Lw_law_996 : decode code 996 = .ok (.i2c, 1) := by decide +kernel
theorem d_Lw_law_997 : decode code 997 = .ok (.aload_n 0, 1) := by decide +kernel
theorem d_Lw_law_998 : decode code 998 = .ok (.iload 5, 2) := by decide +kernel
theorem d_Lw_law_1000 : decode code 1000 = .ok (.iconst 2, 1) := by decide +kernel
theorem d_Lw_law_1001 : decode code 1001 = .ok (.iadd, 1) := by decide +kernel
theorem d_Lw_law_1002 : decode code 1002 = .ok (.iaload, 1) := by decide +kernel
theorem d_Lw_law_1003 : decode code 1003 = .ok (.invokevirtual 249, 3) := by decide +kernel
theorem ok_Lw_law_Mm_charge : z_ok M_Lw_law M_Mm_charge 2 := ⟨z_mem (i := 1885) (by decide +kernel) (by decide +kernel), rfl, ⟨by decide +kernel, by decide +kernel, by decide +kernel⟩, ⟨by decide, by decide⟩, z_mem (i := 71) (by decide +kernel) (by decide +kernel), rfl⟩
theorem ln_Lw_249 : Cond.methodLink "IronpourLaw" 249 M_Mm_charge.1 ∈ z_gw := z_mem (i := 1882) (by decide +kernel) (by decide +kernel)
theorem w_im_Mm_charge : Cond.instanceMethod M_Mm_charge.1 ∈ z_gw := z_mem (i := 1883) (by decide +kernel) (by decide +kernel)
theorem w_se_Mm_charge : Cond.selects M_Mm_charge.1.cls M_Mm_charge.1 M_Mm_charge.1 ∈ z_gw := z_mem (i := 1884) (by decide +kernel) (by decide +kernel)
theorem d_Lw_law_1006 : decode code 1006 = .ok (.istore 7, 2) := by decide +kernel
theorem d_Lw_law_1008 : decode code 1008 = .ok (.goto 800, 3) := by decide +kernel
set_option maxHeartbeats 4000000 in
set_option maxRecDepth 100000 in
theorem LC_charge {g : zG} {ad : Nat → Nat} {t : zTT} {u : zNN} {w : zW} (hI : IV g ad t u w) (hR : REL t) {j r : Nat} (hJ : 7 * j + 7 ≤ g.2.2 41) (hL : g.2.2 41 < 2 ^ 31) (ih : LWI g ad j r) : DW g M_Lw_law lwQ w 969 [(5, .int (nI (7 * j))), (4, .ref (ad 70)), (3, .ref (ad 69)), (2, .ref (ad 52)), (1, .ref (ad 0)), (0, .ref (g.2.2 40))] [] (100 * (r + 1)) (1000 * (r + 1)) := by
  refine y_base (cs := []) (z_I.nil w) ?_
  refine y_aload_n d_Lw_law_969 rfl 4 rfl ?_
  refine y_aload_n d_Lw_law_970 rfl 5 rfl ?_
  refine y_iload d_Lw_law_971 0 rfl ?_
  refine y_iconst d_Lw_law_973 (v := 1) (by decide) ?_
  refine y_iadd d_Lw_law_974 (v := nI ((7 * j) + 1)) (nI_add _ _) ?_
  refine y_sld (v := zs g (7 * j + 1)) d_Lw_law_975 (vp_in_nI (by omega) (by omega)) (by rw [nI_clamp (by omega)]; rfl) ?_
  refine y_i2c d_Lw_law_976 (v := zc g (7 * j + 1)) rfl ?_
  refine y_aload_n d_Lw_law_977 rfl 5 rfl ?_
  refine y_iload d_Lw_law_978 0 rfl ?_
  refine y_iconst d_Lw_law_980 (v := 2) (by decide) ?_
  refine y_iadd d_Lw_law_981 (v := nI ((7 * j) + 2)) (nI_add _ _) ?_
  refine y_sld (v := zs g (7 * j + 2)) d_Lw_law_982 (vp_in_nI (by omega) (by omega)) (by rw [nI_clamp (by omega)]; rfl) ?_
  refine y_aload_n d_Lw_law_983 rfl 2 rfl ?_
  refine yw_callSX (As := [.ref (ad 0), .int (zc g (7 * j + 1)), .int (zs g (7 * j + 2)), .ref (ad 69)]) (rest := []) ln_Lw_246 w_st_Lw_charge ok_Lw_law_Lw_charge d_Lw_law_984 (fun wA hA => W_charge (IV.nil hA hI) _ _) rfl rfl (Nat.le_of_ble_eq_true rfl) (by omega) (by omega) (fun wA984 hA984 E wB984 hx => ?_) (fun wA984 hA984 v wB984 hx => ?_)
  · obtain ⟨⟨v9, e1⟩, -⟩ := hx
    cases e1
  · obtain ⟨⟨v9, e1⟩, u2, hI2⟩ := hx
    cases e1
    refine yw_st (st2 := [.int v9]) rfl ?_
    have hI := hI2
    refine y_base (cs := []) (z_I.nil _) ?_
    refine y_istore (lv' := [(6, .int v9), (5, .int (nI (7 * j))), (4, .ref (ad 70)), (3, .ref (ad 69)), (2, .ref (ad 52)), (1, .ref (ad 0)), (0, .ref (g.2.2 40))]) d_Lw_law_987 (by decide) rfl ?_
    refine y_aload_n d_Lw_law_989 rfl 4 rfl ?_
    refine y_aload_n d_Lw_law_990 rfl 6 rfl ?_
    refine y_iload d_Lw_law_991 1 rfl ?_
    refine y_iconst d_Lw_law_993 (v := 1) (by decide) ?_
    refine y_iadd d_Lw_law_994 (v := nI ((7 * j) + 1)) (nI_add _ _) ?_
    refine y_sld (v := zs g (7 * j + 1)) d_Lw_law_995 (vp_in_nI (by omega) (by omega)) (by rw [nI_clamp (by omega)]; rfl) ?_
    refine y_i2c d_Lw_law_996 (v := zc g (7 * j + 1)) rfl ?_
    refine y_aload_n d_Lw_law_997 rfl 6 rfl ?_
    refine y_iload d_Lw_law_998 1 rfl ?_
    refine y_iconst d_Lw_law_1000 (v := 2) (by decide) ?_
    refine y_iadd d_Lw_law_1001 (v := nI ((7 * j) + 2)) (nI_add _ _) ?_
    refine y_sld (v := zs g (7 * j + 2)) d_Lw_law_1002 (vp_in_nI (by omega) (by omega)) (by rw [nI_clamp (by omega)]; rfl) ?_
    refine yw_callVL (As := [.int (zc g (7 * j + 1)), .int (zs g (7 * j + 2))]) (rest := []) (ci := 12) rfl (fun wA hA => (IV.nil hA hI).rm) ln_Lw_249 w_im_Mm_charge w_se_Mm_charge ok_Lw_law_Mm_charge d_Lw_law_1003 (fun wA hA => K_Mm_charge (IV.nil hA hI) _ _) rfl rfl (Nat.le_of_ble_eq_true rfl) (by omega) (by omega) (fun wA1003 hA1003 E wB1003 hx => ?_) (fun wA1003 hA1003 v wB1003 hx => ?_)
    · obtain ⟨⟨v8, e1⟩, -⟩ := hx
      cases e1
    · obtain ⟨⟨v8, e1⟩, u2, hI2⟩ := hx
      cases e1
      refine yw_st (st2 := [.int v8]) rfl ?_
      have hI := hI2
      refine y_base (cs := []) (z_I.nil _) ?_
      refine y_istore (lv' := [(7, .int v8), (6, .int v9), (5, .int (nI (7 * j))), (4, .ref (ad 70)), (3, .ref (ad 69)), (2, .ref (ad 52)), (1, .ref (ad 0)), (0, .ref (g.2.2 40))]) d_Lw_law_1006 (by decide) rfl ?_
      refine y_goto (tgt := 1808) d_Lw_law_1008 (by decide) ?_
      refine y_lv (lv' := [(5, .int (nI (7 * j))), (4, .ref (ad 70)), (3, .ref (ad 69)), (2, .ref (ad 52)), (1, .ref (ad 0)), (0, .ref (g.2.2 40))]) [2, 3, 4, 5, 6, 7] rfl ?_
      refine y_end (fun wC hC => ?_)
      exact LC_next (IV.nil hC hI) hR hJ hL ih (by omega) (by omega)
theorem d_Lw_law_1011 : decode code 1011 = .ok (.aload_n 1, 1) := by decide +kernel
theorem d_Lw_law_1012 : decode code 1012 = .ok (.aload_n 0, 1) := by decide +kernel
theorem d_Lw_law_1013 : decode code 1013 = .ok (.iload 5, 2) := by decide +kernel
theorem d_Lw_law_1015 : decode code 1015 = .ok (.iconst 1, 1) := by decide +kernel
theorem d_Lw_law_1016 : decode code 1016 = .ok (.iadd, 1) := by decide +kernel
theorem d_Lw_law_1017 : decode code 1017 = .ok (.iaload, 1) := by decide +kernel
theorem d_Lw_law_1018 : decode code 1018 = .ok (.i2c, 1) := by decide +kernel
theorem d_Lw_law_1019 : decode code 1019 = .ok (.aload_n 3, 1) := by decide +kernel
theorem d_Lw_law_1020 : decode code 1020 = .ok (.invokestatic 250, 3) := by decide +kernel
theorem ok_Lw_law_Lw_furnace : z_okX M_Lw_law M_Lw_furnace 3 := ⟨z_mem (i := 1084) (by decide +kernel) (by decide +kernel), by decide, ⟨by decide +kernel, by decide +kernel, by decide +kernel⟩, ⟨by decide, by decide⟩, z_mem (i := 57) (by decide +kernel) (by decide +kernel), rfl⟩
theorem ln_Lw_250 : Cond.methodLink "IronpourLaw" 250 M_Lw_furnace.1 ∈ z_gw := z_mem (i := 1082) (by decide +kernel) (by decide +kernel)
theorem w_st_Lw_furnace : Cond.static M_Lw_furnace.1 ∈ z_gw := z_mem (i := 1083) (by decide +kernel) (by decide +kernel)
theorem d_Lw_law_1023 : decode code 1023 = .ok (.istore 6, 2) := by decide +kernel
theorem d_Lw_law_1025 : decode code 1025 = .ok (.aload_n 2, 1) := by decide +kernel
theorem d_Lw_law_1026 : decode code 1026 = .ok (.aload_n 0, 1) := by decide +kernel
theorem d_Lw_law_1027 : decode code 1027 = .ok (.iload 5, 2) := by decide +kernel
theorem d_Lw_law_1029 : decode code 1029 = .ok (.iconst 1, 1) := by decide +kernel
theorem d_Lw_law_1030 : decode code 1030 = .ok (.iadd, 1) := by decide +kernel
theorem d_Lw_law_1031 : decode code 1031 = .ok (.iaload, 1) := by decide +kernel
theorem d_Lw_law_1032 : decode code 1032 = .ok (.i2c, 1) := by decide +kernel
theorem d_Lw_law_1033 : decode code 1033 = .ok (.invokevirtual 252, 3) := by decide +kernel
theorem ok_Lw_law_Mm_furnace : z_ok M_Lw_law M_Mm_furnace 1 := ⟨z_mem (i := 1898) (by decide +kernel) (by decide +kernel), rfl, ⟨by decide +kernel, by decide +kernel, by decide +kernel⟩, ⟨by decide, by decide⟩, z_mem (i := 71) (by decide +kernel) (by decide +kernel), rfl⟩
theorem ln_Lw_252 : Cond.methodLink "IronpourLaw" 252 M_Mm_furnace.1 ∈ z_gw := z_mem (i := 1895) (by decide +kernel) (by decide +kernel)
theorem w_im_Mm_furnace : Cond.instanceMethod M_Mm_furnace.1 ∈ z_gw := z_mem (i := 1896) (by decide +kernel) (by decide +kernel)
theorem w_se_Mm_furnace : Cond.selects M_Mm_furnace.1.cls M_Mm_furnace.1 M_Mm_furnace.1 ∈ z_gw := z_mem (i := 1897) (by decide +kernel) (by decide +kernel)
theorem d_Lw_law_1036 : decode code 1036 = .ok (.istore 7, 2) := by decide +kernel
theorem d_Lw_law_1038 : decode code 1038 = .ok (.goto 770, 3) := by decide +kernel
set_option maxHeartbeats 4000000 in
set_option maxRecDepth 100000 in
theorem LC_furnace {g : zG} {ad : Nat → Nat} {t : zTT} {u : zNN} {w : zW} (hI : IV g ad t u w) (hR : REL t) {j r : Nat} (hJ : 7 * j + 7 ≤ g.2.2 41) (hL : g.2.2 41 < 2 ^ 31) (ih : LWI g ad j r) : DW g M_Lw_law lwQ w 1011 [(5, .int (nI (7 * j))), (4, .ref (ad 70)), (3, .ref (ad 69)), (2, .ref (ad 52)), (1, .ref (ad 0)), (0, .ref (g.2.2 40))] [] (100 * (r + 1)) (1000 * (r + 1)) := by
  refine y_base (cs := []) (z_I.nil w) ?_
  refine y_aload_n d_Lw_law_1011 rfl 4 rfl ?_
  refine y_aload_n d_Lw_law_1012 rfl 5 rfl ?_
  refine y_iload d_Lw_law_1013 0 rfl ?_
  refine y_iconst d_Lw_law_1015 (v := 1) (by decide) ?_
  refine y_iadd d_Lw_law_1016 (v := nI ((7 * j) + 1)) (nI_add _ _) ?_
  refine y_sld (v := zs g (7 * j + 1)) d_Lw_law_1017 (vp_in_nI (by omega) (by omega)) (by rw [nI_clamp (by omega)]; rfl) ?_
  refine y_i2c d_Lw_law_1018 (v := zc g (7 * j + 1)) rfl ?_
  refine y_aload_n d_Lw_law_1019 rfl 2 rfl ?_
  refine yw_callSX (As := [.ref (ad 0), .int (zc g (7 * j + 1)), .ref (ad 69)]) (rest := []) ln_Lw_250 w_st_Lw_furnace ok_Lw_law_Lw_furnace d_Lw_law_1020 (fun wA hA => W_furnace (IV.nil hA hI) _) rfl rfl (Nat.le_of_ble_eq_true rfl) (by omega) (by omega) (fun wA1020 hA1020 E wB1020 hx => ?_) (fun wA1020 hA1020 v wB1020 hx => ?_)
  · obtain ⟨⟨v9, e1⟩, -⟩ := hx
    cases e1
  · obtain ⟨⟨v9, e1⟩, u2, hI2⟩ := hx
    cases e1
    refine yw_st (st2 := [.int v9]) rfl ?_
    have hI := hI2
    refine y_base (cs := []) (z_I.nil _) ?_
    refine y_istore (lv' := [(6, .int v9), (5, .int (nI (7 * j))), (4, .ref (ad 70)), (3, .ref (ad 69)), (2, .ref (ad 52)), (1, .ref (ad 0)), (0, .ref (g.2.2 40))]) d_Lw_law_1023 (by decide) rfl ?_
    refine y_aload_n d_Lw_law_1025 rfl 4 rfl ?_
    refine y_aload_n d_Lw_law_1026 rfl 6 rfl ?_
    refine y_iload d_Lw_law_1027 1 rfl ?_
    refine y_iconst d_Lw_law_1029 (v := 1) (by decide) ?_
    refine y_iadd d_Lw_law_1030 (v := nI ((7 * j) + 1)) (nI_add _ _) ?_
    refine y_sld (v := zs g (7 * j + 1)) d_Lw_law_1031 (vp_in_nI (by omega) (by omega)) (by rw [nI_clamp (by omega)]; rfl) ?_
    refine y_i2c d_Lw_law_1032 (v := zc g (7 * j + 1)) rfl ?_
    refine yw_callVL (As := [.int (zc g (7 * j + 1))]) (rest := []) (ci := 12) rfl (fun wA hA => (IV.nil hA hI).rm) ln_Lw_252 w_im_Mm_furnace w_se_Mm_furnace ok_Lw_law_Mm_furnace d_Lw_law_1033 (fun wA hA => K_Mm_furnace (IV.nil hA hI) _) rfl rfl (Nat.le_of_ble_eq_true rfl) (by omega) (by omega) (fun wA1033 hA1033 E wB1033 hx => ?_) (fun wA1033 hA1033 v wB1033 hx => ?_)
    · obtain ⟨⟨v8, e1⟩, -⟩ := hx
      cases e1
    · obtain ⟨⟨v8, e1⟩, u2, hI2⟩ := hx
      cases e1
      refine yw_st (st2 := [.int v8]) rfl ?_
      have hI := hI2
      refine y_base (cs := []) (z_I.nil _) ?_
      refine y_istore (lv' := [(7, .int v8), (6, .int v9), (5, .int (nI (7 * j))), (4, .ref (ad 70)), (3, .ref (ad 69)), (2, .ref (ad 52)), (1, .ref (ad 0)), (0, .ref (g.2.2 40))]) d_Lw_law_1036 (by decide) rfl ?_
      refine y_goto (tgt := 1808) d_Lw_law_1038 (by decide) ?_
      refine y_lv (lv' := [(5, .int (nI (7 * j))), (4, .ref (ad 70)), (3, .ref (ad 69)), (2, .ref (ad 52)), (1, .ref (ad 0)), (0, .ref (g.2.2 40))]) [2, 3, 4, 5, 6, 7] rfl ?_
      refine y_end (fun wC hC => ?_)
      exact LC_next (IV.nil hC hI) hR hJ hL ih (by omega) (by omega)
theorem d_Lw_law_1041 : decode code 1041 = .ok (.aload_n 1, 1) := by decide +kernel
theorem d_Lw_law_1042 : decode code 1042 = .ok (.aload_n 0, 1) := by decide +kernel
theorem d_Lw_law_1043 : decode code 1043 = .ok (.iload 5, 2) := by decide +kernel
theorem d_Lw_law_1045 : decode code 1045 = .ok (.iconst 1, 1) := by decide +kernel
theorem d_Lw_law_1046 : decode code 1046 = .ok (.iadd, 1) := by decide +kernel
theorem d_Lw_law_1047 : decode code 1047 = .ok (.iaload, 1) := by decide +kernel
theorem d_Lw_law_1048 : decode code 1048 = .ok (.aload_n 3, 1) := by decide +kernel
theorem d_Lw_law_1049 : decode code 1049 = .ok (.invokestatic 253, 3) := by decide +kernel
theorem ok_Lw_law_Lw_hold : z_okX M_Lw_law M_Lw_hold 3 := ⟨z_mem (i := 1102) (by decide +kernel) (by decide +kernel), by decide, ⟨by decide +kernel, by decide +kernel, by decide +kernel⟩, ⟨by decide, by decide⟩, z_mem (i := 57) (by decide +kernel) (by decide +kernel), rfl⟩
theorem ln_Lw_253 : Cond.methodLink "IronpourLaw" 253 M_Lw_hold.1 ∈ z_gw := z_mem (i := 1100) (by decide +kernel) (by decide +kernel)
theorem w_st_Lw_hold : Cond.static M_Lw_hold.1 ∈ z_gw := z_mem (i := 1101) (by decide +kernel) (by decide +kernel)
theorem d_Lw_law_1052 : decode code 1052 = .ok (.istore 6, 2) := by decide +kernel
theorem d_Lw_law_1054 : decode code 1054 = .ok (.aload_n 2, 1) := by decide +kernel
theorem d_Lw_law_1055 : decode code 1055 = .ok (.aload_n 0, 1) := by decide +kernel
theorem d_Lw_law_1056 : decode code 1056 = .ok (.iload 5, 2) := by decide +kernel
theorem d_Lw_law_1058 : decode code 1058 = .ok (.iconst 1, 1) := by decide +kernel
theorem d_Lw_law_1059 : decode code 1059 = .ok (.iadd, 1) := by decide +kernel
theorem d_Lw_law_1060 : decode code 1060 = .ok (.iaload, 1) := by decide +kernel
theorem d_Lw_law_1061 : decode code 1061 = .ok (.invokevirtual 255, 3) := by decide +kernel
theorem ok_Lw_law_Mm_hold : z_ok M_Lw_law M_Mm_hold 1 := ⟨z_mem (i := 1910) (by decide +kernel) (by decide +kernel), rfl, ⟨by decide +kernel, by decide +kernel, by decide +kernel⟩, ⟨by decide, by decide⟩, z_mem (i := 71) (by decide +kernel) (by decide +kernel), rfl⟩
theorem ln_Lw_255 : Cond.methodLink "IronpourLaw" 255 M_Mm_hold.1 ∈ z_gw := z_mem (i := 1907) (by decide +kernel) (by decide +kernel)
theorem w_im_Mm_hold : Cond.instanceMethod M_Mm_hold.1 ∈ z_gw := z_mem (i := 1908) (by decide +kernel) (by decide +kernel)
theorem w_se_Mm_hold : Cond.selects M_Mm_hold.1.cls M_Mm_hold.1 M_Mm_hold.1 ∈ z_gw := z_mem (i := 1909) (by decide +kernel) (by decide +kernel)
theorem d_Lw_law_1064 : decode code 1064 = .ok (.istore 7, 2) := by decide +kernel
theorem d_Lw_law_1066 : decode code 1066 = .ok (.goto 742, 3) := by decide +kernel
set_option maxHeartbeats 4000000 in
set_option maxRecDepth 100000 in
theorem LC_hold {g : zG} {ad : Nat → Nat} {t : zTT} {u : zNN} {w : zW} (hI : IV g ad t u w) (hR : REL t) {j r : Nat} (hJ : 7 * j + 7 ≤ g.2.2 41) (hL : g.2.2 41 < 2 ^ 31) (ih : LWI g ad j r) : DW g M_Lw_law lwQ w 1041 [(5, .int (nI (7 * j))), (4, .ref (ad 70)), (3, .ref (ad 69)), (2, .ref (ad 52)), (1, .ref (ad 0)), (0, .ref (g.2.2 40))] [] (100 * (r + 1)) (1000 * (r + 1)) := by
  refine y_base (cs := []) (z_I.nil w) ?_
  refine y_aload_n d_Lw_law_1041 rfl 4 rfl ?_
  refine y_aload_n d_Lw_law_1042 rfl 5 rfl ?_
  refine y_iload d_Lw_law_1043 0 rfl ?_
  refine y_iconst d_Lw_law_1045 (v := 1) (by decide) ?_
  refine y_iadd d_Lw_law_1046 (v := nI ((7 * j) + 1)) (nI_add _ _) ?_
  refine y_sld (v := zs g (7 * j + 1)) d_Lw_law_1047 (vp_in_nI (by omega) (by omega)) (by rw [nI_clamp (by omega)]; rfl) ?_
  refine y_aload_n d_Lw_law_1048 rfl 2 rfl ?_
  refine yw_callSX (As := [.ref (ad 0), .int (zs g (7 * j + 1)), .ref (ad 69)]) (rest := []) ln_Lw_253 w_st_Lw_hold ok_Lw_law_Lw_hold d_Lw_law_1049 (fun wA hA => W_hold (IV.nil hA hI) _) rfl rfl (Nat.le_of_ble_eq_true rfl) (by omega) (by omega) (fun wA1049 hA1049 E wB1049 hx => ?_) (fun wA1049 hA1049 v wB1049 hx => ?_)
  · obtain ⟨⟨v9, e1⟩, -⟩ := hx
    cases e1
  · obtain ⟨⟨v9, e1⟩, u2, hI2⟩ := hx
    cases e1
    refine yw_st (st2 := [.int v9]) rfl ?_
    have hI := hI2
    refine y_base (cs := []) (z_I.nil _) ?_
    refine y_istore (lv' := [(6, .int v9), (5, .int (nI (7 * j))), (4, .ref (ad 70)), (3, .ref (ad 69)), (2, .ref (ad 52)), (1, .ref (ad 0)), (0, .ref (g.2.2 40))]) d_Lw_law_1052 (by decide) rfl ?_
    refine y_aload_n d_Lw_law_1054 rfl 4 rfl ?_
    refine y_aload_n d_Lw_law_1055 rfl 6 rfl ?_
    refine y_iload d_Lw_law_1056 1 rfl ?_
    refine y_iconst d_Lw_law_1058 (v := 1) (by decide) ?_
    refine y_iadd d_Lw_law_1059 (v := nI ((7 * j) + 1)) (nI_add _ _) ?_
    refine y_sld (v := zs g (7 * j + 1)) d_Lw_law_1060 (vp_in_nI (by omega) (by omega)) (by rw [nI_clamp (by omega)]; rfl) ?_
    refine yw_callVL (As := [.int (zs g (7 * j + 1))]) (rest := []) (ci := 12) rfl (fun wA hA => (IV.nil hA hI).rm) ln_Lw_255 w_im_Mm_hold w_se_Mm_hold ok_Lw_law_Mm_hold d_Lw_law_1061 (fun wA hA => K_Mm_hold (IV.nil hA hI) _) rfl rfl (Nat.le_of_ble_eq_true rfl) (by omega) (by omega) (fun wA1061 hA1061 E wB1061 hx => ?_) (fun wA1061 hA1061 v wB1061 hx => ?_)
    · obtain ⟨⟨v8, e1⟩, -⟩ := hx
      cases e1
    · obtain ⟨⟨v8, e1⟩, u2, hI2⟩ := hx
      cases e1
      refine yw_st (st2 := [.int v8]) rfl ?_
      have hI := hI2
      refine y_base (cs := []) (z_I.nil _) ?_
      refine y_istore (lv' := [(7, .int v8), (6, .int v9), (5, .int (nI (7 * j))), (4, .ref (ad 70)), (3, .ref (ad 69)), (2, .ref (ad 52)), (1, .ref (ad 0)), (0, .ref (g.2.2 40))]) d_Lw_law_1064 (by decide) rfl ?_
      refine y_goto (tgt := 1808) d_Lw_law_1066 (by decide) ?_
      refine y_lv (lv' := [(5, .int (nI (7 * j))), (4, .ref (ad 70)), (3, .ref (ad 69)), (2, .ref (ad 52)), (1, .ref (ad 0)), (0, .ref (g.2.2 40))]) [2, 3, 4, 5, 6, 7] rfl ?_
      refine y_end (fun wC hC => ?_)
      exact LC_next (IV.nil hC hI) hR hJ hL ih (by omega) (by omega)
theorem d_Lw_law_1069 : decode code 1069 = .ok (.aload_n 1, 1) := by decide +kernel
theorem d_Lw_law_1070 : decode code 1070 = .ok (.aload_n 0, 1) := by decide +kernel
theorem d_Lw_law_1071 : decode code 1071 = .ok (.iload 5, 2) := by decide +kernel
theorem d_Lw_law_1073 : decode code 1073 = .ok (.iconst 1, 1) := by decide +kernel
theorem d_Lw_law_1074 : decode code 1074 = .ok (.iadd, 1) := by decide +kernel
theorem d_Lw_law_1075 : decode code 1075 = .ok (.iaload, 1) := by decide +kernel
theorem d_Lw_law_1076 : decode code 1076 = .ok (.aload_n 3, 1) := by decide +kernel
theorem d_Lw_law_1077 : decode code 1077 = .ok (.invokestatic 256, 3) := by decide +kernel
theorem ok_Lw_law_Lw_tap : z_okX M_Lw_law M_Lw_tap 3 := ⟨z_mem (i := 1118) (by decide +kernel) (by decide +kernel), by decide, ⟨by decide +kernel, by decide +kernel, by decide +kernel⟩, ⟨by decide, by decide⟩, z_mem (i := 57) (by decide +kernel) (by decide +kernel), rfl⟩
theorem ln_Lw_256 : Cond.methodLink "IronpourLaw" 256 M_Lw_tap.1 ∈ z_gw := z_mem (i := 1116) (by decide +kernel) (by decide +kernel)
theorem w_st_Lw_tap : Cond.static M_Lw_tap.1 ∈ z_gw := z_mem (i := 1117) (by decide +kernel) (by decide +kernel)
theorem d_Lw_law_1080 : decode code 1080 = .ok (.istore 6, 2) := by decide +kernel
theorem d_Lw_law_1082 : decode code 1082 = .ok (.aload_n 2, 1) := by decide +kernel
theorem d_Lw_law_1083 : decode code 1083 = .ok (.aload_n 0, 1) := by decide +kernel
theorem d_Lw_law_1084 : decode code 1084 = .ok (.iload 5, 2) := by decide +kernel
theorem d_Lw_law_1086 : decode code 1086 = .ok (.iconst 1, 1) := by decide +kernel
theorem d_Lw_law_1087 : decode code 1087 = .ok (.iadd, 1) := by decide +kernel
theorem d_Lw_law_1088 : decode code 1088 = .ok (.iaload, 1) := by decide +kernel
theorem d_Lw_law_1089 : decode code 1089 = .ok (.invokevirtual 258, 3) := by decide +kernel
theorem ok_Lw_law_Mm_tap : z_ok M_Lw_law M_Mm_tap 1 := ⟨z_mem (i := 1916) (by decide +kernel) (by decide +kernel), rfl, ⟨by decide +kernel, by decide +kernel, by decide +kernel⟩, ⟨by decide, by decide⟩, z_mem (i := 71) (by decide +kernel) (by decide +kernel), rfl⟩
theorem ln_Lw_258 : Cond.methodLink "IronpourLaw" 258 M_Mm_tap.1 ∈ z_gw := z_mem (i := 1913) (by decide +kernel) (by decide +kernel)
theorem w_im_Mm_tap : Cond.instanceMethod M_Mm_tap.1 ∈ z_gw := z_mem (i := 1914) (by decide +kernel) (by decide +kernel)
theorem w_se_Mm_tap : Cond.selects M_Mm_tap.1.cls M_Mm_tap.1 M_Mm_tap.1 ∈ z_gw := z_mem (i := 1915) (by decide +kernel) (by decide +kernel)
theorem d_Lw_law_1092 : decode code 1092 = .ok (.istore 7, 2) := by decide +kernel
theorem d_Lw_law_1094 : decode code 1094 = .ok (.goto 714, 3) := by decide +kernel
set_option maxHeartbeats 4000000 in
set_option maxRecDepth 100000 in
theorem LC_tap {g : zG} {ad : Nat → Nat} {t : zTT} {u : zNN} {w : zW} (hI : IV g ad t u w) (hR : REL t) {j r : Nat} (hJ : 7 * j + 7 ≤ g.2.2 41) (hL : g.2.2 41 < 2 ^ 31) (ih : LWI g ad j r) : DW g M_Lw_law lwQ w 1069 [(5, .int (nI (7 * j))), (4, .ref (ad 70)), (3, .ref (ad 69)), (2, .ref (ad 52)), (1, .ref (ad 0)), (0, .ref (g.2.2 40))] [] (100 * (r + 1)) (1000 * (r + 1)) := by
  refine y_base (cs := []) (z_I.nil w) ?_
  refine y_aload_n d_Lw_law_1069 rfl 4 rfl ?_
  refine y_aload_n d_Lw_law_1070 rfl 5 rfl ?_
  refine y_iload d_Lw_law_1071 0 rfl ?_
  refine y_iconst d_Lw_law_1073 (v := 1) (by decide) ?_
  refine y_iadd d_Lw_law_1074 (v := nI ((7 * j) + 1)) (nI_add _ _) ?_
  refine y_sld (v := zs g (7 * j + 1)) d_Lw_law_1075 (vp_in_nI (by omega) (by omega)) (by rw [nI_clamp (by omega)]; rfl) ?_
  refine y_aload_n d_Lw_law_1076 rfl 2 rfl ?_
  refine yw_callSX (As := [.ref (ad 0), .int (zs g (7 * j + 1)), .ref (ad 69)]) (rest := []) ln_Lw_256 w_st_Lw_tap ok_Lw_law_Lw_tap d_Lw_law_1077 (fun wA hA => W_tap (IV.nil hA hI) _) rfl rfl (Nat.le_of_ble_eq_true rfl) (by omega) (by omega) (fun wA1077 hA1077 E wB1077 hx => ?_) (fun wA1077 hA1077 v wB1077 hx => ?_)
  · obtain ⟨⟨v9, e1⟩, -⟩ := hx
    cases e1
  · obtain ⟨⟨v9, e1⟩, u2, hI2⟩ := hx
    cases e1
    refine yw_st (st2 := [.int v9]) rfl ?_
    have hI := hI2
    refine y_base (cs := []) (z_I.nil _) ?_
    refine y_istore (lv' := [(6, .int v9), (5, .int (nI (7 * j))), (4, .ref (ad 70)), (3, .ref (ad 69)), (2, .ref (ad 52)), (1, .ref (ad 0)), (0, .ref (g.2.2 40))]) d_Lw_law_1080 (by decide) rfl ?_
    refine y_aload_n d_Lw_law_1082 rfl 4 rfl ?_
    refine y_aload_n d_Lw_law_1083 rfl 6 rfl ?_
    refine y_iload d_Lw_law_1084 1 rfl ?_
    refine y_iconst d_Lw_law_1086 (v := 1) (by decide) ?_
    refine y_iadd d_Lw_law_1087 (v := nI ((7 * j) + 1)) (nI_add _ _) ?_
    refine y_sld (v := zs g (7 * j + 1)) d_Lw_law_1088 (vp_in_nI (by omega) (by omega)) (by rw [nI_clamp (by omega)]; rfl) ?_
    refine yw_callVL (As := [.int (zs g (7 * j + 1))]) (rest := []) (ci := 12) rfl (fun wA hA => (IV.nil hA hI).rm) ln_Lw_258 w_im_Mm_tap w_se_Mm_tap ok_Lw_law_Mm_tap d_Lw_law_1089 (fun wA hA => K_Mm_tap (IV.nil hA hI) _) rfl rfl (Nat.le_of_ble_eq_true rfl) (by omega) (by omega) (fun wA1089 hA1089 E wB1089 hx => ?_) (fun wA1089 hA1089 v wB1089 hx => ?_)
    · obtain ⟨⟨v8, e1⟩, -⟩ := hx
      cases e1
    · obtain ⟨⟨v8, e1⟩, u2, hI2⟩ := hx
      cases e1
      refine yw_st (st2 := [.int v8]) rfl ?_
      have hI := hI2
      refine y_base (cs := []) (z_I.nil _) ?_
      refine y_istore (lv' := [(7, .int v8), (6, .int v9), (5, .int (nI (7 * j))), (4, .ref (ad 70)), (3, .ref (ad 69)), (2, .ref (ad 52)), (1, .ref (ad 0)), (0, .ref (g.2.2 40))]) d_Lw_law_1092 (by decide) rfl ?_
      refine y_goto (tgt := 1808) d_Lw_law_1094 (by decide) ?_
      refine y_lv (lv' := [(5, .int (nI (7 * j))), (4, .ref (ad 70)), (3, .ref (ad 69)), (2, .ref (ad 52)), (1, .ref (ad 0)), (0, .ref (g.2.2 40))]) [2, 3, 4, 5, 6, 7] rfl ?_
      refine y_end (fun wC hC => ?_)
      exact LC_next (IV.nil hC hI) hR hJ hL ih (by omega) (by omega)
theorem d_Lw_law_1097 : decode code 1097 = .ok (.aload_n 1, 1) := by decide +kernel
theorem d_Lw_law_1098 : decode code 1098 = .ok (.aload_n 0, 1) := by decide +kernel
theorem d_Lw_law_1099 : decode code 1099 = .ok (.iload 5, 2) := by decide +kernel
theorem d_Lw_law_1101 : decode code 1101 = .ok (.iconst 1, 1) := by decide +kernel
theorem d_Lw_law_1102 : decode code 1102 = .ok (.iadd, 1) := by decide +kernel
theorem d_Lw_law_1103 : decode code 1103 = .ok (.iaload, 1) := by decide +kernel
theorem d_Lw_law_1104 : decode code 1104 = .ok (.aload_n 3, 1) := by decide +kernel
theorem d_Lw_law_1105 : decode code 1105 = .ok (.invokestatic 259, 3) := by decide +kernel
theorem ok_Lw_law_Lw_treat : z_okX M_Lw_law M_Lw_treat 3 := ⟨z_mem (i := 1137) (by decide +kernel) (by decide +kernel), by decide, ⟨by decide +kernel, by decide +kernel, by decide +kernel⟩, ⟨by decide, by decide⟩, z_mem (i := 57) (by decide +kernel) (by decide +kernel), rfl⟩
theorem ln_Lw_259 : Cond.methodLink "IronpourLaw" 259 M_Lw_treat.1 ∈ z_gw := z_mem (i := 1135) (by decide +kernel) (by decide +kernel)
theorem w_st_Lw_treat : Cond.static M_Lw_treat.1 ∈ z_gw := z_mem (i := 1136) (by decide +kernel) (by decide +kernel)
theorem d_Lw_law_1108 : decode code 1108 = .ok (.istore 6, 2) := by decide +kernel
theorem d_Lw_law_1110 : decode code 1110 = .ok (.aload_n 2, 1) := by decide +kernel
theorem d_Lw_law_1111 : decode code 1111 = .ok (.aload_n 0, 1) := by decide +kernel
theorem d_Lw_law_1112 : decode code 1112 = .ok (.iload 5, 2) := by decide +kernel
theorem d_Lw_law_1114 : decode code 1114 = .ok (.iconst 1, 1) := by decide +kernel
theorem d_Lw_law_1115 : decode code 1115 = .ok (.iadd, 1) := by decide +kernel
theorem d_Lw_law_1116 : decode code 1116 = .ok (.iaload, 1) := by decide +kernel
theorem d_Lw_law_1117 : decode code 1117 = .ok (.invokevirtual 261, 3) := by decide +kernel
theorem ok_Lw_law_Mm_treat : z_ok M_Lw_law M_Mm_treat 1 := ⟨z_mem (i := 1920) (by decide +kernel) (by decide +kernel), rfl, ⟨by decide +kernel, by decide +kernel, by decide +kernel⟩, ⟨by decide, by decide⟩, z_mem (i := 71) (by decide +kernel) (by decide +kernel), rfl⟩
theorem ln_Lw_261 : Cond.methodLink "IronpourLaw" 261 M_Mm_treat.1 ∈ z_gw := z_mem (i := 1917) (by decide +kernel) (by decide +kernel)
theorem w_im_Mm_treat : Cond.instanceMethod M_Mm_treat.1 ∈ z_gw := z_mem (i := 1918) (by decide +kernel) (by decide +kernel)
theorem w_se_Mm_treat : Cond.selects M_Mm_treat.1.cls M_Mm_treat.1 M_Mm_treat.1 ∈ z_gw := z_mem (i := 1919) (by decide +kernel) (by decide +kernel)
theorem d_Lw_law_1120 : decode code 1120 = .ok (.istore 7, 2) := by decide +kernel
theorem d_Lw_law_1122 : decode code 1122 = .ok (.goto 686, 3) := by decide +kernel
set_option maxHeartbeats 4000000 in
set_option maxRecDepth 100000 in
theorem LC_treat {g : zG} {ad : Nat → Nat} {t : zTT} {u : zNN} {w : zW} (hI : IV g ad t u w) (hR : REL t) {j r : Nat} (hJ : 7 * j + 7 ≤ g.2.2 41) (hL : g.2.2 41 < 2 ^ 31) (ih : LWI g ad j r) : DW g M_Lw_law lwQ w 1097 [(5, .int (nI (7 * j))), (4, .ref (ad 70)), (3, .ref (ad 69)), (2, .ref (ad 52)), (1, .ref (ad 0)), (0, .ref (g.2.2 40))] [] (100 * (r + 1)) (1000 * (r + 1)) := by
  refine y_base (cs := []) (z_I.nil w) ?_
  refine y_aload_n d_Lw_law_1097 rfl 4 rfl ?_
  refine y_aload_n d_Lw_law_1098 rfl 5 rfl ?_
  refine y_iload d_Lw_law_1099 0 rfl ?_
  refine y_iconst d_Lw_law_1101 (v := 1) (by decide) ?_
  refine y_iadd d_Lw_law_1102 (v := nI ((7 * j) + 1)) (nI_add _ _) ?_
  refine y_sld (v := zs g (7 * j + 1)) d_Lw_law_1103 (vp_in_nI (by omega) (by omega)) (by rw [nI_clamp (by omega)]; rfl) ?_
  refine y_aload_n d_Lw_law_1104 rfl 2 rfl ?_
  refine yw_callSX (As := [.ref (ad 0), .int (zs g (7 * j + 1)), .ref (ad 69)]) (rest := []) ln_Lw_259 w_st_Lw_treat ok_Lw_law_Lw_treat d_Lw_law_1105 (fun wA hA => W_treat (IV.nil hA hI) _) rfl rfl (Nat.le_of_ble_eq_true rfl) (by omega) (by omega) (fun wA1105 hA1105 E wB1105 hx => ?_) (fun wA1105 hA1105 v wB1105 hx => ?_)
  · obtain ⟨⟨v9, e1⟩, -⟩ := hx
    cases e1
  · obtain ⟨⟨v9, e1⟩, u2, hI2⟩ := hx
    cases e1
    refine yw_st (st2 := [.int v9]) rfl ?_
    have hI := hI2
    refine y_base (cs := []) (z_I.nil _) ?_
    refine y_istore (lv' := [(6, .int v9), (5, .int (nI (7 * j))), (4, .ref (ad 70)), (3, .ref (ad 69)), (2, .ref (ad 52)), (1, .ref (ad 0)), (0, .ref (g.2.2 40))]) d_Lw_law_1108 (by decide) rfl ?_
    refine y_aload_n d_Lw_law_1110 rfl 4 rfl ?_
    refine y_aload_n d_Lw_law_1111 rfl 6 rfl ?_
    refine y_iload d_Lw_law_1112 1 rfl ?_
    refine y_iconst d_Lw_law_1114 (v := 1) (by decide) ?_
    refine y_iadd d_Lw_law_1115 (v := nI ((7 * j) + 1)) (nI_add _ _) ?_
    refine y_sld (v := zs g (7 * j + 1)) d_Lw_law_1116 (vp_in_nI (by omega) (by omega)) (by rw [nI_clamp (by omega)]; rfl) ?_
    refine yw_callVL (As := [.int (zs g (7 * j + 1))]) (rest := []) (ci := 12) rfl (fun wA hA => (IV.nil hA hI).rm) ln_Lw_261 w_im_Mm_treat w_se_Mm_treat ok_Lw_law_Mm_treat d_Lw_law_1117 (fun wA hA => K_Mm_treat (IV.nil hA hI) _) rfl rfl (Nat.le_of_ble_eq_true rfl) (by omega) (by omega) (fun wA1117 hA1117 E wB1117 hx => ?_) (fun wA1117 hA1117 v wB1117 hx => ?_)
    · obtain ⟨⟨v8, e1⟩, -⟩ := hx
      cases e1
    · obtain ⟨⟨v8, e1⟩, u2, hI2⟩ := hx
      cases e1
      refine yw_st (st2 := [.int v8]) rfl ?_
      have hI := hI2
      refine y_base (cs := []) (z_I.nil _) ?_
      refine y_istore (lv' := [(7, .int v8), (6, .int v9), (5, .int (nI (7 * j))), (4, .ref (ad 70)), (3, .ref (ad 69)), (2, .ref (ad 52)), (1, .ref (ad 0)), (0, .ref (g.2.2 40))]) d_Lw_law_1120 (by decide) rfl ?_
      refine y_goto (tgt := 1808) d_Lw_law_1122 (by decide) ?_
      refine y_lv (lv' := [(5, .int (nI (7 * j))), (4, .ref (ad 70)), (3, .ref (ad 69)), (2, .ref (ad 52)), (1, .ref (ad 0)), (0, .ref (g.2.2 40))]) [2, 3, 4, 5, 6, 7] rfl ?_
      refine y_end (fun wC hC => ?_)
      exact LC_next (IV.nil hC hI) hR hJ hL ih (by omega) (by omega)
