theorem d_Lw_law_1069 : decode code 1069 = .ok (.aload_n 1, 1) := zo_43 (zd_b zq_code_33 13 rfl rfl rfl)
theorem d_Lw_law_1070 : decode code 1070 = .ok (.aload_n 0, 1) := zo_42 (zd_b zq_code_33 14 rfl rfl rfl)
theorem d_Lw_law_1071 : decode code 1071 = .ok (.iload 5, 2) := zo_21 (d := 5) (zd_b zq_code_33 15 rfl rfl rfl) (zd_b zq_code_33 16 rfl rfl rfl)
theorem d_Lw_law_1073 : decode code 1073 = .ok (.iconst 1, 1) := zo_4 (zd_b zq_code_33 17 rfl rfl rfl)
theorem d_Lw_law_1074 : decode code 1074 = .ok (.iadd, 1) := zo_96 (zd_b zq_code_33 18 rfl rfl rfl)
theorem d_Lw_law_1075 : decode code 1075 = .ok (.iaload, 1) := zo_46 (zd_b zq_code_33 19 rfl rfl rfl)
theorem d_Lw_law_1076 : decode code 1076 = .ok (.aload_n 3, 1) := zo_45 (zd_b zq_code_33 20 rfl rfl rfl)
theorem d_Lw_law_1077 : decode code 1077 = .ok (.invokestatic 256, 3) := zo_184 (d := 1) (e := 0) (zd_b zq_code_33 21 rfl rfl rfl) (zd_b zq_code_33 22 rfl rfl rfl) (zd_b zq_code_33 23 rfl rfl rfl)
theorem ok_Lw_law_Lw_tap : z_okX M_Lw_law M_Lw_tap 3 := ⟨z_mj5 (i := 101) rfl (by decide +kernel), by decide, ⟨by decide +kernel, by decide +kernel, by decide +kernel⟩, ⟨by decide, by decide⟩, z_mj1 (i := 0) rfl (by decide +kernel), rfl⟩
theorem ln_Lw_256 : Cond.methodLink "IronpourLaw" 256 M_Lw_tap.1 ∈ z_gw := z_mj5 (i := 99) rfl (by decide +kernel)
theorem w_st_Lw_tap : Cond.static M_Lw_tap.1 ∈ z_gw := z_mj5 (i := 100) rfl (by decide +kernel)
theorem d_Lw_law_1080 : decode code 1080 = .ok (.istore 6, 2) := zo_54 (d := 6) (zd_b zq_code_33 24 rfl rfl rfl) (zd_b zq_code_33 25 rfl rfl rfl)
theorem d_Lw_law_1082 : decode code 1082 = .ok (.aload_n 2, 1) := zo_44 (zd_b zq_code_33 26 rfl rfl rfl)
theorem d_Lw_law_1083 : decode code 1083 = .ok (.aload_n 0, 1) := zo_42 (zd_b zq_code_33 27 rfl rfl rfl)
theorem d_Lw_law_1084 : decode code 1084 = .ok (.iload 5, 2) := zo_21 (d := 5) (zd_b zq_code_33 28 rfl rfl rfl) (zd_b zq_code_33 29 rfl rfl rfl)
theorem d_Lw_law_1086 : decode code 1086 = .ok (.iconst 1, 1) := zo_4 (zd_b zq_code_33 30 rfl rfl rfl)
theorem d_Lw_law_1087 : decode code 1087 = .ok (.iadd, 1) := zo_96 (zd_b zq_code_33 31 rfl rfl rfl)
theorem d_Lw_law_1088 : decode code 1088 = .ok (.iaload, 1) := zo_46 (zd_b zq_code_34 0 rfl rfl rfl)
theorem d_Lw_law_1089 : decode code 1089 = .ok (.invokevirtual 258, 3) := zo_182 (d := 1) (e := 2) (zd_b zq_code_34 1 rfl rfl rfl) (zd_b zq_code_34 2 rfl rfl rfl) (zd_b zq_code_34 3 rfl rfl rfl)
theorem ok_Lw_law_Mm_tap : z_ok M_Lw_law M_Mm_tap 1 := ⟨z_mj8 (i := 179) rfl (by decide +kernel), rfl, ⟨by decide +kernel, by decide +kernel, by decide +kernel⟩, ⟨by decide, by decide⟩, z_mj1 (i := 14) rfl (by decide +kernel), rfl⟩
theorem ln_Lw_258 : Cond.methodLink "IronpourLaw" 258 M_Mm_tap.1 ∈ z_gw := z_mj8 (i := 176) rfl (by decide +kernel)
theorem w_im_Mm_tap : Cond.instanceMethod M_Mm_tap.1 ∈ z_gw := z_mj8 (i := 177) rfl (by decide +kernel)
theorem w_se_Mm_tap : Cond.selects M_Mm_tap.1.cls M_Mm_tap.1 M_Mm_tap.1 ∈ z_gw := z_mj8 (i := 178) rfl (by decide +kernel)
theorem d_Lw_law_1092 : decode code 1092 = .ok (.istore 7, 2) := zo_54 (d := 7) (zd_b zq_code_34 4 rfl rfl rfl) (zd_b zq_code_34 5 rfl rfl rfl)
theorem d_Lw_law_1094 : decode code 1094 = .ok (.goto 714, 3) := zo_167 (d := 2) (e := 202) (zd_b zq_code_34 6 rfl rfl rfl) (zd_b zq_code_34 7 rfl rfl rfl) (zd_b zq_code_34 8 rfl rfl rfl) (by decide +kernel)
set_option maxHeartbeats 4000000 in
set_option maxRecDepth 100000 in
theorem LC_tap {g : zG} {ad : Nat → Nat} {t : zTT} {u : zNN} {w : zW} {j : Nat} (hI : IVm g ad t u w) (hR : REL t u.1 (48 * j)) {r : Nat} (hJ : 7 * j + 7 ≤ g.2.2 41) (hL : g.2.2 41 ≤ 3584) (ih : LWI g ad j r) : DW g M_Lw_law lwQ w 1069 [(5, .int (nI (7 * j))), (4, .ref (ad 70)), (3, .ref (ad 69)), (2, .ref (ad 52)), (1, .ref (ad 0)), (0, .ref (g.2.2 40))] [] (100 * (r + 1)) (1000 * (r + 1)) := by
  refine y_base (cs := []) (z_I.nil w) ?_
  refine y_aload_n d_Lw_law_1069 rfl 4 rfl ?_
  refine y_aload_n d_Lw_law_1070 rfl 5 rfl ?_
  refine y_iload d_Lw_law_1071 0 rfl ?_
  refine y_iconst d_Lw_law_1073 (v := 1) (by decide) ?_
  refine y_iadd d_Lw_law_1074 (v := nI ((7 * j) + 1)) (nI_add _ _) ?_
  refine y_sld (v := zs g (7 * j + 1)) d_Lw_law_1075 (vp_in_nI (by omega) (by omega)) (by rw [nI_clamp (by omega)]; rfl) ?_
  refine y_aload_n d_Lw_law_1076 rfl 2 rfl ?_
  refine yw_callSX (As := [.ref (ad 0), .int (zs g (7 * j + 1)), .ref (ad 69)]) (rest := []) ln_Lw_256 w_st_Lw_tap ok_Lw_law_Lw_tap d_Lw_law_1077 (fun wA hA => W_tap (IVm.nil hA hI) _) rfl rfl (Nat.le_of_ble_eq_true rfl) (by omega) (by omega) (fun wA1077 hA1077 E wB1077 hx => ?_) (fun wA1077 hA1077 v wB1077 hx => ?_)
  · obtain ⟨⟨v9, e1⟩, -⟩ := hx
    cases e1
  · obtain ⟨⟨v9, e1⟩, uC, huC, hI2⟩ := hx
    cases e1
    refine yw_st (st2 := [.int v9]) rfl ?_
    have hI := hI2
    refine y_base (cs := []) (z_I.nil _) ?_
    refine y_istore (lv' := [(6, .int v9), (5, .int (nI (7 * j))), (4, .ref (ad 70)), (3, .ref (ad 69)), (2, .ref (ad 52)), (1, .ref (ad 0)), (0, .ref (g.2.2 40))]) d_Lw_law_1080 (by decide) rfl ?_
    refine y_aload_n d_Lw_law_1082 rfl 4 rfl ?_
    refine y_aload_n d_Lw_law_1083 rfl 6 rfl ?_
    refine y_iload d_Lw_law_1084 1 rfl ?_
    refine y_iconst d_Lw_law_1086 (v := 1) (by decide) ?_
    refine y_iadd d_Lw_law_1087 (v := nI ((7 * j) + 1)) (nI_add _ _) ?_
    refine y_sld (v := zs g (7 * j + 1)) d_Lw_law_1088 (vp_in_nI (by omega) (by omega)) (by rw [nI_clamp (by omega)]; rfl) ?_
    refine yw_callVL (As := [.int (zs g (7 * j + 1))]) (rest := []) (ci := 12) rfl (fun wA hA => (IVm.nil hA hI).rm) ln_Lw_258 w_im_Mm_tap w_se_Mm_tap ok_Lw_law_Mm_tap d_Lw_law_1089 (fun wA hA => K_Mm_tap (IVm.nil hA hI) _) rfl rfl (Nat.le_of_ble_eq_true rfl) (by omega) (by omega) (fun wA1089 hA1089 E wB1089 hx => ?_) (fun wA1089 hA1089 v wB1089 hx => ?_)
    · obtain ⟨⟨v8, e1⟩, -⟩ := hx
      cases e1
    · obtain ⟨⟨v8, e1⟩, uM, huM, hI2⟩ := hx
      cases e1
      refine yw_st (st2 := [.int v8]) rfl ?_
      have hI := hI2
      refine y_base (cs := []) (z_I.nil _) ?_
      refine y_istore (lv' := [(7, .int v8), (6, .int v9), (5, .int (nI (7 * j))), (4, .ref (ad 70)), (3, .ref (ad 69)), (2, .ref (ad 52)), (1, .ref (ad 0)), (0, .ref (g.2.2 40))]) d_Lw_law_1092 (by decide) rfl ?_
      refine y_goto (tgt := 1808) d_Lw_law_1094 (by decide) ?_
      refine y_lv (lv' := [(5, .int (nI (7 * j))), (4, .ref (ad 70)), (3, .ref (ad 69)), (2, .ref (ad 52)), (1, .ref (ad 0)), (0, .ref (g.2.2 40))]) [2, 3, 4, 5, 6, 7] rfl ?_
      refine y_end (fun wC hC => ?_)
      exact LC_next (IVm.nil hC hI) ((R_tap _ hR huC huM).up (by omega)) hJ hL ih (by omega) (by omega)
theorem d_Lw_law_1097 : decode code 1097 = .ok (.aload_n 1, 1) := zo_43 (zd_b zq_code_34 9 rfl rfl rfl)
theorem d_Lw_law_1098 : decode code 1098 = .ok (.aload_n 0, 1) := zo_42 (zd_b zq_code_34 10 rfl rfl rfl)
theorem d_Lw_law_1099 : decode code 1099 = .ok (.iload 5, 2) := zo_21 (d := 5) (zd_b zq_code_34 11 rfl rfl rfl) (zd_b zq_code_34 12 rfl rfl rfl)
theorem d_Lw_law_1101 : decode code 1101 = .ok (.iconst 1, 1) := zo_4 (zd_b zq_code_34 13 rfl rfl rfl)
theorem d_Lw_law_1102 : decode code 1102 = .ok (.iadd, 1) := zo_96 (zd_b zq_code_34 14 rfl rfl rfl)
theorem d_Lw_law_1103 : decode code 1103 = .ok (.iaload, 1) := zo_46 (zd_b zq_code_34 15 rfl rfl rfl)
theorem d_Lw_law_1104 : decode code 1104 = .ok (.aload_n 3, 1) := zo_45 (zd_b zq_code_34 16 rfl rfl rfl)
theorem d_Lw_law_1105 : decode code 1105 = .ok (.invokestatic 259, 3) := zo_184 (d := 1) (e := 3) (zd_b zq_code_34 17 rfl rfl rfl) (zd_b zq_code_34 18 rfl rfl rfl) (zd_b zq_code_34 19 rfl rfl rfl)
theorem ok_Lw_law_Lw_treat : z_okX M_Lw_law M_Lw_treat 3 := ⟨z_mj5 (i := 120) rfl (by decide +kernel), by decide, ⟨by decide +kernel, by decide +kernel, by decide +kernel⟩, ⟨by decide, by decide⟩, z_mj1 (i := 0) rfl (by decide +kernel), rfl⟩
theorem ln_Lw_259 : Cond.methodLink "IronpourLaw" 259 M_Lw_treat.1 ∈ z_gw := z_mj5 (i := 118) rfl (by decide +kernel)
theorem w_st_Lw_treat : Cond.static M_Lw_treat.1 ∈ z_gw := z_mj5 (i := 119) rfl (by decide +kernel)
theorem d_Lw_law_1108 : decode code 1108 = .ok (.istore 6, 2) := zo_54 (d := 6) (zd_b zq_code_34 20 rfl rfl rfl) (zd_b zq_code_34 21 rfl rfl rfl)
theorem d_Lw_law_1110 : decode code 1110 = .ok (.aload_n 2, 1) := zo_44 (zd_b zq_code_34 22 rfl rfl rfl)
theorem d_Lw_law_1111 : decode code 1111 = .ok (.aload_n 0, 1) := zo_42 (zd_b zq_code_34 23 rfl rfl rfl)
theorem d_Lw_law_1112 : decode code 1112 = .ok (.iload 5, 2) := zo_21 (d := 5) (zd_b zq_code_34 24 rfl rfl rfl) (zd_b zq_code_34 25 rfl rfl rfl)
theorem d_Lw_law_1114 : decode code 1114 = .ok (.iconst 1, 1) := zo_4 (zd_b zq_code_34 26 rfl rfl rfl)
theorem d_Lw_law_1115 : decode code 1115 = .ok (.iadd, 1) := zo_96 (zd_b zq_code_34 27 rfl rfl rfl)
theorem d_Lw_law_1116 : decode code 1116 = .ok (.iaload, 1) := zo_46 (zd_b zq_code_34 28 rfl rfl rfl)
theorem d_Lw_law_1117 : decode code 1117 = .ok (.invokevirtual 261, 3) := zo_182 (d := 1) (e := 5) (zd_b zq_code_34 29 rfl rfl rfl) (zd_b zq_code_34 30 rfl rfl rfl) (zd_b zq_code_34 31 rfl rfl rfl)
theorem ok_Lw_law_Mm_treat : z_ok M_Lw_law M_Mm_treat 1 := ⟨z_mj8 (i := 183) rfl (by decide +kernel), rfl, ⟨by decide +kernel, by decide +kernel, by decide +kernel⟩, ⟨by decide, by decide⟩, z_mj1 (i := 14) rfl (by decide +kernel), rfl⟩
theorem ln_Lw_261 : Cond.methodLink "IronpourLaw" 261 M_Mm_treat.1 ∈ z_gw := z_mj8 (i := 180) rfl (by decide +kernel)
theorem w_im_Mm_treat : Cond.instanceMethod M_Mm_treat.1 ∈ z_gw := z_mj8 (i := 181) rfl (by decide +kernel)
theorem w_se_Mm_treat : Cond.selects M_Mm_treat.1.cls M_Mm_treat.1 M_Mm_treat.1 ∈ z_gw := z_mj8 (i := 182) rfl (by decide +kernel)
theorem d_Lw_law_1120 : decode code 1120 = .ok (.istore 7, 2) := zo_54 (d := 7) (zd_b zq_code_35 0 rfl rfl rfl) (zd_b zq_code_35 1 rfl rfl rfl)
theorem d_Lw_law_1122 : decode code 1122 = .ok (.goto 686, 3) := zo_167 (d := 2) (e := 174) (zd_b zq_code_35 2 rfl rfl rfl) (zd_b zq_code_35 3 rfl rfl rfl) (zd_b zq_code_35 4 rfl rfl rfl) (by decide +kernel)
set_option maxHeartbeats 4000000 in
set_option maxRecDepth 100000 in
theorem LC_treat {g : zG} {ad : Nat → Nat} {t : zTT} {u : zNN} {w : zW} {j : Nat} (hI : IVm g ad t u w) (hR : REL t u.1 (48 * j)) {r : Nat} (hJ : 7 * j + 7 ≤ g.2.2 41) (hL : g.2.2 41 ≤ 3584) (ih : LWI g ad j r) : DW g M_Lw_law lwQ w 1097 [(5, .int (nI (7 * j))), (4, .ref (ad 70)), (3, .ref (ad 69)), (2, .ref (ad 52)), (1, .ref (ad 0)), (0, .ref (g.2.2 40))] [] (100 * (r + 1)) (1000 * (r + 1)) := by
  refine y_base (cs := []) (z_I.nil w) ?_
  refine y_aload_n d_Lw_law_1097 rfl 4 rfl ?_
  refine y_aload_n d_Lw_law_1098 rfl 5 rfl ?_
  refine y_iload d_Lw_law_1099 0 rfl ?_
  refine y_iconst d_Lw_law_1101 (v := 1) (by decide) ?_
  refine y_iadd d_Lw_law_1102 (v := nI ((7 * j) + 1)) (nI_add _ _) ?_
  refine y_sld (v := zs g (7 * j + 1)) d_Lw_law_1103 (vp_in_nI (by omega) (by omega)) (by rw [nI_clamp (by omega)]; rfl) ?_
  refine y_aload_n d_Lw_law_1104 rfl 2 rfl ?_
  refine yw_callSX (As := [.ref (ad 0), .int (zs g (7 * j + 1)), .ref (ad 69)]) (rest := []) ln_Lw_259 w_st_Lw_treat ok_Lw_law_Lw_treat d_Lw_law_1105 (fun wA hA => W_treat (IVm.nil hA hI) _) rfl rfl (Nat.le_of_ble_eq_true rfl) (by omega) (by omega) (fun wA1105 hA1105 E wB1105 hx => ?_) (fun wA1105 hA1105 v wB1105 hx => ?_)
  · obtain ⟨⟨v9, e1⟩, -⟩ := hx
    cases e1
  · obtain ⟨⟨v9, e1⟩, uC, huC, hI2⟩ := hx
    cases e1
    refine yw_st (st2 := [.int v9]) rfl ?_
    have hI := hI2
    refine y_base (cs := []) (z_I.nil _) ?_
    refine y_istore (lv' := [(6, .int v9), (5, .int (nI (7 * j))), (4, .ref (ad 70)), (3, .ref (ad 69)), (2, .ref (ad 52)), (1, .ref (ad 0)), (0, .ref (g.2.2 40))]) d_Lw_law_1108 (by decide) rfl ?_
    refine y_aload_n d_Lw_law_1110 rfl 4 rfl ?_
    refine y_aload_n d_Lw_law_1111 rfl 6 rfl ?_
    refine y_iload d_Lw_law_1112 1 rfl ?_
    refine y_iconst d_Lw_law_1114 (v := 1) (by decide) ?_
    refine y_iadd d_Lw_law_1115 (v := nI ((7 * j) + 1)) (nI_add _ _) ?_
    refine y_sld (v := zs g (7 * j + 1)) d_Lw_law_1116 (vp_in_nI (by omega) (by omega)) (by rw [nI_clamp (by omega)]; rfl) ?_
    refine yw_callVL (As := [.int (zs g (7 * j + 1))]) (rest := []) (ci := 12) rfl (fun wA hA => (IVm.nil hA hI).rm) ln_Lw_261 w_im_Mm_treat w_se_Mm_treat ok_Lw_law_Mm_treat d_Lw_law_1117 (fun wA hA => K_Mm_treat (IVm.nil hA hI) _) rfl rfl (Nat.le_of_ble_eq_true rfl) (by omega) (by omega) (fun wA1117 hA1117 E wB1117 hx => ?_) (fun wA1117 hA1117 v wB1117 hx => ?_)
    · obtain ⟨⟨v8, e1⟩, -⟩ := hx
      cases e1
    · obtain ⟨⟨v8, e1⟩, uM, huM, hI2⟩ := hx
      cases e1
      refine yw_st (st2 := [.int v8]) rfl ?_
      have hI := hI2
      refine y_base (cs := []) (z_I.nil _) ?_
      refine y_istore (lv' := [(7, .int v8), (6, .int v9), (5, .int (nI (7 * j))), (4, .ref (ad 70)), (3, .ref (ad 69)), (2, .ref (ad 52)), (1, .ref (ad 0)), (0, .ref (g.2.2 40))]) d_Lw_law_1120 (by decide) rfl ?_
      refine y_goto (tgt := 1808) d_Lw_law_1122 (by decide) ?_
      refine y_lv (lv' := [(5, .int (nI (7 * j))), (4, .ref (ad 70)), (3, .ref (ad 69)), (2, .ref (ad 52)), (1, .ref (ad 0)), (0, .ref (g.2.2 40))]) [2, 3, 4, 5, 6, 7] rfl ?_
      refine y_end (fun wC hC => ?_)
      exact LC_next (IVm.nil hC hI) ((R_treat _ hR huC huM).up (by omega)) hJ hL ih (by omega) (by omega)
theorem d_Lw_law_1125 : decode code 1125 = .ok (.aload_n 1, 1) := zo_43 (zd_b zq_code_35 5 rfl rfl rfl)
theorem d_Lw_law_1126 : decode code 1126 = .ok (.aload_n 0, 1) := zo_42 (zd_b zq_code_35 6 rfl rfl rfl)
theorem d_Lw_law_1127 : decode code 1127 = .ok (.iload 5, 2) := zo_21 (d := 5) (zd_b zq_code_35 7 rfl rfl rfl) (zd_b zq_code_35 8 rfl rfl rfl)
theorem d_Lw_law_1129 : decode code 1129 = .ok (.iconst 1, 1) := zo_4 (zd_b zq_code_35 9 rfl rfl rfl)
theorem d_Lw_law_1130 : decode code 1130 = .ok (.iadd, 1) := zo_96 (zd_b zq_code_35 10 rfl rfl rfl)
theorem d_Lw_law_1131 : decode code 1131 = .ok (.iaload, 1) := zo_46 (zd_b zq_code_35 11 rfl rfl rfl)
theorem d_Lw_law_1132 : decode code 1132 = .ok (.aload_n 3, 1) := zo_45 (zd_b zq_code_35 12 rfl rfl rfl)
theorem d_Lw_law_1133 : decode code 1133 = .ok (.invokestatic 262, 3) := zo_184 (d := 1) (e := 6) (zd_b zq_code_35 13 rfl rfl rfl) (zd_b zq_code_35 14 rfl rfl rfl) (zd_b zq_code_35 15 rfl rfl rfl)
theorem ok_Lw_law_Lw_minutes : z_okX M_Lw_law M_Lw_minutes 3 := ⟨z_mj5 (i := 134) rfl (by decide +kernel), by decide, ⟨by decide +kernel, by decide +kernel, by decide +kernel⟩, ⟨by decide, by decide⟩, z_mj1 (i := 0) rfl (by decide +kernel), rfl⟩
theorem ln_Lw_262 : Cond.methodLink "IronpourLaw" 262 M_Lw_minutes.1 ∈ z_gw := z_mj5 (i := 132) rfl (by decide +kernel)
theorem w_st_Lw_minutes : Cond.static M_Lw_minutes.1 ∈ z_gw := z_mj5 (i := 133) rfl (by decide +kernel)
theorem d_Lw_law_1136 : decode code 1136 = .ok (.istore 6, 2) := zo_54 (d := 6) (zd_b zq_code_35 16 rfl rfl rfl) (zd_b zq_code_35 17 rfl rfl rfl)
theorem d_Lw_law_1138 : decode code 1138 = .ok (.aload_n 2, 1) := zo_44 (zd_b zq_code_35 18 rfl rfl rfl)
theorem d_Lw_law_1139 : decode code 1139 = .ok (.aload_n 0, 1) := zo_42 (zd_b zq_code_35 19 rfl rfl rfl)
theorem d_Lw_law_1140 : decode code 1140 = .ok (.iload 5, 2) := zo_21 (d := 5) (zd_b zq_code_35 20 rfl rfl rfl) (zd_b zq_code_35 21 rfl rfl rfl)
theorem d_Lw_law_1142 : decode code 1142 = .ok (.iconst 1, 1) := zo_4 (zd_b zq_code_35 22 rfl rfl rfl)
theorem d_Lw_law_1143 : decode code 1143 = .ok (.iadd, 1) := zo_96 (zd_b zq_code_35 23 rfl rfl rfl)
theorem d_Lw_law_1144 : decode code 1144 = .ok (.iaload, 1) := zo_46 (zd_b zq_code_35 24 rfl rfl rfl)
theorem d_Lw_law_1145 : decode code 1145 = .ok (.invokevirtual 264, 3) := zo_182 (d := 1) (e := 8) (zd_b zq_code_35 25 rfl rfl rfl) (zd_b zq_code_35 26 rfl rfl rfl) (zd_b zq_code_35 27 rfl rfl rfl)
theorem ok_Lw_law_Mm_minutes : z_ok M_Lw_law M_Mm_minutes 1 := ⟨z_mj8 (i := 187) rfl (by decide +kernel), rfl, ⟨by decide +kernel, by decide +kernel, by decide +kernel⟩, ⟨by decide, by decide⟩, z_mj1 (i := 14) rfl (by decide +kernel), rfl⟩
theorem ln_Lw_264 : Cond.methodLink "IronpourLaw" 264 M_Mm_minutes.1 ∈ z_gw := z_mj8 (i := 184) rfl (by decide +kernel)
theorem w_im_Mm_minutes : Cond.instanceMethod M_Mm_minutes.1 ∈ z_gw := z_mj8 (i := 185) rfl (by decide +kernel)
theorem w_se_Mm_minutes : Cond.selects M_Mm_minutes.1.cls M_Mm_minutes.1 M_Mm_minutes.1 ∈ z_gw := z_mj8 (i := 186) rfl (by decide +kernel)
theorem d_Lw_law_1148 : decode code 1148 = .ok (.istore 7, 2) := zo_54 (d := 7) (zd_b zq_code_35 28 rfl rfl rfl) (zd_b zq_code_35 29 rfl rfl rfl)
theorem d_Lw_law_1150 : decode code 1150 = .ok (.goto 658, 3) := zo_167 (d := 2) (e := 146) (zd_b zq_code_35 30 rfl rfl rfl) (zd_b zq_code_35 31 rfl rfl rfl) (zd_b zq_code_36 0 rfl rfl rfl) (by decide +kernel)
set_option maxHeartbeats 4000000 in
set_option maxRecDepth 100000 in
theorem LC_minutes {g : zG} {ad : Nat → Nat} {t : zTT} {u : zNN} {w : zW} {j : Nat} (hI : IVm g ad t u w) (hR : REL t u.1 (48 * j)) {r : Nat} (hJ : 7 * j + 7 ≤ g.2.2 41) (hL : g.2.2 41 ≤ 3584) (ih : LWI g ad j r) : DW g M_Lw_law lwQ w 1125 [(5, .int (nI (7 * j))), (4, .ref (ad 70)), (3, .ref (ad 69)), (2, .ref (ad 52)), (1, .ref (ad 0)), (0, .ref (g.2.2 40))] [] (100 * (r + 1)) (1000 * (r + 1)) := by
  refine y_base (cs := []) (z_I.nil w) ?_
  refine y_aload_n d_Lw_law_1125 rfl 4 rfl ?_
  refine y_aload_n d_Lw_law_1126 rfl 5 rfl ?_
  refine y_iload d_Lw_law_1127 0 rfl ?_
  refine y_iconst d_Lw_law_1129 (v := 1) (by decide) ?_
  refine y_iadd d_Lw_law_1130 (v := nI ((7 * j) + 1)) (nI_add _ _) ?_
  refine y_sld (v := zs g (7 * j + 1)) d_Lw_law_1131 (vp_in_nI (by omega) (by omega)) (by rw [nI_clamp (by omega)]; rfl) ?_
  refine y_aload_n d_Lw_law_1132 rfl 2 rfl ?_
  refine yw_callSX (As := [.ref (ad 0), .int (zs g (7 * j + 1)), .ref (ad 69)]) (rest := []) ln_Lw_262 w_st_Lw_minutes ok_Lw_law_Lw_minutes d_Lw_law_1133 (fun wA hA => W_minutes (IVm.nil hA hI) _) rfl rfl (Nat.le_of_ble_eq_true rfl) (by omega) (by omega) (fun wA1133 hA1133 E wB1133 hx => ?_) (fun wA1133 hA1133 v wB1133 hx => ?_)
  · obtain ⟨⟨v9, e1⟩, -⟩ := hx
    cases e1
  · obtain ⟨⟨v9, e1⟩, uC, huC, hI2⟩ := hx
    cases e1
    refine yw_st (st2 := [.int v9]) rfl ?_
    have hI := hI2
    refine y_base (cs := []) (z_I.nil _) ?_
    refine y_istore (lv' := [(6, .int v9), (5, .int (nI (7 * j))), (4, .ref (ad 70)), (3, .ref (ad 69)), (2, .ref (ad 52)), (1, .ref (ad 0)), (0, .ref (g.2.2 40))]) d_Lw_law_1136 (by decide) rfl ?_
    refine y_aload_n d_Lw_law_1138 rfl 4 rfl ?_
    refine y_aload_n d_Lw_law_1139 rfl 6 rfl ?_
    refine y_iload d_Lw_law_1140 1 rfl ?_
    refine y_iconst d_Lw_law_1142 (v := 1) (by decide) ?_
    refine y_iadd d_Lw_law_1143 (v := nI ((7 * j) + 1)) (nI_add _ _) ?_
    refine y_sld (v := zs g (7 * j + 1)) d_Lw_law_1144 (vp_in_nI (by omega) (by omega)) (by rw [nI_clamp (by omega)]; rfl) ?_
    refine yw_callVL (As := [.int (zs g (7 * j + 1))]) (rest := []) (ci := 12) rfl (fun wA hA => (IVm.nil hA hI).rm) ln_Lw_264 w_im_Mm_minutes w_se_Mm_minutes ok_Lw_law_Mm_minutes d_Lw_law_1145 (fun wA hA => K_Mm_minutes (IVm.nil hA hI) _) rfl rfl (Nat.le_of_ble_eq_true rfl) (by omega) (by omega) (fun wA1145 hA1145 E wB1145 hx => ?_) (fun wA1145 hA1145 v wB1145 hx => ?_)
    · obtain ⟨⟨v8, e1⟩, -⟩ := hx
      cases e1
    · obtain ⟨⟨v8, e1⟩, uM, huM, hI2⟩ := hx
      cases e1
      refine yw_st (st2 := [.int v8]) rfl ?_
      have hI := hI2
      refine y_base (cs := []) (z_I.nil _) ?_
      refine y_istore (lv' := [(7, .int v8), (6, .int v9), (5, .int (nI (7 * j))), (4, .ref (ad 70)), (3, .ref (ad 69)), (2, .ref (ad 52)), (1, .ref (ad 0)), (0, .ref (g.2.2 40))]) d_Lw_law_1148 (by decide) rfl ?_
      refine y_goto (tgt := 1808) d_Lw_law_1150 (by decide) ?_
      refine y_lv (lv' := [(5, .int (nI (7 * j))), (4, .ref (ad 70)), (3, .ref (ad 69)), (2, .ref (ad 52)), (1, .ref (ad 0)), (0, .ref (g.2.2 40))]) [2, 3, 4, 5, 6, 7] rfl ?_
      refine y_end (fun wC hC => ?_)
      exact LC_next (IVm.nil hC hI) ((R_minutes _ hR huC huM).up (by omega)) hJ hL ih (by omega) (by omega)
theorem d_Lw_law_1153 : decode code 1153 = .ok (.aload_n 1, 1) := zo_43 (zd_b zq_code_36 1 rfl rfl rfl)
theorem d_Lw_law_1154 : decode code 1154 = .ok (.aload_n 0, 1) := zo_42 (zd_b zq_code_36 2 rfl rfl rfl)
theorem d_Lw_law_1155 : decode code 1155 = .ok (.iload 5, 2) := zo_21 (d := 5) (zd_b zq_code_36 3 rfl rfl rfl) (zd_b zq_code_36 4 rfl rfl rfl)
theorem d_Lw_law_1157 : decode code 1157 = .ok (.iconst 1, 1) := zo_4 (zd_b zq_code_36 5 rfl rfl rfl)
theorem d_Lw_law_1158 : decode code 1158 = .ok (.iadd, 1) := zo_96 (zd_b zq_code_36 6 rfl rfl rfl)
theorem d_Lw_law_1159 : decode code 1159 = .ok (.iaload, 1) := zo_46 (zd_b zq_code_36 7 rfl rfl rfl)
theorem d_Lw_law_1160 : decode code 1160 = .ok (.i2c, 1) := zo_146 (zd_b zq_code_36 8 rfl rfl rfl)
theorem d_Lw_law_1161 : decode code 1161 = .ok (.aload_n 3, 1) := zo_45 (zd_b zq_code_36 9 rfl rfl rfl)
theorem d_Lw_law_1162 : decode code 1162 = .ok (.invokestatic 265, 3) := zo_184 (d := 1) (e := 9) (zd_b zq_code_36 10 rfl rfl rfl) (zd_b zq_code_36 11 rfl rfl rfl) (zd_b zq_code_36 12 rfl rfl rfl)
theorem ok_Lw_law_Lw_ladle : z_okX M_Lw_law M_Lw_ladle 3 := ⟨z_mj5 (i := 148) rfl (by decide +kernel), by decide, ⟨by decide +kernel, by decide +kernel, by decide +kernel⟩, ⟨by decide, by decide⟩, z_mj1 (i := 0) rfl (by decide +kernel), rfl⟩
theorem ln_Lw_265 : Cond.methodLink "IronpourLaw" 265 M_Lw_ladle.1 ∈ z_gw := z_mj5 (i := 146) rfl (by decide +kernel)
theorem w_st_Lw_ladle : Cond.static M_Lw_ladle.1 ∈ z_gw := z_mj5 (i := 147) rfl (by decide +kernel)
theorem d_Lw_law_1165 : decode code 1165 = .ok (.istore 6, 2) := zo_54 (d := 6) (zd_b zq_code_36 13 rfl rfl rfl) (zd_b zq_code_36 14 rfl rfl rfl)
theorem d_Lw_law_1167 : decode code 1167 = .ok (.aload_n 2, 1) := zo_44 (zd_b zq_code_36 15 rfl rfl rfl)
theorem d_Lw_law_1168 : decode code 1168 = .ok (.aload_n 0, 1) := zo_42 (zd_b zq_code_36 16 rfl rfl rfl)
theorem d_Lw_law_1169 : decode code 1169 = .ok (.iload 5, 2) := zo_21 (d := 5) (zd_b zq_code_36 17 rfl rfl rfl) (zd_b zq_code_36 18 rfl rfl rfl)
theorem d_Lw_law_1171 : decode code 1171 = .ok (.iconst 1, 1) := zo_4 (zd_b zq_code_36 19 rfl rfl rfl)
theorem d_Lw_law_1172 : decode code 1172 = .ok (.iadd, 1) := zo_96 (zd_b zq_code_36 20 rfl rfl rfl)
theorem d_Lw_law_1173 : decode code 1173 = .ok (.iaload, 1) := zo_46 (zd_b zq_code_36 21 rfl rfl rfl)
theorem d_Lw_law_1174 : decode code 1174 = .ok (.i2c, 1) := zo_146 (zd_b zq_code_36 22 rfl rfl rfl)
theorem d_Lw_law_1175 : decode code 1175 = .ok (.invokevirtual 267, 3) := zo_182 (d := 1) (e := 11) (zd_b zq_code_36 23 rfl rfl rfl) (zd_b zq_code_36 24 rfl rfl rfl) (zd_b zq_code_36 25 rfl rfl rfl)
theorem ok_Lw_law_Mm_ladle : z_ok M_Lw_law M_Mm_ladle 1 := ⟨z_mj8 (i := 191) rfl (by decide +kernel), rfl, ⟨by decide +kernel, by decide +kernel, by decide +kernel⟩, ⟨by decide, by decide⟩, z_mj1 (i := 14) rfl (by decide +kernel), rfl⟩
theorem ln_Lw_267 : Cond.methodLink "IronpourLaw" 267 M_Mm_ladle.1 ∈ z_gw := z_mj8 (i := 188) rfl (by decide +kernel)
theorem w_im_Mm_ladle : Cond.instanceMethod M_Mm_ladle.1 ∈ z_gw := z_mj8 (i := 189) rfl (by decide +kernel)
theorem w_se_Mm_ladle : Cond.selects M_Mm_ladle.1.cls M_Mm_ladle.1 M_Mm_ladle.1 ∈ z_gw := z_mj8 (i := 190) rfl (by decide +kernel)
theorem d_Lw_law_1178 : decode code 1178 = .ok (.istore 7, 2) := zo_54 (d := 7) (zd_b zq_code_36 26 rfl rfl rfl) (zd_b zq_code_36 27 rfl rfl rfl)
theorem d_Lw_law_1180 : decode code 1180 = .ok (.goto 628, 3) := zo_167 (d := 2) (e := 116) (zd_b zq_code_36 28 rfl rfl rfl) (zd_b zq_code_36 29 rfl rfl rfl) (zd_b zq_code_36 30 rfl rfl rfl) (by decide +kernel)
set_option maxHeartbeats 4000000 in
set_option maxRecDepth 100000 in
theorem LC_ladle {g : zG} {ad : Nat → Nat} {t : zTT} {u : zNN} {w : zW} {j : Nat} (hI : IVm g ad t u w) (hR : REL t u.1 (48 * j)) {r : Nat} (hJ : 7 * j + 7 ≤ g.2.2 41) (hL : g.2.2 41 ≤ 3584) (ih : LWI g ad j r) : DW g M_Lw_law lwQ w 1153 [(5, .int (nI (7 * j))), (4, .ref (ad 70)), (3, .ref (ad 69)), (2, .ref (ad 52)), (1, .ref (ad 0)), (0, .ref (g.2.2 40))] [] (100 * (r + 1)) (1000 * (r + 1)) := by
  refine y_base (cs := []) (z_I.nil w) ?_
  refine y_aload_n d_Lw_law_1153 rfl 4 rfl ?_
  refine y_aload_n d_Lw_law_1154 rfl 5 rfl ?_
  refine y_iload d_Lw_law_1155 0 rfl ?_
  refine y_iconst d_Lw_law_1157 (v := 1) (by decide) ?_
  refine y_iadd d_Lw_law_1158 (v := nI ((7 * j) + 1)) (nI_add _ _) ?_
  refine y_sld (v := zs g (7 * j + 1)) d_Lw_law_1159 (vp_in_nI (by omega) (by omega)) (by rw [nI_clamp (by omega)]; rfl) ?_
  refine y_i2c d_Lw_law_1160 (v := zc g (7 * j + 1)) rfl ?_
  refine y_aload_n d_Lw_law_1161 rfl 2 rfl ?_
  refine yw_callSX (As := [.ref (ad 0), .int (zc g (7 * j + 1)), .ref (ad 69)]) (rest := []) ln_Lw_265 w_st_Lw_ladle ok_Lw_law_Lw_ladle d_Lw_law_1162 (fun wA hA => W_ladle (IVm.nil hA hI) _) rfl rfl (Nat.le_of_ble_eq_true rfl) (by omega) (by omega) (fun wA1162 hA1162 E wB1162 hx => ?_) (fun wA1162 hA1162 v wB1162 hx => ?_)
  · obtain ⟨⟨v9, e1⟩, -⟩ := hx
    cases e1
  · obtain ⟨⟨v9, e1⟩, uC, huC, hI2⟩ := hx
    cases e1
    refine yw_st (st2 := [.int v9]) rfl ?_
    have hI := hI2
    refine y_base (cs := []) (z_I.nil _) ?_
    refine y_istore (lv' := [(6, .int v9), (5, .int (nI (7 * j))), (4, .ref (ad 70)), (3, .ref (ad 69)), (2, .ref (ad 52)), (1, .ref (ad 0)), (0, .ref (g.2.2 40))]) d_Lw_law_1165 (by decide) rfl ?_
    refine y_aload_n d_Lw_law_1167 rfl 4 rfl ?_
    refine y_aload_n d_Lw_law_1168 rfl 6 rfl ?_
    refine y_iload d_Lw_law_1169 1 rfl ?_
    refine y_iconst d_Lw_law_1171 (v := 1) (by decide) ?_
    refine y_iadd d_Lw_law_1172 (v := nI ((7 * j) + 1)) (nI_add _ _) ?_
    refine y_sld (v := zs g (7 * j + 1)) d_Lw_law_1173 (vp_in_nI (by omega) (by omega)) (by rw [nI_clamp (by omega)]; rfl) ?_
    refine y_i2c d_Lw_law_1174 (v := zc g (7 * j + 1)) rfl ?_
    refine yw_callVL (As := [.int (zc g (7 * j + 1))]) (rest := []) (ci := 12) rfl (fun wA hA => (IVm.nil hA hI).rm) ln_Lw_267 w_im_Mm_ladle w_se_Mm_ladle ok_Lw_law_Mm_ladle d_Lw_law_1175 (fun wA hA => K_Mm_ladle (IVm.nil hA hI) _) rfl rfl (Nat.le_of_ble_eq_true rfl) (by omega) (by omega) (fun wA1175 hA1175 E wB1175 hx => ?_) (fun wA1175 hA1175 v wB1175 hx => ?_)
    · obtain ⟨⟨v8, e1⟩, -⟩ := hx
      cases e1
    · obtain ⟨⟨v8, e1⟩, uM, huM, hI2⟩ := hx
      cases e1
      refine yw_st (st2 := [.int v8]) rfl ?_
      have hI := hI2
      refine y_base (cs := []) (z_I.nil _) ?_
      refine y_istore (lv' := [(7, .int v8), (6, .int v9), (5, .int (nI (7 * j))), (4, .ref (ad 70)), (3, .ref (ad 69)), (2, .ref (ad 52)), (1, .ref (ad 0)), (0, .ref (g.2.2 40))]) d_Lw_law_1178 (by decide) rfl ?_
      refine y_goto (tgt := 1808) d_Lw_law_1180 (by decide) ?_
      refine y_lv (lv' := [(5, .int (nI (7 * j))), (4, .ref (ad 70)), (3, .ref (ad 69)), (2, .ref (ad 52)), (1, .ref (ad 0)), (0, .ref (g.2.2 40))]) [2, 3, 4, 5, 6, 7] rfl ?_
      refine y_end (fun wC hC => ?_)
      exact LC_next (IVm.nil hC hI) ((hR.n (huM.trans huC)).up (by omega)) hJ hL ih (by omega) (by omega)
theorem d_Lw_law_1183 : decode code 1183 = .ok (.aload_n 1, 1) := zo_43 (zd_b zq_code_36 31 rfl rfl rfl)
theorem d_Lw_law_1184 : decode code 1184 = .ok (.aload_n 3, 1) := zo_45 (zd_b zq_code_37 0 rfl rfl rfl)
theorem d_Lw_law_1185 : decode code 1185 = .ok (.invokestatic 268, 3) := zo_184 (d := 1) (e := 12) (zd_b zq_code_37 1 rfl rfl rfl) (zd_b zq_code_37 2 rfl rfl rfl) (zd_b zq_code_37 3 rfl rfl rfl)
theorem ok_Lw_law_Lw_pig : z_okX M_Lw_law M_Lw_pig 2 := ⟨z_mj5 (i := 157) rfl (by decide +kernel), by decide, ⟨by decide +kernel, by decide +kernel, by decide +kernel⟩, ⟨by decide, by decide⟩, z_mj1 (i := 0) rfl (by decide +kernel), rfl⟩
theorem ln_Lw_268 : Cond.methodLink "IronpourLaw" 268 M_Lw_pig.1 ∈ z_gw := z_mj5 (i := 155) rfl (by decide +kernel)
theorem w_st_Lw_pig : Cond.static M_Lw_pig.1 ∈ z_gw := z_mj5 (i := 156) rfl (by decide +kernel)
theorem d_Lw_law_1188 : decode code 1188 = .ok (.istore 6, 2) := zo_54 (d := 6) (zd_b zq_code_37 4 rfl rfl rfl) (zd_b zq_code_37 5 rfl rfl rfl)
theorem d_Lw_law_1190 : decode code 1190 = .ok (.aload_n 2, 1) := zo_44 (zd_b zq_code_37 6 rfl rfl rfl)
theorem d_Lw_law_1191 : decode code 1191 = .ok (.invokevirtual 270, 3) := zo_182 (d := 1) (e := 14) (zd_b zq_code_37 7 rfl rfl rfl) (zd_b zq_code_37 8 rfl rfl rfl) (zd_b zq_code_37 9 rfl rfl rfl)
theorem ok_Lw_law_Mm_pig : z_ok M_Lw_law M_Mm_pig 0 := ⟨z_mj8 (i := 196) rfl (by decide +kernel), rfl, ⟨by decide +kernel, by decide +kernel, by decide +kernel⟩, ⟨by decide, by decide⟩, z_mj1 (i := 14) rfl (by decide +kernel), rfl⟩
theorem ln_Lw_270 : Cond.methodLink "IronpourLaw" 270 M_Mm_pig.1 ∈ z_gw := z_mj8 (i := 193) rfl (by decide +kernel)
theorem w_im_Mm_pig : Cond.instanceMethod M_Mm_pig.1 ∈ z_gw := z_mj8 (i := 194) rfl (by decide +kernel)
theorem w_se_Mm_pig : Cond.selects M_Mm_pig.1.cls M_Mm_pig.1 M_Mm_pig.1 ∈ z_gw := z_mj8 (i := 195) rfl (by decide +kernel)
theorem d_Lw_law_1194 : decode code 1194 = .ok (.istore 7, 2) := zo_54 (d := 7) (zd_b zq_code_37 10 rfl rfl rfl) (zd_b zq_code_37 11 rfl rfl rfl)
theorem d_Lw_law_1196 : decode code 1196 = .ok (.goto 612, 3) := zo_167 (d := 2) (e := 100) (zd_b zq_code_37 12 rfl rfl rfl) (zd_b zq_code_37 13 rfl rfl rfl) (zd_b zq_code_37 14 rfl rfl rfl) (by decide +kernel)
set_option maxHeartbeats 4000000 in
set_option maxRecDepth 100000 in
theorem LC_pig {g : zG} {ad : Nat → Nat} {t : zTT} {u : zNN} {w : zW} {j : Nat} (hI : IVm g ad t u w) (hR : REL t u.1 (48 * j)) {r : Nat} (hJ : 7 * j + 7 ≤ g.2.2 41) (hL : g.2.2 41 ≤ 3584) (ih : LWI g ad j r) : DW g M_Lw_law lwQ w 1183 [(5, .int (nI (7 * j))), (4, .ref (ad 70)), (3, .ref (ad 69)), (2, .ref (ad 52)), (1, .ref (ad 0)), (0, .ref (g.2.2 40))] [] (100 * (r + 1)) (1000 * (r + 1)) := by
  refine y_base (cs := []) (z_I.nil w) ?_
  refine y_aload_n d_Lw_law_1183 rfl 4 rfl ?_
  refine y_aload_n d_Lw_law_1184 rfl 2 rfl ?_
  refine yw_callSX (As := [.ref (ad 0), .ref (ad 69)]) (rest := []) ln_Lw_268 w_st_Lw_pig ok_Lw_law_Lw_pig d_Lw_law_1185 (fun wA hA => W_pig (IVm.nil hA hI)) rfl rfl (Nat.le_of_ble_eq_true rfl) (by omega) (by omega) (fun wA1185 hA1185 E wB1185 hx => ?_) (fun wA1185 hA1185 v wB1185 hx => ?_)
  · obtain ⟨⟨v9, e1⟩, -⟩ := hx
    cases e1
  · obtain ⟨⟨v9, e1⟩, uC, huC, hI2⟩ := hx
    cases e1
    refine yw_st (st2 := [.int v9]) rfl ?_
    have hI := hI2
    refine y_base (cs := []) (z_I.nil _) ?_
    refine y_istore (lv' := [(6, .int v9), (5, .int (nI (7 * j))), (4, .ref (ad 70)), (3, .ref (ad 69)), (2, .ref (ad 52)), (1, .ref (ad 0)), (0, .ref (g.2.2 40))]) d_Lw_law_1188 (by decide) rfl ?_
    refine y_aload_n d_Lw_law_1190 rfl 4 rfl ?_
    refine yw_callVL (As := []) (rest := []) (ci := 12) rfl (fun wA hA => (IVm.nil hA hI).rm) ln_Lw_270 w_im_Mm_pig w_se_Mm_pig ok_Lw_law_Mm_pig d_Lw_law_1191 (fun wA hA => K_Mm_pig (IVm.nil hA hI)) rfl rfl (Nat.le_of_ble_eq_true rfl) (by omega) (by omega) (fun wA1191 hA1191 E wB1191 hx => ?_) (fun wA1191 hA1191 v wB1191 hx => ?_)
    · obtain ⟨⟨v8, e1⟩, -⟩ := hx
      cases e1
    · obtain ⟨⟨v8, e1⟩, uM, huM, hI2⟩ := hx
      cases e1
      refine yw_st (st2 := [.int v8]) rfl ?_
      have hI := hI2
      refine y_base (cs := []) (z_I.nil _) ?_
      refine y_istore (lv' := [(7, .int v8), (6, .int v9), (5, .int (nI (7 * j))), (4, .ref (ad 70)), (3, .ref (ad 69)), (2, .ref (ad 52)), (1, .ref (ad 0)), (0, .ref (g.2.2 40))]) d_Lw_law_1194 (by decide) rfl ?_
      refine y_goto (tgt := 1808) d_Lw_law_1196 (by decide) ?_
      refine y_lv (lv' := [(5, .int (nI (7 * j))), (4, .ref (ad 70)), (3, .ref (ad 69)), (2, .ref (ad 52)), (1, .ref (ad 0)), (0, .ref (g.2.2 40))]) [2, 3, 4, 5, 6, 7] rfl ?_
      refine y_end (fun wC hC => ?_)
      exact LC_next (IVm.nil hC hI) ((R_pig hR huC huM).up (by omega)) hJ hL ih (by omega) (by omega)
theorem d_Lw_law_1199 : decode code 1199 = .ok (.aload_n 1, 1) := zo_43 (zd_b zq_code_37 15 rfl rfl rfl)
theorem d_Lw_law_1200 : decode code 1200 = .ok (.aload_n 0, 1) := zo_42 (zd_b zq_code_37 16 rfl rfl rfl)
theorem d_Lw_law_1201 : decode code 1201 = .ok (.iload 5, 2) := zo_21 (d := 5) (zd_b zq_code_37 17 rfl rfl rfl) (zd_b zq_code_37 18 rfl rfl rfl)
theorem d_Lw_law_1203 : decode code 1203 = .ok (.iconst 1, 1) := zo_4 (zd_b zq_code_37 19 rfl rfl rfl)
theorem d_Lw_law_1204 : decode code 1204 = .ok (.iadd, 1) := zo_96 (zd_b zq_code_37 20 rfl rfl rfl)
theorem d_Lw_law_1205 : decode code 1205 = .ok (.iaload, 1) := zo_46 (zd_b zq_code_37 21 rfl rfl rfl)
theorem d_Lw_law_1206 : decode code 1206 = .ok (.i2c, 1) := zo_146 (zd_b zq_code_37 22 rfl rfl rfl)
theorem d_Lw_law_1207 : decode code 1207 = .ok (.aload_n 3, 1) := zo_45 (zd_b zq_code_37 23 rfl rfl rfl)
theorem d_Lw_law_1208 : decode code 1208 = .ok (.invokestatic 271, 3) := zo_184 (d := 1) (e := 15) (zd_b zq_code_37 24 rfl rfl rfl) (zd_b zq_code_37 25 rfl rfl rfl) (zd_b zq_code_37 26 rfl rfl rfl)
theorem ok_Lw_law_Lw_pool : z_okX M_Lw_law M_Lw_pool 3 := ⟨z_mj5 (i := 164) rfl (by decide +kernel), by decide, ⟨by decide +kernel, by decide +kernel, by decide +kernel⟩, ⟨by decide, by decide⟩, z_mj1 (i := 0) rfl (by decide +kernel), rfl⟩
theorem ln_Lw_271 : Cond.methodLink "IronpourLaw" 271 M_Lw_pool.1 ∈ z_gw := z_mj5 (i := 162) rfl (by decide +kernel)
theorem w_st_Lw_pool : Cond.static M_Lw_pool.1 ∈ z_gw := z_mj5 (i := 163) rfl (by decide +kernel)
theorem d_Lw_law_1211 : decode code 1211 = .ok (.istore 6, 2) := zo_54 (d := 6) (zd_b zq_code_37 27 rfl rfl rfl) (zd_b zq_code_37 28 rfl rfl rfl)
theorem d_Lw_law_1213 : decode code 1213 = .ok (.aload_n 2, 1) := zo_44 (zd_b zq_code_37 29 rfl rfl rfl)
theorem d_Lw_law_1214 : decode code 1214 = .ok (.aload_n 0, 1) := zo_42 (zd_b zq_code_37 30 rfl rfl rfl)
theorem d_Lw_law_1215 : decode code 1215 = .ok (.iload 5, 2) := zo_21 (d := 5) (zd_b zq_code_37 31 rfl rfl rfl) (zd_b zq_code_38 0 rfl rfl rfl)
theorem d_Lw_law_1217 : decode code 1217 = .ok (.iconst 1, 1) := zo_4 (zd_b zq_code_38 1 rfl rfl rfl)
theorem d_Lw_law_1218 : decode code 1218 = .ok (.iadd, 1) := zo_96 (zd_b zq_code_38 2 rfl rfl rfl)
theorem d_Lw_law_1219 : decode code 1219 = .ok (.iaload, 1) := zo_46 (zd_b zq_code_38 3 rfl rfl rfl)
theorem d_Lw_law_1220 : decode code 1220 = .ok (.i2c, 1) := zo_146 (zd_b zq_code_38 4 rfl rfl rfl)
theorem d_Lw_law_1221 : decode code 1221 = .ok (.invokevirtual 273, 3) := zo_182 (d := 1) (e := 17) (zd_b zq_code_38 5 rfl rfl rfl) (zd_b zq_code_38 6 rfl rfl rfl) (zd_b zq_code_38 7 rfl rfl rfl)
theorem ok_Lw_law_Mm_pool : z_ok M_Lw_law M_Mm_pool 1 := ⟨z_mj8 (i := 200) rfl (by decide +kernel), rfl, ⟨by decide +kernel, by decide +kernel, by decide +kernel⟩, ⟨by decide, by decide⟩, z_mj1 (i := 14) rfl (by decide +kernel), rfl⟩
theorem ln_Lw_273 : Cond.methodLink "IronpourLaw" 273 M_Mm_pool.1 ∈ z_gw := z_mj8 (i := 197) rfl (by decide +kernel)
theorem w_im_Mm_pool : Cond.instanceMethod M_Mm_pool.1 ∈ z_gw := z_mj8 (i := 198) rfl (by decide +kernel)
theorem w_se_Mm_pool : Cond.selects M_Mm_pool.1.cls M_Mm_pool.1 M_Mm_pool.1 ∈ z_gw := z_mj8 (i := 199) rfl (by decide +kernel)
theorem d_Lw_law_1224 : decode code 1224 = .ok (.istore 7, 2) := zo_54 (d := 7) (zd_b zq_code_38 8 rfl rfl rfl) (zd_b zq_code_38 9 rfl rfl rfl)
theorem d_Lw_law_1226 : decode code 1226 = .ok (.goto 582, 3) := zo_167 (d := 2) (e := 70) (zd_b zq_code_38 10 rfl rfl rfl) (zd_b zq_code_38 11 rfl rfl rfl) (zd_b zq_code_38 12 rfl rfl rfl) (by decide +kernel)
set_option maxHeartbeats 4000000 in
set_option maxRecDepth 100000 in
theorem LC_pool {g : zG} {ad : Nat → Nat} {t : zTT} {u : zNN} {w : zW} {j : Nat} (hI : IVm g ad t u w) (hR : REL t u.1 (48 * j)) {r : Nat} (hJ : 7 * j + 7 ≤ g.2.2 41) (hL : g.2.2 41 ≤ 3584) (ih : LWI g ad j r) : DW g M_Lw_law lwQ w 1199 [(5, .int (nI (7 * j))), (4, .ref (ad 70)), (3, .ref (ad 69)), (2, .ref (ad 52)), (1, .ref (ad 0)), (0, .ref (g.2.2 40))] [] (100 * (r + 1)) (1000 * (r + 1)) := by
  refine y_base (cs := []) (z_I.nil w) ?_
  refine y_aload_n d_Lw_law_1199 rfl 4 rfl ?_
  refine y_aload_n d_Lw_law_1200 rfl 5 rfl ?_
  refine y_iload d_Lw_law_1201 0 rfl ?_
  refine y_iconst d_Lw_law_1203 (v := 1) (by decide) ?_
  refine y_iadd d_Lw_law_1204 (v := nI ((7 * j) + 1)) (nI_add _ _) ?_
  refine y_sld (v := zs g (7 * j + 1)) d_Lw_law_1205 (vp_in_nI (by omega) (by omega)) (by rw [nI_clamp (by omega)]; rfl) ?_
  refine y_i2c d_Lw_law_1206 (v := zc g (7 * j + 1)) rfl ?_
  refine y_aload_n d_Lw_law_1207 rfl 2 rfl ?_
  refine yw_callSX (As := [.ref (ad 0), .int (zc g (7 * j + 1)), .ref (ad 69)]) (rest := []) ln_Lw_271 w_st_Lw_pool ok_Lw_law_Lw_pool d_Lw_law_1208 (fun wA hA => W_pool (IVm.nil hA hI) _) rfl rfl (Nat.le_of_ble_eq_true rfl) (by omega) (by omega) (fun wA1208 hA1208 E wB1208 hx => ?_) (fun wA1208 hA1208 v wB1208 hx => ?_)
  · obtain ⟨⟨v9, e1⟩, -⟩ := hx
    cases e1
  · obtain ⟨⟨v9, e1⟩, uC, huC, hI2⟩ := hx
    cases e1
    refine yw_st (st2 := [.int v9]) rfl ?_
    have hI := hI2
    refine y_base (cs := []) (z_I.nil _) ?_
    refine y_istore (lv' := [(6, .int v9), (5, .int (nI (7 * j))), (4, .ref (ad 70)), (3, .ref (ad 69)), (2, .ref (ad 52)), (1, .ref (ad 0)), (0, .ref (g.2.2 40))]) d_Lw_law_1211 (by decide) rfl ?_
    refine y_aload_n d_Lw_law_1213 rfl 4 rfl ?_
    refine y_aload_n d_Lw_law_1214 rfl 6 rfl ?_
    refine y_iload d_Lw_law_1215 1 rfl ?_
    refine y_iconst d_Lw_law_1217 (v := 1) (by decide) ?_
    refine y_iadd d_Lw_law_1218 (v := nI ((7 * j) + 1)) (nI_add _ _) ?_
    refine y_sld (v := zs g (7 * j + 1)) d_Lw_law_1219 (vp_in_nI (by omega) (by omega)) (by rw [nI_clamp (by omega)]; rfl) ?_
    refine y_i2c d_Lw_law_1220 (v := zc g (7 * j + 1)) rfl ?_
    refine yw_callVL (As := [.int (zc g (7 * j + 1))]) (rest := []) (ci := 12) rfl (fun wA hA => (IVm.nil hA hI).rm) ln_Lw_273 w_im_Mm_pool w_se_Mm_pool ok_Lw_law_Mm_pool d_Lw_law_1221 (fun wA hA => K_Mm_pool (IVm.nil hA hI) _) rfl rfl (Nat.le_of_ble_eq_true rfl) (by omega) (by omega) (fun wA1221 hA1221 E wB1221 hx => ?_) (fun wA1221 hA1221 v wB1221 hx => ?_)
    · obtain ⟨⟨v8, e1⟩, -⟩ := hx
      cases e1
    · obtain ⟨⟨v8, e1⟩, uM, huM, hI2⟩ := hx
      cases e1
      refine yw_st (st2 := [.int v8]) rfl ?_
      have hI := hI2
      refine y_base (cs := []) (z_I.nil _) ?_
      refine y_istore (lv' := [(7, .int v8), (6, .int v9), (5, .int (nI (7 * j))), (4, .ref (ad 70)), (3, .ref (ad 69)), (2, .ref (ad 52)), (1, .ref (ad 0)), (0, .ref (g.2.2 40))]) d_Lw_law_1224 (by decide) rfl ?_
      refine y_goto (tgt := 1808) d_Lw_law_1226 (by decide) ?_
      refine y_lv (lv' := [(5, .int (nI (7 * j))), (4, .ref (ad 70)), (3, .ref (ad 69)), (2, .ref (ad 52)), (1, .ref (ad 0)), (0, .ref (g.2.2 40))]) [2, 3, 4, 5, 6, 7] rfl ?_
      refine y_end (fun wC hC => ?_)
      exact LC_next (IVm.nil hC hI) ((hR.n (huM.trans huC)).up (by omega)) hJ hL ih (by omega) (by omega)
theorem d_Lw_law_1229 : decode code 1229 = .ok (.aload_n 1, 1) := zo_43 (zd_b zq_code_38 13 rfl rfl rfl)
theorem d_Lw_law_1230 : decode code 1230 = .ok (.aload_n 0, 1) := zo_42 (zd_b zq_code_38 14 rfl rfl rfl)
theorem d_Lw_law_1231 : decode code 1231 = .ok (.iload 5, 2) := zo_21 (d := 5) (zd_b zq_code_38 15 rfl rfl rfl) (zd_b zq_code_38 16 rfl rfl rfl)
theorem d_Lw_law_1233 : decode code 1233 = .ok (.iconst 1, 1) := zo_4 (zd_b zq_code_38 17 rfl rfl rfl)
theorem d_Lw_law_1234 : decode code 1234 = .ok (.iadd, 1) := zo_96 (zd_b zq_code_38 18 rfl rfl rfl)
theorem d_Lw_law_1235 : decode code 1235 = .ok (.iaload, 1) := zo_46 (zd_b zq_code_38 19 rfl rfl rfl)
theorem d_Lw_law_1236 : decode code 1236 = .ok (.i2c, 1) := zo_146 (zd_b zq_code_38 20 rfl rfl rfl)
theorem d_Lw_law_1237 : decode code 1237 = .ok (.aload_n 0, 1) := zo_42 (zd_b zq_code_38 21 rfl rfl rfl)
theorem d_Lw_law_1238 : decode code 1238 = .ok (.iload 5, 2) := zo_21 (d := 5) (zd_b zq_code_38 22 rfl rfl rfl) (zd_b zq_code_38 23 rfl rfl rfl)
theorem d_Lw_law_1240 : decode code 1240 = .ok (.iconst 2, 1) := zo_5 (zd_b zq_code_38 24 rfl rfl rfl)
theorem d_Lw_law_1241 : decode code 1241 = .ok (.iadd, 1) := zo_96 (zd_b zq_code_38 25 rfl rfl rfl)
theorem d_Lw_law_1242 : decode code 1242 = .ok (.iaload, 1) := zo_46 (zd_b zq_code_38 26 rfl rfl rfl)
theorem d_Lw_law_1243 : decode code 1243 = .ok (.i2c, 1) := zo_146 (zd_b zq_code_38 27 rfl rfl rfl)
theorem d_Lw_law_1244 : decode code 1244 = .ok (.aload_n 3, 1) := zo_45 (zd_b zq_code_38 28 rfl rfl rfl)
theorem d_Lw_law_1245 : decode code 1245 = .ok (.invokestatic 274, 3) := zo_184 (d := 1) (e := 18) (zd_b zq_code_38 29 rfl rfl rfl) (zd_b zq_code_38 30 rfl rfl rfl) (zd_b zq_code_38 31 rfl rfl rfl)
theorem ok_Lw_law_Lw_poolHas : z_okX M_Lw_law M_Lw_poolHas 4 := ⟨z_mj5 (i := 172) rfl (by decide +kernel), by decide, ⟨by decide +kernel, by decide +kernel, by decide +kernel⟩, ⟨by decide, by decide⟩, z_mj1 (i := 0) rfl (by decide +kernel), rfl⟩
theorem ln_Lw_274 : Cond.methodLink "IronpourLaw" 274 M_Lw_poolHas.1 ∈ z_gw := z_mj5 (i := 170) rfl (by decide +kernel)
theorem w_st_Lw_poolHas : Cond.static M_Lw_poolHas.1 ∈ z_gw := z_mj5 (i := 171) rfl (by decide +kernel)
theorem d_Lw_law_1248 : decode code 1248 = .ok (.istore 6, 2) := zo_54 (d := 6) (zd_b zq_code_39 0 rfl rfl rfl) (zd_b zq_code_39 1 rfl rfl rfl)
theorem d_Lw_law_1250 : decode code 1250 = .ok (.aload_n 2, 1) := zo_44 (zd_b zq_code_39 2 rfl rfl rfl)
theorem d_Lw_law_1251 : decode code 1251 = .ok (.aload_n 0, 1) := zo_42 (zd_b zq_code_39 3 rfl rfl rfl)
theorem d_Lw_law_1252 : decode code 1252 = .ok (.iload 5, 2) := zo_21 (d := 5) (zd_b zq_code_39 4 rfl rfl rfl) (zd_b zq_code_39 5 rfl rfl rfl)
theorem d_Lw_law_1254 : decode code 1254 = .ok (.iconst 1, 1) := zo_4 (zd_b zq_code_39 6 rfl rfl rfl)
theorem d_Lw_law_1255 : decode code 1255 = .ok (.iadd, 1) := zo_96 (zd_b zq_code_39 7 rfl rfl rfl)
theorem d_Lw_law_1256 : decode code 1256 = .ok (.iaload, 1) := zo_46 (zd_b zq_code_39 8 rfl rfl rfl)
theorem d_Lw_law_1257 : decode code 1257 = .ok (.i2c, 1) := zo_146 (zd_b zq_code_39 9 rfl rfl rfl)
theorem d_Lw_law_1258 : decode code 1258 = .ok (.aload_n 0, 1) := zo_42 (zd_b zq_code_39 10 rfl rfl rfl)
theorem d_Lw_law_1259 : decode code 1259 = .ok (.iload 5, 2) := zo_21 (d := 5) (zd_b zq_code_39 11 rfl rfl rfl) (zd_b zq_code_39 12 rfl rfl rfl)
theorem d_Lw_law_1261 : decode code 1261 = .ok (.iconst 2, 1) := zo_5 (zd_b zq_code_39 13 rfl rfl rfl)
theorem d_Lw_law_1262 : decode code 1262 = .ok (.iadd, 1) := zo_96 (zd_b zq_code_39 14 rfl rfl rfl)
theorem d_Lw_law_1263 : decode code 1263 = .ok (.iaload, 1) := zo_46 (zd_b zq_code_39 15 rfl rfl rfl)
theorem d_Lw_law_1264 : decode code 1264 = .ok (.i2c, 1) := zo_146 (zd_b zq_code_39 16 rfl rfl rfl)
theorem d_Lw_law_1265 : decode code 1265 = .ok (.invokevirtual 277, 3) := zo_182 (d := 1) (e := 21) (zd_b zq_code_39 17 rfl rfl rfl) (zd_b zq_code_39 18 rfl rfl rfl) (zd_b zq_code_39 19 rfl rfl rfl)
theorem ok_Lw_law_Mm_poolHas : z_ok M_Lw_law M_Mm_poolHas 2 := ⟨z_mj8 (i := 207) rfl (by decide +kernel), rfl, ⟨by decide +kernel, by decide +kernel, by decide +kernel⟩, ⟨by decide, by decide⟩, z_mj1 (i := 14) rfl (by decide +kernel), rfl⟩
theorem ln_Lw_277 : Cond.methodLink "IronpourLaw" 277 M_Mm_poolHas.1 ∈ z_gw := z_mj8 (i := 204) rfl (by decide +kernel)
theorem w_im_Mm_poolHas : Cond.instanceMethod M_Mm_poolHas.1 ∈ z_gw := z_mj8 (i := 205) rfl (by decide +kernel)
theorem w_se_Mm_poolHas : Cond.selects M_Mm_poolHas.1.cls M_Mm_poolHas.1 M_Mm_poolHas.1 ∈ z_gw := z_mj8 (i := 206) rfl (by decide +kernel)
theorem d_Lw_law_1268 : decode code 1268 = .ok (.istore 7, 2) := zo_54 (d := 7) (zd_b zq_code_39 20 rfl rfl rfl) (zd_b zq_code_39 21 rfl rfl rfl)
theorem d_Lw_law_1270 : decode code 1270 = .ok (.goto 538, 3) := zo_167 (d := 2) (e := 26) (zd_b zq_code_39 22 rfl rfl rfl) (zd_b zq_code_39 23 rfl rfl rfl) (zd_b zq_code_39 24 rfl rfl rfl) (by decide +kernel)
set_option maxHeartbeats 4000000 in
set_option maxRecDepth 100000 in
theorem LC_poolHas {g : zG} {ad : Nat → Nat} {t : zTT} {u : zNN} {w : zW} {j : Nat} (hI : IVm g ad t u w) (hR : REL t u.1 (48 * j)) {r : Nat} (hJ : 7 * j + 7 ≤ g.2.2 41) (hL : g.2.2 41 ≤ 3584) (ih : LWI g ad j r) : DW g M_Lw_law lwQ w 1229 [(5, .int (nI (7 * j))), (4, .ref (ad 70)), (3, .ref (ad 69)), (2, .ref (ad 52)), (1, .ref (ad 0)), (0, .ref (g.2.2 40))] [] (100 * (r + 1)) (1000 * (r + 1)) := by
  refine y_base (cs := []) (z_I.nil w) ?_
  refine y_aload_n d_Lw_law_1229 rfl 4 rfl ?_
  refine y_aload_n d_Lw_law_1230 rfl 5 rfl ?_
  refine y_iload d_Lw_law_1231 0 rfl ?_
  refine y_iconst d_Lw_law_1233 (v := 1) (by decide) ?_
  refine y_iadd d_Lw_law_1234 (v := nI ((7 * j) + 1)) (nI_add _ _) ?_
  refine y_sld (v := zs g (7 * j + 1)) d_Lw_law_1235 (vp_in_nI (by omega) (by omega)) (by rw [nI_clamp (by omega)]; rfl) ?_
  refine y_i2c d_Lw_law_1236 (v := zc g (7 * j + 1)) rfl ?_
  refine y_aload_n d_Lw_law_1237 rfl 5 rfl ?_
  refine y_iload d_Lw_law_1238 0 rfl ?_
  refine y_iconst d_Lw_law_1240 (v := 2) (by decide) ?_
  refine y_iadd d_Lw_law_1241 (v := nI ((7 * j) + 2)) (nI_add _ _) ?_
  refine y_sld (v := zs g (7 * j + 2)) d_Lw_law_1242 (vp_in_nI (by omega) (by omega)) (by rw [nI_clamp (by omega)]; rfl) ?_
  refine y_i2c d_Lw_law_1243 (v := zc g (7 * j + 2)) rfl ?_
  refine y_aload_n d_Lw_law_1244 rfl 2 rfl ?_
  refine yw_callSX (As := [.ref (ad 0), .int (zc g (7 * j + 1)), .int (zc g (7 * j + 2)), .ref (ad 69)]) (rest := []) ln_Lw_274 w_st_Lw_poolHas ok_Lw_law_Lw_poolHas d_Lw_law_1245 (fun wA hA => W_poolHas (IVm.nil hA hI) _ _) rfl rfl (Nat.le_of_ble_eq_true rfl) (by omega) (by omega) (fun wA1245 hA1245 E wB1245 hx => ?_) (fun wA1245 hA1245 v wB1245 hx => ?_)
  · obtain ⟨⟨v9, e1⟩, -⟩ := hx
    cases e1
  · obtain ⟨⟨v9, e1⟩, uC, huC, hI2⟩ := hx
    cases e1
    refine yw_st (st2 := [.int v9]) rfl ?_
    have hI := hI2
    refine y_base (cs := []) (z_I.nil _) ?_
    refine y_istore (lv' := [(6, .int v9), (5, .int (nI (7 * j))), (4, .ref (ad 70)), (3, .ref (ad 69)), (2, .ref (ad 52)), (1, .ref (ad 0)), (0, .ref (g.2.2 40))]) d_Lw_law_1248 (by decide) rfl ?_
    refine y_aload_n d_Lw_law_1250 rfl 4 rfl ?_
    refine y_aload_n d_Lw_law_1251 rfl 6 rfl ?_
    refine y_iload d_Lw_law_1252 1 rfl ?_
    refine y_iconst d_Lw_law_1254 (v := 1) (by decide) ?_
    refine y_iadd d_Lw_law_1255 (v := nI ((7 * j) + 1)) (nI_add _ _) ?_
    refine y_sld (v := zs g (7 * j + 1)) d_Lw_law_1256 (vp_in_nI (by omega) (by omega)) (by rw [nI_clamp (by omega)]; rfl) ?_
    refine y_i2c d_Lw_law_1257 (v := zc g (7 * j + 1)) rfl ?_
    refine y_aload_n d_Lw_law_1258 rfl 6 rfl ?_
    refine y_iload d_Lw_law_1259 1 rfl ?_
    refine y_iconst d_Lw_law_1261 (v := 2) (by decide) ?_
    refine y_iadd d_Lw_law_1262 (v := nI ((7 * j) + 2)) (nI_add _ _) ?_
    refine y_sld (v := zs g (7 * j + 2)) d_Lw_law_1263 (vp_in_nI (by omega) (by omega)) (by rw [nI_clamp (by omega)]; rfl) ?_
    refine y_i2c d_Lw_law_1264 (v := zc g (7 * j + 2)) rfl ?_
    refine yw_callVL (As := [.int (zc g (7 * j + 1)), .int (zc g (7 * j + 2))]) (rest := []) (ci := 12) rfl (fun wA hA => (IVm.nil hA hI).rm) ln_Lw_277 w_im_Mm_poolHas w_se_Mm_poolHas ok_Lw_law_Mm_poolHas d_Lw_law_1265 (fun wA hA => K_Mm_poolHas (IVm.nil hA hI) _ _) rfl rfl (Nat.le_of_ble_eq_true rfl) (by omega) (by omega) (fun wA1265 hA1265 E wB1265 hx => ?_) (fun wA1265 hA1265 v wB1265 hx => ?_)
    · obtain ⟨⟨v8, e1⟩, -⟩ := hx
      cases e1
    · obtain ⟨⟨v8, e1⟩, uM, huM, hI2⟩ := hx
      cases e1
      refine yw_st (st2 := [.int v8]) rfl ?_
      have hI := hI2
      refine y_base (cs := []) (z_I.nil _) ?_
      refine y_istore (lv' := [(7, .int v8), (6, .int v9), (5, .int (nI (7 * j))), (4, .ref (ad 70)), (3, .ref (ad 69)), (2, .ref (ad 52)), (1, .ref (ad 0)), (0, .ref (g.2.2 40))]) d_Lw_law_1268 (by decide) rfl ?_
      refine y_goto (tgt := 1808) d_Lw_law_1270 (by decide) ?_
      refine y_lv (lv' := [(5, .int (nI (7 * j))), (4, .ref (ad 70)), (3, .ref (ad 69)), (2, .ref (ad 52)), (1, .ref (ad 0)), (0, .ref (g.2.2 40))]) [2, 3, 4, 5, 6, 7] rfl ?_
      refine y_end (fun wC hC => ?_)
      exact LC_next (IVm.nil hC hI) ((hR.n (huM.trans huC)).up (by omega)) hJ hL ih (by omega) (by omega)
theorem d_Lw_law_1273 : decode code 1273 = .ok (.aload_n 1, 1) := zo_43 (zd_b zq_code_39 25 rfl rfl rfl)
theorem d_Lw_law_1274 : decode code 1274 = .ok (.aload_n 0, 1) := zo_42 (zd_b zq_code_39 26 rfl rfl rfl)
theorem d_Lw_law_1275 : decode code 1275 = .ok (.iload 5, 2) := zo_21 (d := 5) (zd_b zq_code_39 27 rfl rfl rfl) (zd_b zq_code_39 28 rfl rfl rfl)
theorem d_Lw_law_1277 : decode code 1277 = .ok (.iconst 1, 1) := zo_4 (zd_b zq_code_39 29 rfl rfl rfl)
theorem d_Lw_law_1278 : decode code 1278 = .ok (.iadd, 1) := zo_96 (zd_b zq_code_39 30 rfl rfl rfl)
theorem d_Lw_law_1279 : decode code 1279 = .ok (.iaload, 1) := zo_46 (zd_b zq_code_39 31 rfl rfl rfl)
theorem d_Lw_law_1280 : decode code 1280 = .ok (.aload_n 0, 1) := zo_42 (zd_b zq_code_40 0 rfl rfl rfl)
theorem d_Lw_law_1281 : decode code 1281 = .ok (.iload 5, 2) := zo_21 (d := 5) (zd_b zq_code_40 1 rfl rfl rfl) (zd_b zq_code_40 2 rfl rfl rfl)
theorem d_Lw_law_1283 : decode code 1283 = .ok (.iconst 2, 1) := zo_5 (zd_b zq_code_40 3 rfl rfl rfl)
theorem d_Lw_law_1284 : decode code 1284 = .ok (.iadd, 1) := zo_96 (zd_b zq_code_40 4 rfl rfl rfl)
theorem d_Lw_law_1285 : decode code 1285 = .ok (.iaload, 1) := zo_46 (zd_b zq_code_40 5 rfl rfl rfl)
theorem d_Lw_law_1286 : decode code 1286 = .ok (.aload_n 0, 1) := zo_42 (zd_b zq_code_40 6 rfl rfl rfl)
theorem d_Lw_law_1287 : decode code 1287 = .ok (.iload 5, 2) := zo_21 (d := 5) (zd_b zq_code_40 7 rfl rfl rfl) (zd_b zq_code_40 8 rfl rfl rfl)
theorem d_Lw_law_1289 : decode code 1289 = .ok (.iconst 3, 1) := zo_6 (zd_b zq_code_40 9 rfl rfl rfl)
theorem d_Lw_law_1290 : decode code 1290 = .ok (.iadd, 1) := zo_96 (zd_b zq_code_40 10 rfl rfl rfl)
theorem d_Lw_law_1291 : decode code 1291 = .ok (.iaload, 1) := zo_46 (zd_b zq_code_40 11 rfl rfl rfl)
theorem d_Lw_law_1292 : decode code 1292 = .ok (.aload_n 0, 1) := zo_42 (zd_b zq_code_40 12 rfl rfl rfl)
theorem d_Lw_law_1293 : decode code 1293 = .ok (.iload 5, 2) := zo_21 (d := 5) (zd_b zq_code_40 13 rfl rfl rfl) (zd_b zq_code_40 14 rfl rfl rfl)
theorem d_Lw_law_1295 : decode code 1295 = .ok (.iconst 4, 1) := zo_7 (zd_b zq_code_40 15 rfl rfl rfl)
theorem d_Lw_law_1296 : decode code 1296 = .ok (.iadd, 1) := zo_96 (zd_b zq_code_40 16 rfl rfl rfl)
theorem d_Lw_law_1297 : decode code 1297 = .ok (.iaload, 1) := zo_46 (zd_b zq_code_40 17 rfl rfl rfl)
theorem d_Lw_law_1298 : decode code 1298 = .ok (.aload_n 0, 1) := zo_42 (zd_b zq_code_40 18 rfl rfl rfl)
theorem d_Lw_law_1299 : decode code 1299 = .ok (.iload 5, 2) := zo_21 (d := 5) (zd_b zq_code_40 19 rfl rfl rfl) (zd_b zq_code_40 20 rfl rfl rfl)
theorem d_Lw_law_1301 : decode code 1301 = .ok (.iconst 5, 1) := zo_8 (zd_b zq_code_40 21 rfl rfl rfl)
theorem d_Lw_law_1302 : decode code 1302 = .ok (.iadd, 1) := zo_96 (zd_b zq_code_40 22 rfl rfl rfl)
theorem d_Lw_law_1303 : decode code 1303 = .ok (.iaload, 1) := zo_46 (zd_b zq_code_40 23 rfl rfl rfl)
theorem d_Lw_law_1304 : decode code 1304 = .ok (.aload_n 0, 1) := zo_42 (zd_b zq_code_40 24 rfl rfl rfl)
theorem d_Lw_law_1305 : decode code 1305 = .ok (.iload 5, 2) := zo_21 (d := 5) (zd_b zq_code_40 25 rfl rfl rfl) (zd_b zq_code_40 26 rfl rfl rfl)
theorem d_Lw_law_1307 : decode code 1307 = .ok (.bipush 6, 2) := zo_16 (d := 6) (zd_b zq_code_40 27 rfl rfl rfl) (zd_b zq_code_40 28 rfl rfl rfl) (by decide +kernel)
theorem d_Lw_law_1309 : decode code 1309 = .ok (.iadd, 1) := zo_96 (zd_b zq_code_40 29 rfl rfl rfl)
theorem d_Lw_law_1310 : decode code 1310 = .ok (.iaload, 1) := zo_46 (zd_b zq_code_40 30 rfl rfl rfl)
theorem d_Lw_law_1311 : decode code 1311 = .ok (.aload_n 3, 1) := zo_45 (zd_b zq_code_40 31 rfl rfl rfl)
theorem d_Lw_law_1312 : decode code 1312 = .ok (.invokestatic 278, 3) := zo_184 (d := 1) (e := 22) (zd_b zq_code_41 0 rfl rfl rfl) (zd_b zq_code_41 1 rfl rfl rfl) (zd_b zq_code_41 2 rfl rfl rfl)
theorem ok_Lw_law_Lw_leastCost : z_okX M_Lw_law M_Lw_leastCost 8 := ⟨z_mj5 (i := 180) rfl (by decide +kernel), by decide, ⟨by decide +kernel, by decide +kernel, by decide +kernel⟩, ⟨by decide, by decide⟩, z_mj1 (i := 0) rfl (by decide +kernel), rfl⟩
theorem ln_Lw_278 : Cond.methodLink "IronpourLaw" 278 M_Lw_leastCost.1 ∈ z_gw := z_mj5 (i := 178) rfl (by decide +kernel)
theorem w_st_Lw_leastCost : Cond.static M_Lw_leastCost.1 ∈ z_gw := z_mj5 (i := 179) rfl (by decide +kernel)
theorem d_Lw_law_1315 : decode code 1315 = .ok (.istore 6, 2) := zo_54 (d := 6) (zd_b zq_code_41 3 rfl rfl rfl) (zd_b zq_code_41 4 rfl rfl rfl)
theorem d_Lw_law_1317 : decode code 1317 = .ok (.aload_n 2, 1) := zo_44 (zd_b zq_code_41 5 rfl rfl rfl)
theorem d_Lw_law_1318 : decode code 1318 = .ok (.aload_n 0, 1) := zo_42 (zd_b zq_code_41 6 rfl rfl rfl)
theorem d_Lw_law_1319 : decode code 1319 = .ok (.iload 5, 2) := zo_21 (d := 5) (zd_b zq_code_41 7 rfl rfl rfl) (zd_b zq_code_41 8 rfl rfl rfl)
theorem d_Lw_law_1321 : decode code 1321 = .ok (.iconst 1, 1) := zo_4 (zd_b zq_code_41 9 rfl rfl rfl)
theorem d_Lw_law_1322 : decode code 1322 = .ok (.iadd, 1) := zo_96 (zd_b zq_code_41 10 rfl rfl rfl)
theorem d_Lw_law_1323 : decode code 1323 = .ok (.iaload, 1) := zo_46 (zd_b zq_code_41 11 rfl rfl rfl)
theorem d_Lw_law_1324 : decode code 1324 = .ok (.aload_n 0, 1) := zo_42 (zd_b zq_code_41 12 rfl rfl rfl)
theorem d_Lw_law_1325 : decode code 1325 = .ok (.iload 5, 2) := zo_21 (d := 5) (zd_b zq_code_41 13 rfl rfl rfl) (zd_b zq_code_41 14 rfl rfl rfl)
theorem d_Lw_law_1327 : decode code 1327 = .ok (.iconst 2, 1) := zo_5 (zd_b zq_code_41 15 rfl rfl rfl)
theorem d_Lw_law_1328 : decode code 1328 = .ok (.iadd, 1) := zo_96 (zd_b zq_code_41 16 rfl rfl rfl)
theorem d_Lw_law_1329 : decode code 1329 = .ok (.iaload, 1) := zo_46 (zd_b zq_code_41 17 rfl rfl rfl)
theorem d_Lw_law_1330 : decode code 1330 = .ok (.aload_n 0, 1) := zo_42 (zd_b zq_code_41 18 rfl rfl rfl)
theorem d_Lw_law_1331 : decode code 1331 = .ok (.iload 5, 2) := zo_21 (d := 5) (zd_b zq_code_41 19 rfl rfl rfl) (zd_b zq_code_41 20 rfl rfl rfl)
theorem d_Lw_law_1333 : decode code 1333 = .ok (.iconst 3, 1) := zo_6 (zd_b zq_code_41 21 rfl rfl rfl)
theorem d_Lw_law_1334 : decode code 1334 = .ok (.iadd, 1) := zo_96 (zd_b zq_code_41 22 rfl rfl rfl)
theorem d_Lw_law_1335 : decode code 1335 = .ok (.iaload, 1) := zo_46 (zd_b zq_code_41 23 rfl rfl rfl)
theorem d_Lw_law_1336 : decode code 1336 = .ok (.aload_n 0, 1) := zo_42 (zd_b zq_code_41 24 rfl rfl rfl)
theorem d_Lw_law_1337 : decode code 1337 = .ok (.iload 5, 2) := zo_21 (d := 5) (zd_b zq_code_41 25 rfl rfl rfl) (zd_b zq_code_41 26 rfl rfl rfl)
theorem d_Lw_law_1339 : decode code 1339 = .ok (.iconst 4, 1) := zo_7 (zd_b zq_code_41 27 rfl rfl rfl)
theorem d_Lw_law_1340 : decode code 1340 = .ok (.iadd, 1) := zo_96 (zd_b zq_code_41 28 rfl rfl rfl)
theorem d_Lw_law_1341 : decode code 1341 = .ok (.iaload, 1) := zo_46 (zd_b zq_code_41 29 rfl rfl rfl)
theorem d_Lw_law_1342 : decode code 1342 = .ok (.aload_n 0, 1) := zo_42 (zd_b zq_code_41 30 rfl rfl rfl)
theorem d_Lw_law_1343 : decode code 1343 = .ok (.iload 5, 2) := zo_21 (d := 5) (zd_b zq_code_41 31 rfl rfl rfl) (zd_b zq_code_42 0 rfl rfl rfl)
theorem d_Lw_law_1345 : decode code 1345 = .ok (.iconst 5, 1) := zo_8 (zd_b zq_code_42 1 rfl rfl rfl)
theorem d_Lw_law_1346 : decode code 1346 = .ok (.iadd, 1) := zo_96 (zd_b zq_code_42 2 rfl rfl rfl)
theorem d_Lw_law_1347 : decode code 1347 = .ok (.iaload, 1) := zo_46 (zd_b zq_code_42 3 rfl rfl rfl)
theorem d_Lw_law_1348 : decode code 1348 = .ok (.aload_n 0, 1) := zo_42 (zd_b zq_code_42 4 rfl rfl rfl)
theorem d_Lw_law_1349 : decode code 1349 = .ok (.iload 5, 2) := zo_21 (d := 5) (zd_b zq_code_42 5 rfl rfl rfl) (zd_b zq_code_42 6 rfl rfl rfl)
theorem d_Lw_law_1351 : decode code 1351 = .ok (.bipush 6, 2) := zo_16 (d := 6) (zd_b zq_code_42 7 rfl rfl rfl) (zd_b zq_code_42 8 rfl rfl rfl) (by decide +kernel)
theorem d_Lw_law_1353 : decode code 1353 = .ok (.iadd, 1) := zo_96 (zd_b zq_code_42 9 rfl rfl rfl)
theorem d_Lw_law_1354 : decode code 1354 = .ok (.iaload, 1) := zo_46 (zd_b zq_code_42 10 rfl rfl rfl)
theorem d_Lw_law_1355 : decode code 1355 = .ok (.invokevirtual 281, 3) := zo_182 (d := 1) (e := 25) (zd_b zq_code_42 11 rfl rfl rfl) (zd_b zq_code_42 12 rfl rfl rfl) (zd_b zq_code_42 13 rfl rfl rfl)
theorem ok_Lw_law_Mm_leastCost : z_ok M_Lw_law M_Mm_leastCost 6 := ⟨z_mj8 (i := 211) rfl (by decide +kernel), rfl, ⟨by decide +kernel, by decide +kernel, by decide +kernel⟩, ⟨by decide, by decide⟩, z_mj1 (i := 14) rfl (by decide +kernel), rfl⟩
theorem ln_Lw_281 : Cond.methodLink "IronpourLaw" 281 M_Mm_leastCost.1 ∈ z_gw := z_mj8 (i := 208) rfl (by decide +kernel)
theorem w_im_Mm_leastCost : Cond.instanceMethod M_Mm_leastCost.1 ∈ z_gw := z_mj8 (i := 209) rfl (by decide +kernel)
theorem w_se_Mm_leastCost : Cond.selects M_Mm_leastCost.1.cls M_Mm_leastCost.1 M_Mm_leastCost.1 ∈ z_gw := z_mj8 (i := 210) rfl (by decide +kernel)
theorem d_Lw_law_1358 : decode code 1358 = .ok (.istore 7, 2) := zo_54 (d := 7) (zd_b zq_code_42 14 rfl rfl rfl) (zd_b zq_code_42 15 rfl rfl rfl)
theorem d_Lw_law_1360 : decode code 1360 = .ok (.goto 448, 3) := zo_167 (d := 1) (e := 192) (zd_b zq_code_42 16 rfl rfl rfl) (zd_b zq_code_42 17 rfl rfl rfl) (zd_b zq_code_42 18 rfl rfl rfl) (by decide +kernel)
set_option maxHeartbeats 4000000 in
set_option maxRecDepth 100000 in
theorem LC_leastCost {g : zG} {ad : Nat → Nat} {t : zTT} {u : zNN} {w : zW} {j : Nat} (hI : IVm g ad t u w) (hR : REL t u.1 (48 * j)) {r : Nat} (hJ : 7 * j + 7 ≤ g.2.2 41) (hL : g.2.2 41 ≤ 3584) (ih : LWI g ad j r) : DW g M_Lw_law lwQ w 1273 [(5, .int (nI (7 * j))), (4, .ref (ad 70)), (3, .ref (ad 69)), (2, .ref (ad 52)), (1, .ref (ad 0)), (0, .ref (g.2.2 40))] [] (100 * (r + 1)) (1000 * (r + 1)) := by
  refine y_base (cs := []) (z_I.nil w) ?_
  refine y_aload_n d_Lw_law_1273 rfl 4 rfl ?_
  refine y_aload_n d_Lw_law_1274 rfl 5 rfl ?_
  refine y_iload d_Lw_law_1275 0 rfl ?_
  refine y_iconst d_Lw_law_1277 (v := 1) (by decide) ?_
  refine y_iadd d_Lw_law_1278 (v := nI ((7 * j) + 1)) (nI_add _ _) ?_
  refine y_sld (v := zs g (7 * j + 1)) d_Lw_law_1279 (vp_in_nI (by omega) (by omega)) (by rw [nI_clamp (by omega)]; rfl) ?_
  refine y_aload_n d_Lw_law_1280 rfl 5 rfl ?_
  refine y_iload d_Lw_law_1281 0 rfl ?_
  refine y_iconst d_Lw_law_1283 (v := 2) (by decide) ?_
  refine y_iadd d_Lw_law_1284 (v := nI ((7 * j) + 2)) (nI_add _ _) ?_
  refine y_sld (v := zs g (7 * j + 2)) d_Lw_law_1285 (vp_in_nI (by omega) (by omega)) (by rw [nI_clamp (by omega)]; rfl) ?_
  refine y_aload_n d_Lw_law_1286 rfl 5 rfl ?_
  refine y_iload d_Lw_law_1287 0 rfl ?_
  refine y_iconst d_Lw_law_1289 (v := 3) (by decide) ?_
  refine y_iadd d_Lw_law_1290 (v := nI ((7 * j) + 3)) (nI_add _ _) ?_
  refine y_sld (v := zs g (7 * j + 3)) d_Lw_law_1291 (vp_in_nI (by omega) (by omega)) (by rw [nI_clamp (by omega)]; rfl) ?_
  refine y_aload_n d_Lw_law_1292 rfl 5 rfl ?_
  refine y_iload d_Lw_law_1293 0 rfl ?_
  refine y_iconst d_Lw_law_1295 (v := 4) (by decide) ?_
  refine y_iadd d_Lw_law_1296 (v := nI ((7 * j) + 4)) (nI_add _ _) ?_
  refine y_sld (v := zs g (7 * j + 4)) d_Lw_law_1297 (vp_in_nI (by omega) (by omega)) (by rw [nI_clamp (by omega)]; rfl) ?_
  refine y_aload_n d_Lw_law_1298 rfl 5 rfl ?_
  refine y_iload d_Lw_law_1299 0 rfl ?_
  refine y_iconst d_Lw_law_1301 (v := 5) (by decide) ?_
  refine y_iadd d_Lw_law_1302 (v := nI ((7 * j) + 5)) (nI_add _ _) ?_
  refine y_sld (v := zs g (7 * j + 5)) d_Lw_law_1303 (vp_in_nI (by omega) (by omega)) (by rw [nI_clamp (by omega)]; rfl) ?_
  refine y_aload_n d_Lw_law_1304 rfl 5 rfl ?_
  refine y_iload d_Lw_law_1305 0 rfl ?_
  refine y_bipush d_Lw_law_1307 (v := 6) (by decide) ?_
  refine y_iadd d_Lw_law_1309 (v := nI ((7 * j) + 6)) (nI_add _ _) ?_
  refine y_sld (v := zs g (7 * j + 6)) d_Lw_law_1310 (vp_in_nI (by omega) (by omega)) (by rw [nI_clamp (by omega)]; rfl) ?_
  refine y_aload_n d_Lw_law_1311 rfl 2 rfl ?_
  refine yw_callSX (As := [.ref (ad 0), .int (zs g (7 * j + 1)), .int (zs g (7 * j + 2)), .int (zs g (7 * j + 3)), .int (zs g (7 * j + 4)), .int (zs g (7 * j + 5)), .int (zs g (7 * j + 6)), .ref (ad 69)]) (rest := []) ln_Lw_278 w_st_Lw_leastCost ok_Lw_law_Lw_leastCost d_Lw_law_1312 (fun wA hA => W_leastCost (IVm.nil hA hI) _ _ _ _ _ _) rfl rfl (Nat.le_of_ble_eq_true rfl) (by omega) (by omega) (fun wA1312 hA1312 E wB1312 hx => ?_) (fun wA1312 hA1312 v wB1312 hx => ?_)
  · obtain ⟨⟨v9, e1⟩, -⟩ := hx
    cases e1
  · obtain ⟨⟨v9, e1⟩, uC, huC, hI2⟩ := hx
    cases e1
    refine yw_st (st2 := [.int v9]) rfl ?_
    have hI := hI2
    refine y_base (cs := []) (z_I.nil _) ?_
    refine y_istore (lv' := [(6, .int v9), (5, .int (nI (7 * j))), (4, .ref (ad 70)), (3, .ref (ad 69)), (2, .ref (ad 52)), (1, .ref (ad 0)), (0, .ref (g.2.2 40))]) d_Lw_law_1315 (by decide) rfl ?_
    refine y_aload_n d_Lw_law_1317 rfl 4 rfl ?_
    refine y_aload_n d_Lw_law_1318 rfl 6 rfl ?_
    refine y_iload d_Lw_law_1319 1 rfl ?_
    refine y_iconst d_Lw_law_1321 (v := 1) (by decide) ?_
    refine y_iadd d_Lw_law_1322 (v := nI ((7 * j) + 1)) (nI_add _ _) ?_
    refine y_sld (v := zs g (7 * j + 1)) d_Lw_law_1323 (vp_in_nI (by omega) (by omega)) (by rw [nI_clamp (by omega)]; rfl) ?_
    refine y_aload_n d_Lw_law_1324 rfl 6 rfl ?_
    refine y_iload d_Lw_law_1325 1 rfl ?_
    refine y_iconst d_Lw_law_1327 (v := 2) (by decide) ?_
    refine y_iadd d_Lw_law_1328 (v := nI ((7 * j) + 2)) (nI_add _ _) ?_
    refine y_sld (v := zs g (7 * j + 2)) d_Lw_law_1329 (vp_in_nI (by omega) (by omega)) (by rw [nI_clamp (by omega)]; rfl) ?_
    refine y_aload_n d_Lw_law_1330 rfl 6 rfl ?_
    refine y_iload d_Lw_law_1331 1 rfl ?_
    refine y_iconst d_Lw_law_1333 (v := 3) (by decide) ?_
    refine y_iadd d_Lw_law_1334 (v := nI ((7 * j) + 3)) (nI_add _ _) ?_
    refine y_sld (v := zs g (7 * j + 3)) d_Lw_law_1335 (vp_in_nI (by omega) (by omega)) (by rw [nI_clamp (by omega)]; rfl) ?_
    refine y_aload_n d_Lw_law_1336 rfl 6 rfl ?_
    refine y_iload d_Lw_law_1337 1 rfl ?_
    refine y_iconst d_Lw_law_1339 (v := 4) (by decide) ?_
    refine y_iadd d_Lw_law_1340 (v := nI ((7 * j) + 4)) (nI_add _ _) ?_
    refine y_sld (v := zs g (7 * j + 4)) d_Lw_law_1341 (vp_in_nI (by omega) (by omega)) (by rw [nI_clamp (by omega)]; rfl) ?_
    refine y_aload_n d_Lw_law_1342 rfl 6 rfl ?_
    refine y_iload d_Lw_law_1343 1 rfl ?_
    refine y_iconst d_Lw_law_1345 (v := 5) (by decide) ?_
    refine y_iadd d_Lw_law_1346 (v := nI ((7 * j) + 5)) (nI_add _ _) ?_
    refine y_sld (v := zs g (7 * j + 5)) d_Lw_law_1347 (vp_in_nI (by omega) (by omega)) (by rw [nI_clamp (by omega)]; rfl) ?_
    refine y_aload_n d_Lw_law_1348 rfl 6 rfl ?_
    refine y_iload d_Lw_law_1349 1 rfl ?_
    refine y_bipush d_Lw_law_1351 (v := 6) (by decide) ?_
    refine y_iadd d_Lw_law_1353 (v := nI ((7 * j) + 6)) (nI_add _ _) ?_
    refine y_sld (v := zs g (7 * j + 6)) d_Lw_law_1354 (vp_in_nI (by omega) (by omega)) (by rw [nI_clamp (by omega)]; rfl) ?_
    refine yw_callVL (As := [.int (zs g (7 * j + 1)), .int (zs g (7 * j + 2)), .int (zs g (7 * j + 3)), .int (zs g (7 * j + 4)), .int (zs g (7 * j + 5)), .int (zs g (7 * j + 6))]) (rest := []) (ci := 12) rfl (fun wA hA => (IVm.nil hA hI).rm) ln_Lw_281 w_im_Mm_leastCost w_se_Mm_leastCost ok_Lw_law_Mm_leastCost d_Lw_law_1355 (fun wA hA => K_Mm_leastCost (IVm.nil hA hI) _ _ _ _ _ _) rfl rfl (Nat.le_of_ble_eq_true rfl) (by omega) (by omega) (fun wA1355 hA1355 E wB1355 hx => ?_) (fun wA1355 hA1355 v wB1355 hx => ?_)
    · obtain ⟨⟨v8, e1⟩, -⟩ := hx
      cases e1
    · obtain ⟨⟨v8, e1⟩, uM, huM, hI2⟩ := hx
      cases e1
      refine yw_st (st2 := [.int v8]) rfl ?_
      have hI := hI2
      refine y_base (cs := []) (z_I.nil _) ?_
      refine y_istore (lv' := [(7, .int v8), (6, .int v9), (5, .int (nI (7 * j))), (4, .ref (ad 70)), (3, .ref (ad 69)), (2, .ref (ad 52)), (1, .ref (ad 0)), (0, .ref (g.2.2 40))]) d_Lw_law_1358 (by decide) rfl ?_
      refine y_goto (tgt := 1808) d_Lw_law_1360 (by decide) ?_
      refine y_lv (lv' := [(5, .int (nI (7 * j))), (4, .ref (ad 70)), (3, .ref (ad 69)), (2, .ref (ad 52)), (1, .ref (ad 0)), (0, .ref (g.2.2 40))]) [2, 3, 4, 5, 6, 7] rfl ?_
      refine y_end (fun wC hC => ?_)
      exact LC_next (IVm.nil hC hI) ((R_leastCost _ _ _ _ _ _ hR huC huM).up (by omega)) hJ hL ih (by omega) (by omega)
