theorem d_Lw_law_1363 : decode code 1363 = .ok (.aload_n 1, 1) := zo_43 (zd_b zq_code_42 19 rfl rfl rfl)
theorem d_Lw_law_1364 : decode code 1364 = .ok (.aload_n 0, 1) := zo_42 (zd_b zq_code_42 20 rfl rfl rfl)
theorem d_Lw_law_1365 : decode code 1365 = .ok (.iload 5, 2) := zo_21 (d := 5) (zd_b zq_code_42 21 rfl rfl rfl) (zd_b zq_code_42 22 rfl rfl rfl)
theorem d_Lw_law_1367 : decode code 1367 = .ok (.iconst 1, 1) := zo_4 (zd_b zq_code_42 23 rfl rfl rfl)
theorem d_Lw_law_1368 : decode code 1368 = .ok (.iadd, 1) := zo_96 (zd_b zq_code_42 24 rfl rfl rfl)
theorem d_Lw_law_1369 : decode code 1369 = .ok (.iaload, 1) := zo_46 (zd_b zq_code_42 25 rfl rfl rfl)
theorem d_Lw_law_1370 : decode code 1370 = .ok (.i2c, 1) := zo_146 (zd_b zq_code_42 26 rfl rfl rfl)
theorem d_Lw_law_1371 : decode code 1371 = .ok (.aload_n 3, 1) := zo_45 (zd_b zq_code_42 27 rfl rfl rfl)
theorem d_Lw_law_1372 : decode code 1372 = .ok (.invokestatic 282, 3) := zo_184 (d := 1) (e := 26) (zd_b zq_code_42 28 rfl rfl rfl) (zd_b zq_code_42 29 rfl rfl rfl) (zd_b zq_code_42 30 rfl rfl rfl)
theorem ok_Lw_law_Lw_cheapest : z_okX M_Lw_law M_Lw_cheapest 3 := ⟨z_mj5 (i := 200) rfl (by decide +kernel), by decide, ⟨by decide +kernel, by decide +kernel, by decide +kernel⟩, ⟨by decide, by decide⟩, z_mj1 (i := 0) rfl (by decide +kernel), rfl⟩
theorem ln_Lw_282 : Cond.methodLink "IronpourLaw" 282 M_Lw_cheapest.1 ∈ z_gw := z_mj5 (i := 198) rfl (by decide +kernel)
theorem w_st_Lw_cheapest : Cond.static M_Lw_cheapest.1 ∈ z_gw := z_mj5 (i := 199) rfl (by decide +kernel)
theorem d_Lw_law_1375 : decode code 1375 = .ok (.istore 6, 2) := zo_54 (d := 6) (zd_b zq_code_42 31 rfl rfl rfl) (zd_b zq_code_43 0 rfl rfl rfl)
theorem d_Lw_law_1377 : decode code 1377 = .ok (.aload_n 2, 1) := zo_44 (zd_b zq_code_43 1 rfl rfl rfl)
theorem d_Lw_law_1378 : decode code 1378 = .ok (.aload_n 0, 1) := zo_42 (zd_b zq_code_43 2 rfl rfl rfl)
theorem d_Lw_law_1379 : decode code 1379 = .ok (.iload 5, 2) := zo_21 (d := 5) (zd_b zq_code_43 3 rfl rfl rfl) (zd_b zq_code_43 4 rfl rfl rfl)
theorem d_Lw_law_1381 : decode code 1381 = .ok (.iconst 1, 1) := zo_4 (zd_b zq_code_43 5 rfl rfl rfl)
theorem d_Lw_law_1382 : decode code 1382 = .ok (.iadd, 1) := zo_96 (zd_b zq_code_43 6 rfl rfl rfl)
theorem d_Lw_law_1383 : decode code 1383 = .ok (.iaload, 1) := zo_46 (zd_b zq_code_43 7 rfl rfl rfl)
theorem d_Lw_law_1384 : decode code 1384 = .ok (.i2c, 1) := zo_146 (zd_b zq_code_43 8 rfl rfl rfl)
theorem d_Lw_law_1385 : decode code 1385 = .ok (.invokevirtual 284, 3) := zo_182 (d := 1) (e := 28) (zd_b zq_code_43 9 rfl rfl rfl) (zd_b zq_code_43 10 rfl rfl rfl) (zd_b zq_code_43 11 rfl rfl rfl)
theorem ok_Lw_law_Mm_cheapest : z_ok M_Lw_law M_Mm_cheapest 1 := ⟨z_mj8 (i := 218) rfl (by decide +kernel), rfl, ⟨by decide +kernel, by decide +kernel, by decide +kernel⟩, ⟨by decide, by decide⟩, z_mj1 (i := 14) rfl (by decide +kernel), rfl⟩
theorem ln_Lw_284 : Cond.methodLink "IronpourLaw" 284 M_Mm_cheapest.1 ∈ z_gw := z_mj8 (i := 215) rfl (by decide +kernel)
theorem w_im_Mm_cheapest : Cond.instanceMethod M_Mm_cheapest.1 ∈ z_gw := z_mj8 (i := 216) rfl (by decide +kernel)
theorem w_se_Mm_cheapest : Cond.selects M_Mm_cheapest.1.cls M_Mm_cheapest.1 M_Mm_cheapest.1 ∈ z_gw := z_mj8 (i := 217) rfl (by decide +kernel)
theorem d_Lw_law_1388 : decode code 1388 = .ok (.istore 7, 2) := zo_54 (d := 7) (zd_b zq_code_43 12 rfl rfl rfl) (zd_b zq_code_43 13 rfl rfl rfl)
theorem d_Lw_law_1390 : decode code 1390 = .ok (.goto 418, 3) := zo_167 (d := 1) (e := 162) (zd_b zq_code_43 14 rfl rfl rfl) (zd_b zq_code_43 15 rfl rfl rfl) (zd_b zq_code_43 16 rfl rfl rfl) (by decide +kernel)
set_option maxHeartbeats 4000000 in
set_option maxRecDepth 100000 in
theorem LC_cheapest {g : zG} {ad : Nat → Nat} {t : zTT} {u : zNN} {w : zW} {j : Nat} (hI : IVm g ad t u w) (hR : REL t u.1 (48 * j)) {r : Nat} (hJ : 7 * j + 7 ≤ g.2.2 41) (hL : g.2.2 41 ≤ 3584) (ih : LWI g ad j r) : DW g M_Lw_law lwQ w 1363 [(5, .int (nI (7 * j))), (4, .ref (ad 70)), (3, .ref (ad 69)), (2, .ref (ad 52)), (1, .ref (ad 0)), (0, .ref (g.2.2 40))] [] (100 * (r + 1)) (1000 * (r + 1)) := by
  refine y_base (cs := []) (z_I.nil w) ?_
  refine y_aload_n d_Lw_law_1363 rfl 4 rfl ?_
  refine y_aload_n d_Lw_law_1364 rfl 5 rfl ?_
  refine y_iload d_Lw_law_1365 0 rfl ?_
  refine y_iconst d_Lw_law_1367 (v := 1) (by decide) ?_
  refine y_iadd d_Lw_law_1368 (v := nI ((7 * j) + 1)) (nI_add _ _) ?_
  refine y_sld (v := zs g (7 * j + 1)) d_Lw_law_1369 (vp_in_nI (by omega) (by omega)) (by rw [nI_clamp (by omega)]; rfl) ?_
  refine y_i2c d_Lw_law_1370 (v := zc g (7 * j + 1)) rfl ?_
  refine y_aload_n d_Lw_law_1371 rfl 2 rfl ?_
  refine yw_callSX (As := [.ref (ad 0), .int (zc g (7 * j + 1)), .ref (ad 69)]) (rest := []) ln_Lw_282 w_st_Lw_cheapest ok_Lw_law_Lw_cheapest d_Lw_law_1372 (fun wA hA => W_cheapest (IVm.nil hA hI) _) rfl rfl (Nat.le_of_ble_eq_true rfl) (by omega) (by omega) (fun wA1372 hA1372 E wB1372 hx => ?_) (fun wA1372 hA1372 v wB1372 hx => ?_)
  · obtain ⟨⟨v9, e1⟩, -⟩ := hx
    cases e1
  · obtain ⟨⟨v9, e1⟩, uC, huC, hI2⟩ := hx
    cases e1
    refine yw_st (st2 := [.int v9]) rfl ?_
    have hI := hI2
    refine y_base (cs := []) (z_I.nil _) ?_
    refine y_istore (lv' := [(6, .int v9), (5, .int (nI (7 * j))), (4, .ref (ad 70)), (3, .ref (ad 69)), (2, .ref (ad 52)), (1, .ref (ad 0)), (0, .ref (g.2.2 40))]) d_Lw_law_1375 (by decide) rfl ?_
    refine y_aload_n d_Lw_law_1377 rfl 4 rfl ?_
    refine y_aload_n d_Lw_law_1378 rfl 6 rfl ?_
    refine y_iload d_Lw_law_1379 1 rfl ?_
    refine y_iconst d_Lw_law_1381 (v := 1) (by decide) ?_
    refine y_iadd d_Lw_law_1382 (v := nI ((7 * j) + 1)) (nI_add _ _) ?_
    refine y_sld (v := zs g (7 * j + 1)) d_Lw_law_1383 (vp_in_nI (by omega) (by omega)) (by rw [nI_clamp (by omega)]; rfl) ?_
    refine y_i2c d_Lw_law_1384 (v := zc g (7 * j + 1)) rfl ?_
    refine yw_callVL (As := [.int (zc g (7 * j + 1))]) (rest := []) (ci := 12) rfl (fun wA hA => (IVm.nil hA hI).rm) ln_Lw_284 w_im_Mm_cheapest w_se_Mm_cheapest ok_Lw_law_Mm_cheapest d_Lw_law_1385 (fun wA hA => K_Mm_cheapest (IVm.nil hA hI) _) rfl rfl (Nat.le_of_ble_eq_true rfl) (by omega) (by omega) (fun wA1385 hA1385 E wB1385 hx => ?_) (fun wA1385 hA1385 v wB1385 hx => ?_)
    · obtain ⟨⟨v8, e1⟩, -⟩ := hx
      cases e1
    · obtain ⟨⟨v8, e1⟩, uM, huM, hI2⟩ := hx
      cases e1
      refine yw_st (st2 := [.int v8]) rfl ?_
      have hI := hI2
      refine y_base (cs := []) (z_I.nil _) ?_
      refine y_istore (lv' := [(7, .int v8), (6, .int v9), (5, .int (nI (7 * j))), (4, .ref (ad 70)), (3, .ref (ad 69)), (2, .ref (ad 52)), (1, .ref (ad 0)), (0, .ref (g.2.2 40))]) d_Lw_law_1388 (by decide) rfl ?_
      refine y_goto (tgt := 1808) d_Lw_law_1390 (by decide) ?_
      refine y_lv (lv' := [(5, .int (nI (7 * j))), (4, .ref (ad 70)), (3, .ref (ad 69)), (2, .ref (ad 52)), (1, .ref (ad 0)), (0, .ref (g.2.2 40))]) [2, 3, 4, 5, 6, 7] rfl ?_
      refine y_end (fun wC hC => ?_)
      exact LC_next (IVm.nil hC hI) ((hR.n (huM.trans huC)).up (by omega)) hJ hL ih (by omega) (by omega)
theorem d_Lw_law_1393 : decode code 1393 = .ok (.aload_n 1, 1) := zo_43 (zd_b zq_code_43 17 rfl rfl rfl)
theorem d_Lw_law_1394 : decode code 1394 = .ok (.aload_n 3, 1) := zo_45 (zd_b zq_code_43 18 rfl rfl rfl)
theorem d_Lw_law_1395 : decode code 1395 = .ok (.invokestatic 285, 3) := zo_184 (d := 1) (e := 29) (zd_b zq_code_43 19 rfl rfl rfl) (zd_b zq_code_43 20 rfl rfl rfl) (zd_b zq_code_43 21 rfl rfl rfl)
theorem ok_Lw_law_Lw_mould : z_okX M_Lw_law M_Lw_mould 2 := ⟨z_mj5 (i := 214) rfl (by decide +kernel), by decide, ⟨by decide +kernel, by decide +kernel, by decide +kernel⟩, ⟨by decide, by decide⟩, z_mj1 (i := 0) rfl (by decide +kernel), rfl⟩
theorem ln_Lw_285 : Cond.methodLink "IronpourLaw" 285 M_Lw_mould.1 ∈ z_gw := z_mj5 (i := 212) rfl (by decide +kernel)
theorem w_st_Lw_mould : Cond.static M_Lw_mould.1 ∈ z_gw := z_mj5 (i := 213) rfl (by decide +kernel)
theorem d_Lw_law_1398 : decode code 1398 = .ok (.istore 6, 2) := zo_54 (d := 6) (zd_b zq_code_43 22 rfl rfl rfl) (zd_b zq_code_43 23 rfl rfl rfl)
theorem d_Lw_law_1400 : decode code 1400 = .ok (.aload_n 2, 1) := zo_44 (zd_b zq_code_43 24 rfl rfl rfl)
theorem d_Lw_law_1401 : decode code 1401 = .ok (.invokevirtual 287, 3) := zo_182 (d := 1) (e := 31) (zd_b zq_code_43 25 rfl rfl rfl) (zd_b zq_code_43 26 rfl rfl rfl) (zd_b zq_code_43 27 rfl rfl rfl)
theorem ok_Lw_law_Mm_mould : z_ok M_Lw_law M_Mm_mould 0 := ⟨z_mj8 (i := 223) rfl (by decide +kernel), rfl, ⟨by decide +kernel, by decide +kernel, by decide +kernel⟩, ⟨by decide, by decide⟩, z_mj1 (i := 14) rfl (by decide +kernel), rfl⟩
theorem ln_Lw_287 : Cond.methodLink "IronpourLaw" 287 M_Mm_mould.1 ∈ z_gw := z_mj8 (i := 220) rfl (by decide +kernel)
theorem w_im_Mm_mould : Cond.instanceMethod M_Mm_mould.1 ∈ z_gw := z_mj8 (i := 221) rfl (by decide +kernel)
theorem w_se_Mm_mould : Cond.selects M_Mm_mould.1.cls M_Mm_mould.1 M_Mm_mould.1 ∈ z_gw := z_mj8 (i := 222) rfl (by decide +kernel)
theorem d_Lw_law_1404 : decode code 1404 = .ok (.istore 7, 2) := zo_54 (d := 7) (zd_b zq_code_43 28 rfl rfl rfl) (zd_b zq_code_43 29 rfl rfl rfl)
theorem d_Lw_law_1406 : decode code 1406 = .ok (.goto 402, 3) := zo_167 (d := 1) (e := 146) (zd_b zq_code_43 30 rfl rfl rfl) (zd_b zq_code_43 31 rfl rfl rfl) (zd_b zq_code_44 0 rfl rfl rfl) (by decide +kernel)
set_option maxHeartbeats 4000000 in
set_option maxRecDepth 100000 in
theorem LC_mould {g : zG} {ad : Nat → Nat} {t : zTT} {u : zNN} {w : zW} {j : Nat} (hI : IVm g ad t u w) (hR : REL t u.1 (48 * j)) {r : Nat} (hJ : 7 * j + 7 ≤ g.2.2 41) (hL : g.2.2 41 ≤ 3584) (ih : LWI g ad j r) : DW g M_Lw_law lwQ w 1393 [(5, .int (nI (7 * j))), (4, .ref (ad 70)), (3, .ref (ad 69)), (2, .ref (ad 52)), (1, .ref (ad 0)), (0, .ref (g.2.2 40))] [] (100 * (r + 1)) (1000 * (r + 1)) := by
  refine y_base (cs := []) (z_I.nil w) ?_
  refine y_aload_n d_Lw_law_1393 rfl 4 rfl ?_
  refine y_aload_n d_Lw_law_1394 rfl 2 rfl ?_
  refine yw_callSX (As := [.ref (ad 0), .ref (ad 69)]) (rest := []) ln_Lw_285 w_st_Lw_mould ok_Lw_law_Lw_mould d_Lw_law_1395 (fun wA hA => W_mould (IVm.nil hA hI)) rfl rfl (Nat.le_of_ble_eq_true rfl) (by omega) (by omega) (fun wA1395 hA1395 E wB1395 hx => ?_) (fun wA1395 hA1395 v wB1395 hx => ?_)
  · obtain ⟨⟨v9, e1⟩, -⟩ := hx
    cases e1
  · obtain ⟨⟨v9, e1⟩, uC, huC, hI2⟩ := hx
    cases e1
    refine yw_st (st2 := [.int v9]) rfl ?_
    have hI := hI2
    refine y_base (cs := []) (z_I.nil _) ?_
    refine y_istore (lv' := [(6, .int v9), (5, .int (nI (7 * j))), (4, .ref (ad 70)), (3, .ref (ad 69)), (2, .ref (ad 52)), (1, .ref (ad 0)), (0, .ref (g.2.2 40))]) d_Lw_law_1398 (by decide) rfl ?_
    refine y_aload_n d_Lw_law_1400 rfl 4 rfl ?_
    refine yw_callVL (As := []) (rest := []) (ci := 12) rfl (fun wA hA => (IVm.nil hA hI).rm) ln_Lw_287 w_im_Mm_mould w_se_Mm_mould ok_Lw_law_Mm_mould d_Lw_law_1401 (fun wA hA => K_Mm_mould (IVm.nil hA hI)) rfl rfl (Nat.le_of_ble_eq_true rfl) (by omega) (by omega) (fun wA1401 hA1401 E wB1401 hx => ?_) (fun wA1401 hA1401 v wB1401 hx => ?_)
    · obtain ⟨⟨v8, e1⟩, -⟩ := hx
      cases e1
    · obtain ⟨⟨v8, e1⟩, uM, huM, hI2⟩ := hx
      cases e1
      refine yw_st (st2 := [.int v8]) rfl ?_
      have hI := hI2
      refine y_base (cs := []) (z_I.nil _) ?_
      refine y_istore (lv' := [(7, .int v8), (6, .int v9), (5, .int (nI (7 * j))), (4, .ref (ad 70)), (3, .ref (ad 69)), (2, .ref (ad 52)), (1, .ref (ad 0)), (0, .ref (g.2.2 40))]) d_Lw_law_1404 (by decide) rfl ?_
      refine y_goto (tgt := 1808) d_Lw_law_1406 (by decide) ?_
      refine y_lv (lv' := [(5, .int (nI (7 * j))), (4, .ref (ad 70)), (3, .ref (ad 69)), (2, .ref (ad 52)), (1, .ref (ad 0)), (0, .ref (g.2.2 40))]) [2, 3, 4, 5, 6, 7] rfl ?_
      refine y_end (fun wC hC => ?_)
      exact LC_next (IVm.nil hC hI) ((R_mould (by omega) hR huC huM).up (by omega)) hJ hL ih (by omega) (by omega)
theorem d_Lw_law_1465 : decode code 1465 = .ok (.aload_n 1, 1) := zo_43 (zd_b zq_code_45 25 rfl rfl rfl)
theorem d_Lw_law_1466 : decode code 1466 = .ok (.aload_n 3, 1) := zo_45 (zd_b zq_code_45 26 rfl rfl rfl)
theorem d_Lw_law_1467 : decode code 1467 = .ok (.invokestatic 294, 3) := zo_184 (d := 1) (e := 38) (zd_b zq_code_45 27 rfl rfl rfl) (zd_b zq_code_45 28 rfl rfl rfl) (zd_b zq_code_45 29 rfl rfl rfl)
theorem ok_Lw_law_Lw_pour : z_okX M_Lw_law M_Lw_pour 2 := ⟨z_mj6 (i := 107) rfl (by decide +kernel), by decide, ⟨by decide +kernel, by decide +kernel, by decide +kernel⟩, ⟨by decide, by decide⟩, z_mj1 (i := 0) rfl (by decide +kernel), rfl⟩
theorem ln_Lw_294 : Cond.methodLink "IronpourLaw" 294 M_Lw_pour.1 ∈ z_gw := z_mj6 (i := 105) rfl (by decide +kernel)
theorem w_st_Lw_pour : Cond.static M_Lw_pour.1 ∈ z_gw := z_mj6 (i := 106) rfl (by decide +kernel)
theorem d_Lw_law_1470 : decode code 1470 = .ok (.istore 6, 2) := zo_54 (d := 6) (zd_b zq_code_45 30 rfl rfl rfl) (zd_b zq_code_45 31 rfl rfl rfl)
theorem d_Lw_law_1472 : decode code 1472 = .ok (.aload_n 2, 1) := zo_44 (zd_b zq_code_46 0 rfl rfl rfl)
theorem d_Lw_law_1473 : decode code 1473 = .ok (.invokevirtual 296, 3) := zo_182 (d := 1) (e := 40) (zd_b zq_code_46 1 rfl rfl rfl) (zd_b zq_code_46 2 rfl rfl rfl) (zd_b zq_code_46 3 rfl rfl rfl)
theorem ok_Lw_law_Mm_pour : z_ok M_Lw_law M_Mm_pour 0 := ⟨z_mj8 (i := 239) rfl (by decide +kernel), rfl, ⟨by decide +kernel, by decide +kernel, by decide +kernel⟩, ⟨by decide, by decide⟩, z_mj1 (i := 14) rfl (by decide +kernel), rfl⟩
theorem ln_Lw_296 : Cond.methodLink "IronpourLaw" 296 M_Mm_pour.1 ∈ z_gw := z_mj8 (i := 236) rfl (by decide +kernel)
theorem w_im_Mm_pour : Cond.instanceMethod M_Mm_pour.1 ∈ z_gw := z_mj8 (i := 237) rfl (by decide +kernel)
theorem w_se_Mm_pour : Cond.selects M_Mm_pour.1.cls M_Mm_pour.1 M_Mm_pour.1 ∈ z_gw := z_mj8 (i := 238) rfl (by decide +kernel)
theorem d_Lw_law_1476 : decode code 1476 = .ok (.istore 7, 2) := zo_54 (d := 7) (zd_b zq_code_46 4 rfl rfl rfl) (zd_b zq_code_46 5 rfl rfl rfl)
theorem d_Lw_law_1478 : decode code 1478 = .ok (.goto 330, 3) := zo_167 (d := 1) (e := 74) (zd_b zq_code_46 6 rfl rfl rfl) (zd_b zq_code_46 7 rfl rfl rfl) (zd_b zq_code_46 8 rfl rfl rfl) (by decide +kernel)
set_option maxHeartbeats 4000000 in
set_option maxRecDepth 100000 in
theorem LC_pour {g : zG} {ad : Nat → Nat} {t : zTT} {u : zNN} {w : zW} {j : Nat} (hI : IVm g ad t u w) (hR : REL t u.1 (48 * j)) {r : Nat} (hJ : 7 * j + 7 ≤ g.2.2 41) (hL : g.2.2 41 ≤ 3584) (ih : LWI g ad j r) : DW g M_Lw_law lwQ w 1465 [(5, .int (nI (7 * j))), (4, .ref (ad 70)), (3, .ref (ad 69)), (2, .ref (ad 52)), (1, .ref (ad 0)), (0, .ref (g.2.2 40))] [] (100 * (r + 1)) (1000 * (r + 1)) := by
  have hI0 := hI
  refine y_base (cs := []) (z_I.nil w) ?_
  refine y_aload_n d_Lw_law_1465 rfl 4 rfl ?_
  refine y_aload_n d_Lw_law_1466 rfl 2 rfl ?_
  refine yw_callSX (As := [.ref (ad 0), .ref (ad 69)]) (rest := []) ln_Lw_294 w_st_Lw_pour ok_Lw_law_Lw_pour d_Lw_law_1467 (fun wA hA => W_pour (IVm.nil hA hI)) rfl rfl (Nat.le_of_ble_eq_true rfl) (by omega) (by omega) (fun wA1467 hA1467 E wB1467 hx => ?_) (fun wA1467 hA1467 v wB1467 hx => ?_)
  · obtain ⟨X9, ⟨v9, e1⟩, -⟩ := hx
    cases e1
  · obtain ⟨X9, ⟨v9, e1⟩, uC, huC, hI2⟩ := hx
    cases e1
    refine yw_st (st2 := [.int v9]) rfl ?_
    have hI := hI2
    refine y_base (cs := []) (z_I.nil _) ?_
    refine y_istore (lv' := [(6, .int v9), (5, .int (nI (7 * j))), (4, .ref (ad 70)), (3, .ref (ad 69)), (2, .ref (ad 52)), (1, .ref (ad 0)), (0, .ref (g.2.2 40))]) d_Lw_law_1470 (by decide) rfl ?_
    refine y_aload_n d_Lw_law_1472 rfl 4 rfl ?_
    refine yw_callVL (As := []) (rest := []) (ci := 12) rfl (fun wA hA => (IVm.nil hA hI).rm) ln_Lw_296 w_im_Mm_pour w_se_Mm_pour ok_Lw_law_Mm_pour d_Lw_law_1473 (fun wA hA => K_Mm_pour (IVm.nil hA hI)) rfl rfl (Nat.le_of_ble_eq_true rfl) (by omega) (by omega) (fun wA1473 hA1473 E wB1473 hx => ?_) (fun wA1473 hA1473 v wB1473 hx => ?_)
    · obtain ⟨S9, ⟨v8, e1⟩, -⟩ := hx
      cases e1
    · obtain ⟨S9, ⟨v8, e1⟩, uM, huM, hI2⟩ := hx
      cases e1
      refine yw_st (st2 := [.int v8]) rfl ?_
      have hI := hI2
      refine y_base (cs := []) (z_I.nil _) ?_
      refine y_istore (lv' := [(7, .int v8), (6, .int v9), (5, .int (nI (7 * j))), (4, .ref (ad 70)), (3, .ref (ad 69)), (2, .ref (ad 52)), (1, .ref (ad 0)), (0, .ref (g.2.2 40))]) d_Lw_law_1476 (by decide) rfl ?_
      refine y_goto (tgt := 1808) d_Lw_law_1478 (by decide) ?_
      refine y_lv (lv' := [(5, .int (nI (7 * j))), (4, .ref (ad 70)), (3, .ref (ad 69)), (2, .ref (ad 52)), (1, .ref (ad 0)), (0, .ref (g.2.2 40))]) [2, 3, 4, 5, 6, 7] rfl ?_
      refine y_end (fun wC hC => ?_)
      exact LC_next (IVm.nil hC hI) ((R_pour (fun q => IVm.px hI0 q) hR huC huM).up (by omega)) hJ hL ih (by omega) (by omega)
theorem d_Lw_law_1481 : decode code 1481 = .ok (.aload_n 1, 1) := zo_43 (zd_b zq_code_46 9 rfl rfl rfl)
theorem d_Lw_law_1482 : decode code 1482 = .ok (.invokevirtual 297, 3) := zo_182 (d := 1) (e := 41) (zd_b zq_code_46 10 rfl rfl rfl) (zd_b zq_code_46 11 rfl rfl rfl) (zd_b zq_code_46 12 rfl rfl rfl)
theorem ok_Lw_law_Ip_castings : z_ok M_Lw_law M_Ip_castings 0 := ⟨z_mj2 (i := 168) rfl (by decide +kernel), rfl, ⟨by decide +kernel, by decide +kernel, by decide +kernel⟩, ⟨by decide, by decide⟩, z_mj1 (i := 1) rfl (by decide +kernel), rfl⟩
theorem ln_Lw_297 : Cond.methodLink "IronpourLaw" 297 M_Ip_castings.1 ∈ z_gw := z_mj2 (i := 165) rfl (by decide +kernel)
theorem w_im_Ip_castings : Cond.instanceMethod M_Ip_castings.1 ∈ z_gw := z_mj2 (i := 166) rfl (by decide +kernel)
theorem w_se_Ip_castings : Cond.selects M_Ip_castings.1.cls M_Ip_castings.1 M_Ip_castings.1 ∈ z_gw := z_mj2 (i := 167) rfl (by decide +kernel)
theorem d_Lw_law_1485 : decode code 1485 = .ok (.pop, 1) := zo_87 (zd_b zq_code_46 13 rfl rfl rfl)
theorem d_Lw_law_1486 : decode code 1486 = .ok (.aload_n 2, 1) := zo_44 (zd_b zq_code_46 14 rfl rfl rfl)
theorem d_Lw_law_1487 : decode code 1487 = .ok (.invokevirtual 300, 3) := zo_182 (d := 1) (e := 44) (zd_b zq_code_46 15 rfl rfl rfl) (zd_b zq_code_46 16 rfl rfl rfl) (zd_b zq_code_46 17 rfl rfl rfl)
theorem ok_Lw_law_Mm_castings : z_ok M_Lw_law M_Mm_castings 0 := ⟨z_mj9 (i := 9) rfl (by decide +kernel), rfl, ⟨by decide +kernel, by decide +kernel, by decide +kernel⟩, ⟨by decide, by decide⟩, z_mj1 (i := 14) rfl (by decide +kernel), rfl⟩
theorem ln_Lw_300 : Cond.methodLink "IronpourLaw" 300 M_Mm_castings.1 ∈ z_gw := z_mj9 (i := 6) rfl (by decide +kernel)
theorem w_im_Mm_castings : Cond.instanceMethod M_Mm_castings.1 ∈ z_gw := z_mj9 (i := 7) rfl (by decide +kernel)
theorem w_se_Mm_castings : Cond.selects M_Mm_castings.1.cls M_Mm_castings.1 M_Mm_castings.1 ∈ z_gw := z_mj9 (i := 8) rfl (by decide +kernel)
theorem d_Lw_law_1490 : decode code 1490 = .ok (.pop, 1) := zo_87 (zd_b zq_code_46 18 rfl rfl rfl)
theorem d_Lw_law_1491 : decode code 1491 = .ok (.goto 317, 3) := zo_167 (d := 1) (e := 61) (zd_b zq_code_46 19 rfl rfl rfl) (zd_b zq_code_46 20 rfl rfl rfl) (zd_b zq_code_46 21 rfl rfl rfl) (by decide +kernel)
set_option maxHeartbeats 4000000 in
set_option maxRecDepth 100000 in
theorem LC_castings {g : zG} {ad : Nat → Nat} {t : zTT} {u : zNN} {w : zW} {j : Nat} (hI : IVm g ad t u w) (hR : REL t u.1 (48 * j)) {r : Nat} (hJ : 7 * j + 7 ≤ g.2.2 41) (hL : g.2.2 41 ≤ 3584) (ih : LWI g ad j r) : DW g M_Lw_law lwQ w 1481 [(5, .int (nI (7 * j))), (4, .ref (ad 70)), (3, .ref (ad 69)), (2, .ref (ad 52)), (1, .ref (ad 0)), (0, .ref (g.2.2 40))] [] (100 * (r + 1)) (1000 * (r + 1)) := by
  refine y_base (cs := []) (z_I.nil w) ?_
  refine y_aload_n d_Lw_law_1481 rfl 4 rfl ?_
  refine yw_callVL (As := []) (rest := []) (ci := 11) rfl (fun wA hA => (IVm.nil hA hI).ra) ln_Lw_297 w_im_Ip_castings w_se_Ip_castings ok_Lw_law_Ip_castings d_Lw_law_1482 (fun wA hA => K_Ip_castings (IVm.nil hA hI)) rfl rfl (Nat.le_of_ble_eq_true rfl) (by omega) (by omega) (fun wA1482 hA1482 E wB1482 hx => ?_) (fun wA1482 hA1482 v wB1482 hx => ?_)
  · obtain ⟨h1, -⟩ := hx
    cases zriE h1
  · obtain ⟨h1, uC, huC, hI2⟩ := hx
    obtain ⟨v9, rfl⟩ := zriV h1
    refine yw_st (st2 := [.int v9]) rfl ?_
    have hI := hI2
    refine y_base (cs := []) (z_I.nil _) ?_
    refine y_pop d_Lw_law_1485 rfl ?_
    refine y_aload_n d_Lw_law_1486 rfl 3 rfl ?_
    refine yw_callVL (As := []) (rest := []) (ci := 12) rfl (fun wA hA => (IVm.nil hA hI).rm) ln_Lw_300 w_im_Mm_castings w_se_Mm_castings ok_Lw_law_Mm_castings d_Lw_law_1487 (fun wA hA => K_Mm_castings (IVm.nil hA hI)) rfl rfl (Nat.le_of_ble_eq_true rfl) (by omega) (by omega) (fun wA1487 hA1487 E wB1487 hx => ?_) (fun wA1487 hA1487 v wB1487 hx => ?_)
    · obtain ⟨⟨v8, e1⟩, -⟩ := hx
      cases e1
    · obtain ⟨⟨v8, e1⟩, uM, huM, hI2⟩ := hx
      cases e1
      refine yw_st (st2 := [.int v8]) rfl ?_
      have hI := hI2
      refine y_base (cs := []) (z_I.nil _) ?_
      refine y_pop d_Lw_law_1490 rfl ?_
      refine y_goto (tgt := 1808) d_Lw_law_1491 (by decide) ?_
      refine y_lv (lv' := [(5, .int (nI (7 * j))), (4, .ref (ad 70)), (3, .ref (ad 69)), (2, .ref (ad 52)), (1, .ref (ad 0)), (0, .ref (g.2.2 40))]) [0, 1, 2, 3, 4, 5] rfl ?_
      refine y_end (fun wC hC => ?_)
      exact LC_next (IVm.nil hC hI) ((hR.n (huM.trans huC)).up (by omega)) hJ hL ih (by omega) (by omega)
theorem d_Lw_law_1494 : decode code 1494 = .ok (.aload_n 1, 1) := zo_43 (zd_b zq_code_46 22 rfl rfl rfl)
theorem d_Lw_law_1495 : decode code 1495 = .ok (.aload_n 0, 1) := zo_42 (zd_b zq_code_46 23 rfl rfl rfl)
theorem d_Lw_law_1496 : decode code 1496 = .ok (.iload 5, 2) := zo_21 (d := 5) (zd_b zq_code_46 24 rfl rfl rfl) (zd_b zq_code_46 25 rfl rfl rfl)
theorem d_Lw_law_1498 : decode code 1498 = .ok (.iconst 1, 1) := zo_4 (zd_b zq_code_46 26 rfl rfl rfl)
theorem d_Lw_law_1499 : decode code 1499 = .ok (.iadd, 1) := zo_96 (zd_b zq_code_46 27 rfl rfl rfl)
theorem d_Lw_law_1500 : decode code 1500 = .ok (.iaload, 1) := zo_46 (zd_b zq_code_46 28 rfl rfl rfl)
theorem d_Lw_law_1501 : decode code 1501 = .ok (.aload_n 3, 1) := zo_45 (zd_b zq_code_46 29 rfl rfl rfl)
theorem d_Lw_law_1502 : decode code 1502 = .ok (.invokestatic 301, 3) := zo_184 (d := 1) (e := 45) (zd_b zq_code_46 30 rfl rfl rfl) (zd_b zq_code_46 31 rfl rfl rfl) (zd_b zq_code_47 0 rfl rfl rfl)
theorem ok_Lw_law_Lw_alloy : z_okX M_Lw_law M_Lw_alloy 3 := ⟨z_mj6 (i := 185) rfl (by decide +kernel), by decide, ⟨by decide +kernel, by decide +kernel, by decide +kernel⟩, ⟨by decide, by decide⟩, z_mj1 (i := 0) rfl (by decide +kernel), rfl⟩
theorem ln_Lw_301 : Cond.methodLink "IronpourLaw" 301 M_Lw_alloy.1 ∈ z_gw := z_mj6 (i := 183) rfl (by decide +kernel)
theorem w_st_Lw_alloy : Cond.static M_Lw_alloy.1 ∈ z_gw := z_mj6 (i := 184) rfl (by decide +kernel)
theorem d_Lw_law_1505 : decode code 1505 = .ok (.istore 6, 2) := zo_54 (d := 6) (zd_b zq_code_47 1 rfl rfl rfl) (zd_b zq_code_47 2 rfl rfl rfl)
theorem d_Lw_law_1507 : decode code 1507 = .ok (.aload_n 2, 1) := zo_44 (zd_b zq_code_47 3 rfl rfl rfl)
theorem d_Lw_law_1508 : decode code 1508 = .ok (.aload_n 0, 1) := zo_42 (zd_b zq_code_47 4 rfl rfl rfl)
theorem d_Lw_law_1509 : decode code 1509 = .ok (.iload 5, 2) := zo_21 (d := 5) (zd_b zq_code_47 5 rfl rfl rfl) (zd_b zq_code_47 6 rfl rfl rfl)
theorem d_Lw_law_1511 : decode code 1511 = .ok (.iconst 1, 1) := zo_4 (zd_b zq_code_47 7 rfl rfl rfl)
theorem d_Lw_law_1512 : decode code 1512 = .ok (.iadd, 1) := zo_96 (zd_b zq_code_47 8 rfl rfl rfl)
theorem d_Lw_law_1513 : decode code 1513 = .ok (.iaload, 1) := zo_46 (zd_b zq_code_47 9 rfl rfl rfl)
theorem d_Lw_law_1514 : decode code 1514 = .ok (.invokevirtual 303, 3) := zo_182 (d := 1) (e := 47) (zd_b zq_code_47 10 rfl rfl rfl) (zd_b zq_code_47 11 rfl rfl rfl) (zd_b zq_code_47 12 rfl rfl rfl)
theorem ok_Lw_law_Mm_alloy : z_ok M_Lw_law M_Mm_alloy 1 := ⟨z_mj9 (i := 13) rfl (by decide +kernel), rfl, ⟨by decide +kernel, by decide +kernel, by decide +kernel⟩, ⟨by decide, by decide⟩, z_mj1 (i := 14) rfl (by decide +kernel), rfl⟩
theorem ln_Lw_303 : Cond.methodLink "IronpourLaw" 303 M_Mm_alloy.1 ∈ z_gw := z_mj9 (i := 10) rfl (by decide +kernel)
theorem w_im_Mm_alloy : Cond.instanceMethod M_Mm_alloy.1 ∈ z_gw := z_mj9 (i := 11) rfl (by decide +kernel)
theorem w_se_Mm_alloy : Cond.selects M_Mm_alloy.1.cls M_Mm_alloy.1 M_Mm_alloy.1 ∈ z_gw := z_mj9 (i := 12) rfl (by decide +kernel)
theorem d_Lw_law_1517 : decode code 1517 = .ok (.istore 7, 2) := zo_54 (d := 7) (zd_b zq_code_47 13 rfl rfl rfl) (zd_b zq_code_47 14 rfl rfl rfl)
theorem d_Lw_law_1519 : decode code 1519 = .ok (.goto 289, 3) := zo_167 (d := 1) (e := 33) (zd_b zq_code_47 15 rfl rfl rfl) (zd_b zq_code_47 16 rfl rfl rfl) (zd_b zq_code_47 17 rfl rfl rfl) (by decide +kernel)
set_option maxHeartbeats 4000000 in
set_option maxRecDepth 100000 in
theorem LC_alloy {g : zG} {ad : Nat → Nat} {t : zTT} {u : zNN} {w : zW} {j : Nat} (hI : IVm g ad t u w) (hR : REL t u.1 (48 * j)) {r : Nat} (hJ : 7 * j + 7 ≤ g.2.2 41) (hL : g.2.2 41 ≤ 3584) (ih : LWI g ad j r) : DW g M_Lw_law lwQ w 1494 [(5, .int (nI (7 * j))), (4, .ref (ad 70)), (3, .ref (ad 69)), (2, .ref (ad 52)), (1, .ref (ad 0)), (0, .ref (g.2.2 40))] [] (100 * (r + 1)) (1000 * (r + 1)) := by
  refine y_base (cs := []) (z_I.nil w) ?_
  refine y_aload_n d_Lw_law_1494 rfl 4 rfl ?_
  refine y_aload_n d_Lw_law_1495 rfl 5 rfl ?_
  refine y_iload d_Lw_law_1496 0 rfl ?_
  refine y_iconst d_Lw_law_1498 (v := 1) (by decide) ?_
  refine y_iadd d_Lw_law_1499 (v := nI ((7 * j) + 1)) (nI_add _ _) ?_
  refine y_sld (v := zs g (7 * j + 1)) d_Lw_law_1500 (vp_in_nI (by omega) (by omega)) (by rw [nI_clamp (by omega)]; rfl) ?_
  refine y_aload_n d_Lw_law_1501 rfl 2 rfl ?_
  refine yw_callSX (As := [.ref (ad 0), .int (zs g (7 * j + 1)), .ref (ad 69)]) (rest := []) ln_Lw_301 w_st_Lw_alloy ok_Lw_law_Lw_alloy d_Lw_law_1502 (fun wA hA => W_alloy (IVm.nil hA hI) _) rfl rfl (Nat.le_of_ble_eq_true rfl) (by omega) (by omega) (fun wA1502 hA1502 E wB1502 hx => ?_) (fun wA1502 hA1502 v wB1502 hx => ?_)
  · obtain ⟨⟨v9, e1⟩, -⟩ := hx
    cases e1
  · obtain ⟨⟨v9, e1⟩, uC, huC, hI2⟩ := hx
    cases e1
    refine yw_st (st2 := [.int v9]) rfl ?_
    have hI := hI2
    refine y_base (cs := []) (z_I.nil _) ?_
    refine y_istore (lv' := [(6, .int v9), (5, .int (nI (7 * j))), (4, .ref (ad 70)), (3, .ref (ad 69)), (2, .ref (ad 52)), (1, .ref (ad 0)), (0, .ref (g.2.2 40))]) d_Lw_law_1505 (by decide) rfl ?_
    refine y_aload_n d_Lw_law_1507 rfl 4 rfl ?_
    refine y_aload_n d_Lw_law_1508 rfl 6 rfl ?_
    refine y_iload d_Lw_law_1509 1 rfl ?_
    refine y_iconst d_Lw_law_1511 (v := 1) (by decide) ?_
    refine y_iadd d_Lw_law_1512 (v := nI ((7 * j) + 1)) (nI_add _ _) ?_
    refine y_sld (v := zs g (7 * j + 1)) d_Lw_law_1513 (vp_in_nI (by omega) (by omega)) (by rw [nI_clamp (by omega)]; rfl) ?_
    refine yw_callVL (As := [.int (zs g (7 * j + 1))]) (rest := []) (ci := 12) rfl (fun wA hA => (IVm.nil hA hI).rm) ln_Lw_303 w_im_Mm_alloy w_se_Mm_alloy ok_Lw_law_Mm_alloy d_Lw_law_1514 (fun wA hA => K_Mm_alloy (IVm.nil hA hI) _) rfl rfl (Nat.le_of_ble_eq_true rfl) (by omega) (by omega) (fun wA1514 hA1514 E wB1514 hx => ?_) (fun wA1514 hA1514 v wB1514 hx => ?_)
    · obtain ⟨⟨v8, e1⟩, -⟩ := hx
      cases e1
    · obtain ⟨⟨v8, e1⟩, uM, huM, hI2⟩ := hx
      cases e1
      refine yw_st (st2 := [.int v8]) rfl ?_
      have hI := hI2
      refine y_base (cs := []) (z_I.nil _) ?_
      refine y_istore (lv' := [(7, .int v8), (6, .int v9), (5, .int (nI (7 * j))), (4, .ref (ad 70)), (3, .ref (ad 69)), (2, .ref (ad 52)), (1, .ref (ad 0)), (0, .ref (g.2.2 40))]) d_Lw_law_1517 (by decide) rfl ?_
      refine y_goto (tgt := 1808) d_Lw_law_1519 (by decide) ?_
      refine y_lv (lv' := [(5, .int (nI (7 * j))), (4, .ref (ad 70)), (3, .ref (ad 69)), (2, .ref (ad 52)), (1, .ref (ad 0)), (0, .ref (g.2.2 40))]) [2, 3, 4, 5, 6, 7] rfl ?_
      refine y_end (fun wC hC => ?_)
      exact LC_next (IVm.nil hC hI) ((hR.n (huM.trans huC)).up (by omega)) hJ hL ih (by omega) (by omega)
theorem d_Lw_law_1522 : decode code 1522 = .ok (.aload_n 1, 1) := zo_43 (zd_b zq_code_47 18 rfl rfl rfl)
theorem d_Lw_law_1523 : decode code 1523 = .ok (.aload_n 0, 1) := zo_42 (zd_b zq_code_47 19 rfl rfl rfl)
theorem d_Lw_law_1524 : decode code 1524 = .ok (.iload 5, 2) := zo_21 (d := 5) (zd_b zq_code_47 20 rfl rfl rfl) (zd_b zq_code_47 21 rfl rfl rfl)
theorem d_Lw_law_1526 : decode code 1526 = .ok (.iconst 1, 1) := zo_4 (zd_b zq_code_47 22 rfl rfl rfl)
theorem d_Lw_law_1527 : decode code 1527 = .ok (.iadd, 1) := zo_96 (zd_b zq_code_47 23 rfl rfl rfl)
theorem d_Lw_law_1528 : decode code 1528 = .ok (.iaload, 1) := zo_46 (zd_b zq_code_47 24 rfl rfl rfl)
theorem d_Lw_law_1529 : decode code 1529 = .ok (.aload_n 3, 1) := zo_45 (zd_b zq_code_47 25 rfl rfl rfl)
theorem d_Lw_law_1530 : decode code 1530 = .ok (.invokestatic 304, 3) := zo_184 (d := 1) (e := 48) (zd_b zq_code_47 26 rfl rfl rfl) (zd_b zq_code_47 27 rfl rfl rfl) (zd_b zq_code_47 28 rfl rfl rfl)
theorem ok_Lw_law_Lw_faults : z_okX M_Lw_law M_Lw_faults 3 := ⟨z_mj6 (i := 198) rfl (by decide +kernel), by decide, ⟨by decide +kernel, by decide +kernel, by decide +kernel⟩, ⟨by decide, by decide⟩, z_mj1 (i := 0) rfl (by decide +kernel), rfl⟩
theorem ln_Lw_304 : Cond.methodLink "IronpourLaw" 304 M_Lw_faults.1 ∈ z_gw := z_mj6 (i := 196) rfl (by decide +kernel)
theorem w_st_Lw_faults : Cond.static M_Lw_faults.1 ∈ z_gw := z_mj6 (i := 197) rfl (by decide +kernel)
theorem d_Lw_law_1533 : decode code 1533 = .ok (.istore 6, 2) := zo_54 (d := 6) (zd_b zq_code_47 29 rfl rfl rfl) (zd_b zq_code_47 30 rfl rfl rfl)
theorem d_Lw_law_1535 : decode code 1535 = .ok (.aload_n 2, 1) := zo_44 (zd_b zq_code_47 31 rfl rfl rfl)
theorem d_Lw_law_1536 : decode code 1536 = .ok (.aload_n 0, 1) := zo_42 (zd_b zq_code_48 0 rfl rfl rfl)
theorem d_Lw_law_1537 : decode code 1537 = .ok (.iload 5, 2) := zo_21 (d := 5) (zd_b zq_code_48 1 rfl rfl rfl) (zd_b zq_code_48 2 rfl rfl rfl)
theorem d_Lw_law_1539 : decode code 1539 = .ok (.iconst 1, 1) := zo_4 (zd_b zq_code_48 3 rfl rfl rfl)
theorem d_Lw_law_1540 : decode code 1540 = .ok (.iadd, 1) := zo_96 (zd_b zq_code_48 4 rfl rfl rfl)
theorem d_Lw_law_1541 : decode code 1541 = .ok (.iaload, 1) := zo_46 (zd_b zq_code_48 5 rfl rfl rfl)
theorem d_Lw_law_1542 : decode code 1542 = .ok (.invokevirtual 306, 3) := zo_182 (d := 1) (e := 50) (zd_b zq_code_48 6 rfl rfl rfl) (zd_b zq_code_48 7 rfl rfl rfl) (zd_b zq_code_48 8 rfl rfl rfl)
theorem ok_Lw_law_Mm_faults : z_ok M_Lw_law M_Mm_faults 1 := ⟨z_mj9 (i := 21) rfl (by decide +kernel), rfl, ⟨by decide +kernel, by decide +kernel, by decide +kernel⟩, ⟨by decide, by decide⟩, z_mj1 (i := 14) rfl (by decide +kernel), rfl⟩
theorem ln_Lw_306 : Cond.methodLink "IronpourLaw" 306 M_Mm_faults.1 ∈ z_gw := z_mj9 (i := 18) rfl (by decide +kernel)
theorem w_im_Mm_faults : Cond.instanceMethod M_Mm_faults.1 ∈ z_gw := z_mj9 (i := 19) rfl (by decide +kernel)
theorem w_se_Mm_faults : Cond.selects M_Mm_faults.1.cls M_Mm_faults.1 M_Mm_faults.1 ∈ z_gw := z_mj9 (i := 20) rfl (by decide +kernel)
theorem d_Lw_law_1545 : decode code 1545 = .ok (.istore 7, 2) := zo_54 (d := 7) (zd_b zq_code_48 9 rfl rfl rfl) (zd_b zq_code_48 10 rfl rfl rfl)
theorem d_Lw_law_1547 : decode code 1547 = .ok (.goto 261, 3) := zo_167 (d := 1) (e := 5) (zd_b zq_code_48 11 rfl rfl rfl) (zd_b zq_code_48 12 rfl rfl rfl) (zd_b zq_code_48 13 rfl rfl rfl) (by decide +kernel)
set_option maxHeartbeats 4000000 in
set_option maxRecDepth 100000 in
theorem LC_faults {g : zG} {ad : Nat → Nat} {t : zTT} {u : zNN} {w : zW} {j : Nat} (hI : IVm g ad t u w) (hR : REL t u.1 (48 * j)) {r : Nat} (hJ : 7 * j + 7 ≤ g.2.2 41) (hL : g.2.2 41 ≤ 3584) (ih : LWI g ad j r) : DW g M_Lw_law lwQ w 1522 [(5, .int (nI (7 * j))), (4, .ref (ad 70)), (3, .ref (ad 69)), (2, .ref (ad 52)), (1, .ref (ad 0)), (0, .ref (g.2.2 40))] [] (100 * (r + 1)) (1000 * (r + 1)) := by
  refine y_base (cs := []) (z_I.nil w) ?_
  refine y_aload_n d_Lw_law_1522 rfl 4 rfl ?_
  refine y_aload_n d_Lw_law_1523 rfl 5 rfl ?_
  refine y_iload d_Lw_law_1524 0 rfl ?_
  refine y_iconst d_Lw_law_1526 (v := 1) (by decide) ?_
  refine y_iadd d_Lw_law_1527 (v := nI ((7 * j) + 1)) (nI_add _ _) ?_
  refine y_sld (v := zs g (7 * j + 1)) d_Lw_law_1528 (vp_in_nI (by omega) (by omega)) (by rw [nI_clamp (by omega)]; rfl) ?_
  refine y_aload_n d_Lw_law_1529 rfl 2 rfl ?_
  refine yw_callSX (As := [.ref (ad 0), .int (zs g (7 * j + 1)), .ref (ad 69)]) (rest := []) ln_Lw_304 w_st_Lw_faults ok_Lw_law_Lw_faults d_Lw_law_1530 (fun wA hA => W_faults (IVm.nil hA hI) _) rfl rfl (Nat.le_of_ble_eq_true rfl) (by omega) (by omega) (fun wA1530 hA1530 E wB1530 hx => ?_) (fun wA1530 hA1530 v wB1530 hx => ?_)
  · obtain ⟨⟨v9, e1⟩, -⟩ := hx
    cases e1
  · obtain ⟨⟨v9, e1⟩, uC, huC, hI2⟩ := hx
    cases e1
    refine yw_st (st2 := [.int v9]) rfl ?_
    have hI := hI2
    refine y_base (cs := []) (z_I.nil _) ?_
    refine y_istore (lv' := [(6, .int v9), (5, .int (nI (7 * j))), (4, .ref (ad 70)), (3, .ref (ad 69)), (2, .ref (ad 52)), (1, .ref (ad 0)), (0, .ref (g.2.2 40))]) d_Lw_law_1533 (by decide) rfl ?_
    refine y_aload_n d_Lw_law_1535 rfl 4 rfl ?_
    refine y_aload_n d_Lw_law_1536 rfl 6 rfl ?_
    refine y_iload d_Lw_law_1537 1 rfl ?_
    refine y_iconst d_Lw_law_1539 (v := 1) (by decide) ?_
    refine y_iadd d_Lw_law_1540 (v := nI ((7 * j) + 1)) (nI_add _ _) ?_
    refine y_sld (v := zs g (7 * j + 1)) d_Lw_law_1541 (vp_in_nI (by omega) (by omega)) (by rw [nI_clamp (by omega)]; rfl) ?_
    refine yw_callVL (As := [.int (zs g (7 * j + 1))]) (rest := []) (ci := 12) rfl (fun wA hA => (IVm.nil hA hI).rm) ln_Lw_306 w_im_Mm_faults w_se_Mm_faults ok_Lw_law_Mm_faults d_Lw_law_1542 (fun wA hA => K_Mm_faults (IVm.nil hA hI) _) rfl rfl (Nat.le_of_ble_eq_true rfl) (by omega) (by omega) (fun wA1542 hA1542 E wB1542 hx => ?_) (fun wA1542 hA1542 v wB1542 hx => ?_)
    · obtain ⟨⟨v8, e1⟩, -⟩ := hx
      cases e1
    · obtain ⟨⟨v8, e1⟩, uM, huM, hI2⟩ := hx
      cases e1
      refine yw_st (st2 := [.int v8]) rfl ?_
      have hI := hI2
      refine y_base (cs := []) (z_I.nil _) ?_
      refine y_istore (lv' := [(7, .int v8), (6, .int v9), (5, .int (nI (7 * j))), (4, .ref (ad 70)), (3, .ref (ad 69)), (2, .ref (ad 52)), (1, .ref (ad 0)), (0, .ref (g.2.2 40))]) d_Lw_law_1545 (by decide) rfl ?_
      refine y_goto (tgt := 1808) d_Lw_law_1547 (by decide) ?_
      refine y_lv (lv' := [(5, .int (nI (7 * j))), (4, .ref (ad 70)), (3, .ref (ad 69)), (2, .ref (ad 52)), (1, .ref (ad 0)), (0, .ref (g.2.2 40))]) [2, 3, 4, 5, 6, 7] rfl ?_
      refine y_end (fun wC hC => ?_)
      exact LC_next (IVm.nil hC hI) ((hR.n (huM.trans huC)).up (by omega)) hJ hL ih (by omega) (by omega)
theorem d_Lw_law_1550 : decode code 1550 = .ok (.aload_n 1, 1) := zo_43 (zd_b zq_code_48 14 rfl rfl rfl)
theorem d_Lw_law_1551 : decode code 1551 = .ok (.aload_n 0, 1) := zo_42 (zd_b zq_code_48 15 rfl rfl rfl)
theorem d_Lw_law_1552 : decode code 1552 = .ok (.iload 5, 2) := zo_21 (d := 5) (zd_b zq_code_48 16 rfl rfl rfl) (zd_b zq_code_48 17 rfl rfl rfl)
theorem d_Lw_law_1554 : decode code 1554 = .ok (.iconst 1, 1) := zo_4 (zd_b zq_code_48 18 rfl rfl rfl)
theorem d_Lw_law_1555 : decode code 1555 = .ok (.iadd, 1) := zo_96 (zd_b zq_code_48 19 rfl rfl rfl)
theorem d_Lw_law_1556 : decode code 1556 = .ok (.iaload, 1) := zo_46 (zd_b zq_code_48 20 rfl rfl rfl)
theorem d_Lw_law_1557 : decode code 1557 = .ok (.aload_n 3, 1) := zo_45 (zd_b zq_code_48 21 rfl rfl rfl)
theorem d_Lw_law_1558 : decode code 1558 = .ok (.invokestatic 307, 3) := zo_184 (d := 1) (e := 51) (zd_b zq_code_48 22 rfl rfl rfl) (zd_b zq_code_48 23 rfl rfl rfl) (zd_b zq_code_48 24 rfl rfl rfl)
theorem ok_Lw_law_Lw_shrunkIn : z_okX M_Lw_law M_Lw_shrunkIn 3 := ⟨z_mj6 (i := 205) rfl (by decide +kernel), by decide, ⟨by decide +kernel, by decide +kernel, by decide +kernel⟩, ⟨by decide, by decide⟩, z_mj1 (i := 0) rfl (by decide +kernel), rfl⟩
theorem ln_Lw_307 : Cond.methodLink "IronpourLaw" 307 M_Lw_shrunkIn.1 ∈ z_gw := z_mj6 (i := 203) rfl (by decide +kernel)
theorem w_st_Lw_shrunkIn : Cond.static M_Lw_shrunkIn.1 ∈ z_gw := z_mj6 (i := 204) rfl (by decide +kernel)
theorem d_Lw_law_1561 : decode code 1561 = .ok (.istore 6, 2) := zo_54 (d := 6) (zd_b zq_code_48 25 rfl rfl rfl) (zd_b zq_code_48 26 rfl rfl rfl)
theorem d_Lw_law_1563 : decode code 1563 = .ok (.aload_n 2, 1) := zo_44 (zd_b zq_code_48 27 rfl rfl rfl)
theorem d_Lw_law_1564 : decode code 1564 = .ok (.aload_n 0, 1) := zo_42 (zd_b zq_code_48 28 rfl rfl rfl)
theorem d_Lw_law_1565 : decode code 1565 = .ok (.iload 5, 2) := zo_21 (d := 5) (zd_b zq_code_48 29 rfl rfl rfl) (zd_b zq_code_48 30 rfl rfl rfl)
theorem d_Lw_law_1567 : decode code 1567 = .ok (.iconst 1, 1) := zo_4 (zd_b zq_code_48 31 rfl rfl rfl)
theorem d_Lw_law_1568 : decode code 1568 = .ok (.iadd, 1) := zo_96 (zd_b zq_code_49 0 rfl rfl rfl)
theorem d_Lw_law_1569 : decode code 1569 = .ok (.iaload, 1) := zo_46 (zd_b zq_code_49 1 rfl rfl rfl)
theorem d_Lw_law_1570 : decode code 1570 = .ok (.invokevirtual 309, 3) := zo_182 (d := 1) (e := 53) (zd_b zq_code_49 2 rfl rfl rfl) (zd_b zq_code_49 3 rfl rfl rfl) (zd_b zq_code_49 4 rfl rfl rfl)
theorem ok_Lw_law_Mm_shrunkIn : z_ok M_Lw_law M_Mm_shrunkIn 1 := ⟨z_mj9 (i := 25) rfl (by decide +kernel), rfl, ⟨by decide +kernel, by decide +kernel, by decide +kernel⟩, ⟨by decide, by decide⟩, z_mj1 (i := 14) rfl (by decide +kernel), rfl⟩
theorem ln_Lw_309 : Cond.methodLink "IronpourLaw" 309 M_Mm_shrunkIn.1 ∈ z_gw := z_mj9 (i := 22) rfl (by decide +kernel)
theorem w_im_Mm_shrunkIn : Cond.instanceMethod M_Mm_shrunkIn.1 ∈ z_gw := z_mj9 (i := 23) rfl (by decide +kernel)
theorem w_se_Mm_shrunkIn : Cond.selects M_Mm_shrunkIn.1.cls M_Mm_shrunkIn.1 M_Mm_shrunkIn.1 ∈ z_gw := z_mj9 (i := 24) rfl (by decide +kernel)
theorem d_Lw_law_1573 : decode code 1573 = .ok (.istore 7, 2) := zo_54 (d := 7) (zd_b zq_code_49 5 rfl rfl rfl) (zd_b zq_code_49 6 rfl rfl rfl)
theorem d_Lw_law_1575 : decode code 1575 = .ok (.goto 233, 3) := zo_167 (d := 0) (e := 233) (zd_b zq_code_49 7 rfl rfl rfl) (zd_b zq_code_49 8 rfl rfl rfl) (zd_b zq_code_49 9 rfl rfl rfl) (by decide +kernel)
set_option maxHeartbeats 4000000 in
set_option maxRecDepth 100000 in
theorem LC_shrunkIn {g : zG} {ad : Nat → Nat} {t : zTT} {u : zNN} {w : zW} {j : Nat} (hI : IVm g ad t u w) (hR : REL t u.1 (48 * j)) {r : Nat} (hJ : 7 * j + 7 ≤ g.2.2 41) (hL : g.2.2 41 ≤ 3584) (ih : LWI g ad j r) : DW g M_Lw_law lwQ w 1550 [(5, .int (nI (7 * j))), (4, .ref (ad 70)), (3, .ref (ad 69)), (2, .ref (ad 52)), (1, .ref (ad 0)), (0, .ref (g.2.2 40))] [] (100 * (r + 1)) (1000 * (r + 1)) := by
  refine y_base (cs := []) (z_I.nil w) ?_
  refine y_aload_n d_Lw_law_1550 rfl 4 rfl ?_
  refine y_aload_n d_Lw_law_1551 rfl 5 rfl ?_
  refine y_iload d_Lw_law_1552 0 rfl ?_
  refine y_iconst d_Lw_law_1554 (v := 1) (by decide) ?_
  refine y_iadd d_Lw_law_1555 (v := nI ((7 * j) + 1)) (nI_add _ _) ?_
  refine y_sld (v := zs g (7 * j + 1)) d_Lw_law_1556 (vp_in_nI (by omega) (by omega)) (by rw [nI_clamp (by omega)]; rfl) ?_
  refine y_aload_n d_Lw_law_1557 rfl 2 rfl ?_
  refine yw_callSX (As := [.ref (ad 0), .int (zs g (7 * j + 1)), .ref (ad 69)]) (rest := []) ln_Lw_307 w_st_Lw_shrunkIn ok_Lw_law_Lw_shrunkIn d_Lw_law_1558 (fun wA hA => W_shrunkIn (IVm.nil hA hI) _) rfl rfl (Nat.le_of_ble_eq_true rfl) (by omega) (by omega) (fun wA1558 hA1558 E wB1558 hx => ?_) (fun wA1558 hA1558 v wB1558 hx => ?_)
  · obtain ⟨⟨v9, e1⟩, -⟩ := hx
    cases e1
  · obtain ⟨⟨v9, e1⟩, uC, huC, hI2⟩ := hx
    cases e1
    refine yw_st (st2 := [.int v9]) rfl ?_
    have hI := hI2
    refine y_base (cs := []) (z_I.nil _) ?_
    refine y_istore (lv' := [(6, .int v9), (5, .int (nI (7 * j))), (4, .ref (ad 70)), (3, .ref (ad 69)), (2, .ref (ad 52)), (1, .ref (ad 0)), (0, .ref (g.2.2 40))]) d_Lw_law_1561 (by decide) rfl ?_
    refine y_aload_n d_Lw_law_1563 rfl 4 rfl ?_
    refine y_aload_n d_Lw_law_1564 rfl 6 rfl ?_
    refine y_iload d_Lw_law_1565 1 rfl ?_
    refine y_iconst d_Lw_law_1567 (v := 1) (by decide) ?_
    refine y_iadd d_Lw_law_1568 (v := nI ((7 * j) + 1)) (nI_add _ _) ?_
    refine y_sld (v := zs g (7 * j + 1)) d_Lw_law_1569 (vp_in_nI (by omega) (by omega)) (by rw [nI_clamp (by omega)]; rfl) ?_
    refine yw_callVL (As := [.int (zs g (7 * j + 1))]) (rest := []) (ci := 12) rfl (fun wA hA => (IVm.nil hA hI).rm) ln_Lw_309 w_im_Mm_shrunkIn w_se_Mm_shrunkIn ok_Lw_law_Mm_shrunkIn d_Lw_law_1570 (fun wA hA => K_Mm_shrunkIn (IVm.nil hA hI) _) rfl rfl (Nat.le_of_ble_eq_true rfl) (by omega) (by omega) (fun wA1570 hA1570 E wB1570 hx => ?_) (fun wA1570 hA1570 v wB1570 hx => ?_)
    · obtain ⟨⟨v8, e1⟩, -⟩ := hx
      cases e1
    · obtain ⟨⟨v8, e1⟩, uM, huM, hI2⟩ := hx
      cases e1
      refine yw_st (st2 := [.int v8]) rfl ?_
      have hI := hI2
      refine y_base (cs := []) (z_I.nil _) ?_
      refine y_istore (lv' := [(7, .int v8), (6, .int v9), (5, .int (nI (7 * j))), (4, .ref (ad 70)), (3, .ref (ad 69)), (2, .ref (ad 52)), (1, .ref (ad 0)), (0, .ref (g.2.2 40))]) d_Lw_law_1573 (by decide) rfl ?_
      refine y_goto (tgt := 1808) d_Lw_law_1575 (by decide) ?_
      refine y_lv (lv' := [(5, .int (nI (7 * j))), (4, .ref (ad 70)), (3, .ref (ad 69)), (2, .ref (ad 52)), (1, .ref (ad 0)), (0, .ref (g.2.2 40))]) [2, 3, 4, 5, 6, 7] rfl ?_
      refine y_end (fun wC hC => ?_)
      exact LC_next (IVm.nil hC hI) ((hR.n (huM.trans huC)).up (by omega)) hJ hL ih (by omega) (by omega)
theorem d_Lw_law_1578 : decode code 1578 = .ok (.aload_n 1, 1) := zo_43 (zd_b zq_code_49 10 rfl rfl rfl)
theorem d_Lw_law_1579 : decode code 1579 = .ok (.aload_n 0, 1) := zo_42 (zd_b zq_code_49 11 rfl rfl rfl)
theorem d_Lw_law_1580 : decode code 1580 = .ok (.iload 5, 2) := zo_21 (d := 5) (zd_b zq_code_49 12 rfl rfl rfl) (zd_b zq_code_49 13 rfl rfl rfl)
theorem d_Lw_law_1582 : decode code 1582 = .ok (.iconst 1, 1) := zo_4 (zd_b zq_code_49 14 rfl rfl rfl)
theorem d_Lw_law_1583 : decode code 1583 = .ok (.iadd, 1) := zo_96 (zd_b zq_code_49 15 rfl rfl rfl)
theorem d_Lw_law_1584 : decode code 1584 = .ok (.iaload, 1) := zo_46 (zd_b zq_code_49 16 rfl rfl rfl)
theorem d_Lw_law_1585 : decode code 1585 = .ok (.aload_n 0, 1) := zo_42 (zd_b zq_code_49 17 rfl rfl rfl)
theorem d_Lw_law_1586 : decode code 1586 = .ok (.iload 5, 2) := zo_21 (d := 5) (zd_b zq_code_49 18 rfl rfl rfl) (zd_b zq_code_49 19 rfl rfl rfl)
theorem d_Lw_law_1588 : decode code 1588 = .ok (.iconst 2, 1) := zo_5 (zd_b zq_code_49 20 rfl rfl rfl)
theorem d_Lw_law_1589 : decode code 1589 = .ok (.iadd, 1) := zo_96 (zd_b zq_code_49 21 rfl rfl rfl)
theorem d_Lw_law_1590 : decode code 1590 = .ok (.iaload, 1) := zo_46 (zd_b zq_code_49 22 rfl rfl rfl)
theorem d_Lw_law_1591 : decode code 1591 = .ok (.i2c, 1) := zo_146 (zd_b zq_code_49 23 rfl rfl rfl)
theorem d_Lw_law_1592 : decode code 1592 = .ok (.aload_n 3, 1) := zo_45 (zd_b zq_code_49 24 rfl rfl rfl)
theorem d_Lw_law_1593 : decode code 1593 = .ok (.invokestatic 310, 3) := zo_184 (d := 1) (e := 54) (zd_b zq_code_49 25 rfl rfl rfl) (zd_b zq_code_49 26 rfl rfl rfl) (zd_b zq_code_49 27 rfl rfl rfl)
theorem ok_Lw_law_Lw_has : z_okX M_Lw_law M_Lw_has 4 := ⟨z_mj6 (i := 212) rfl (by decide +kernel), by decide, ⟨by decide +kernel, by decide +kernel, by decide +kernel⟩, ⟨by decide, by decide⟩, z_mj1 (i := 0) rfl (by decide +kernel), rfl⟩
theorem ln_Lw_310 : Cond.methodLink "IronpourLaw" 310 M_Lw_has.1 ∈ z_gw := z_mj6 (i := 210) rfl (by decide +kernel)
theorem w_st_Lw_has : Cond.static M_Lw_has.1 ∈ z_gw := z_mj6 (i := 211) rfl (by decide +kernel)
theorem d_Lw_law_1596 : decode code 1596 = .ok (.istore 6, 2) := zo_54 (d := 6) (zd_b zq_code_49 28 rfl rfl rfl) (zd_b zq_code_49 29 rfl rfl rfl)
theorem d_Lw_law_1598 : decode code 1598 = .ok (.aload_n 2, 1) := zo_44 (zd_b zq_code_49 30 rfl rfl rfl)
theorem d_Lw_law_1599 : decode code 1599 = .ok (.aload_n 0, 1) := zo_42 (zd_b zq_code_49 31 rfl rfl rfl)
theorem d_Lw_law_1600 : decode code 1600 = .ok (.iload 5, 2) := zo_21 (d := 5) (zd_b zq_code_50 0 rfl rfl rfl) (zd_b zq_code_50 1 rfl rfl rfl)
theorem d_Lw_law_1602 : decode code 1602 = .ok (.iconst 1, 1) := zo_4 (zd_b zq_code_50 2 rfl rfl rfl)
theorem d_Lw_law_1603 : decode code 1603 = .ok (.iadd, 1) := zo_96 (zd_b zq_code_50 3 rfl rfl rfl)
theorem d_Lw_law_1604 : decode code 1604 = .ok (.iaload, 1) := zo_46 (zd_b zq_code_50 4 rfl rfl rfl)
theorem d_Lw_law_1605 : decode code 1605 = .ok (.aload_n 0, 1) := zo_42 (zd_b zq_code_50 5 rfl rfl rfl)
theorem d_Lw_law_1606 : decode code 1606 = .ok (.iload 5, 2) := zo_21 (d := 5) (zd_b zq_code_50 6 rfl rfl rfl) (zd_b zq_code_50 7 rfl rfl rfl)
theorem d_Lw_law_1608 : decode code 1608 = .ok (.iconst 2, 1) := zo_5 (zd_b zq_code_50 8 rfl rfl rfl)
theorem d_Lw_law_1609 : decode code 1609 = .ok (.iadd, 1) := zo_96 (zd_b zq_code_50 9 rfl rfl rfl)
theorem d_Lw_law_1610 : decode code 1610 = .ok (.iaload, 1) := zo_46 (zd_b zq_code_50 10 rfl rfl rfl)
theorem d_Lw_law_1611 : decode code 1611 = .ok (.i2c, 1) := zo_146 (zd_b zq_code_50 11 rfl rfl rfl)
theorem d_Lw_law_1612 : decode code 1612 = .ok (.invokevirtual 313, 3) := zo_182 (d := 1) (e := 57) (zd_b zq_code_50 12 rfl rfl rfl) (zd_b zq_code_50 13 rfl rfl rfl) (zd_b zq_code_50 14 rfl rfl rfl)
theorem ok_Lw_law_Mm_has_1 : z_ok M_Lw_law M_Mm_has_1 2 := ⟨z_mj9 (i := 29) rfl (by decide +kernel), rfl, ⟨by decide +kernel, by decide +kernel, by decide +kernel⟩, ⟨by decide, by decide⟩, z_mj1 (i := 14) rfl (by decide +kernel), rfl⟩
theorem ln_Lw_313 : Cond.methodLink "IronpourLaw" 313 M_Mm_has_1.1 ∈ z_gw := z_mj9 (i := 26) rfl (by decide +kernel)
theorem w_im_Mm_has_1 : Cond.instanceMethod M_Mm_has_1.1 ∈ z_gw := z_mj9 (i := 27) rfl (by decide +kernel)
theorem w_se_Mm_has_1 : Cond.selects M_Mm_has_1.1.cls M_Mm_has_1.1 M_Mm_has_1.1 ∈ z_gw := z_mj9 (i := 28) rfl (by decide +kernel)
theorem d_Lw_law_1615 : decode code 1615 = .ok (.istore 7, 2) := zo_54 (d := 7) (zd_b zq_code_50 15 rfl rfl rfl) (zd_b zq_code_50 16 rfl rfl rfl)
theorem d_Lw_law_1617 : decode code 1617 = .ok (.goto 191, 3) := zo_167 (d := 0) (e := 191) (zd_b zq_code_50 17 rfl rfl rfl) (zd_b zq_code_50 18 rfl rfl rfl) (zd_b zq_code_50 19 rfl rfl rfl) (by decide +kernel)
set_option maxHeartbeats 4000000 in
set_option maxRecDepth 100000 in
theorem LC_has {g : zG} {ad : Nat → Nat} {t : zTT} {u : zNN} {w : zW} {j : Nat} (hI : IVm g ad t u w) (hR : REL t u.1 (48 * j)) {r : Nat} (hJ : 7 * j + 7 ≤ g.2.2 41) (hL : g.2.2 41 ≤ 3584) (ih : LWI g ad j r) : DW g M_Lw_law lwQ w 1578 [(5, .int (nI (7 * j))), (4, .ref (ad 70)), (3, .ref (ad 69)), (2, .ref (ad 52)), (1, .ref (ad 0)), (0, .ref (g.2.2 40))] [] (100 * (r + 1)) (1000 * (r + 1)) := by
  refine y_base (cs := []) (z_I.nil w) ?_
  refine y_aload_n d_Lw_law_1578 rfl 4 rfl ?_
  refine y_aload_n d_Lw_law_1579 rfl 5 rfl ?_
  refine y_iload d_Lw_law_1580 0 rfl ?_
  refine y_iconst d_Lw_law_1582 (v := 1) (by decide) ?_
  refine y_iadd d_Lw_law_1583 (v := nI ((7 * j) + 1)) (nI_add _ _) ?_
  refine y_sld (v := zs g (7 * j + 1)) d_Lw_law_1584 (vp_in_nI (by omega) (by omega)) (by rw [nI_clamp (by omega)]; rfl) ?_
  refine y_aload_n d_Lw_law_1585 rfl 5 rfl ?_
  refine y_iload d_Lw_law_1586 0 rfl ?_
  refine y_iconst d_Lw_law_1588 (v := 2) (by decide) ?_
  refine y_iadd d_Lw_law_1589 (v := nI ((7 * j) + 2)) (nI_add _ _) ?_
  refine y_sld (v := zs g (7 * j + 2)) d_Lw_law_1590 (vp_in_nI (by omega) (by omega)) (by rw [nI_clamp (by omega)]; rfl) ?_
  refine y_i2c d_Lw_law_1591 (v := zc g (7 * j + 2)) rfl ?_
  refine y_aload_n d_Lw_law_1592 rfl 2 rfl ?_
  refine yw_callSX (As := [.ref (ad 0), .int (zs g (7 * j + 1)), .int (zc g (7 * j + 2)), .ref (ad 69)]) (rest := []) ln_Lw_310 w_st_Lw_has ok_Lw_law_Lw_has d_Lw_law_1593 (fun wA hA => W_has (IVm.nil hA hI) _ _) rfl rfl (Nat.le_of_ble_eq_true rfl) (by omega) (by omega) (fun wA1593 hA1593 E wB1593 hx => ?_) (fun wA1593 hA1593 v wB1593 hx => ?_)
  · obtain ⟨⟨v9, e1⟩, -⟩ := hx
    cases e1
  · obtain ⟨⟨v9, e1⟩, uC, huC, hI2⟩ := hx
    cases e1
    refine yw_st (st2 := [.int v9]) rfl ?_
    have hI := hI2
    refine y_base (cs := []) (z_I.nil _) ?_
    refine y_istore (lv' := [(6, .int v9), (5, .int (nI (7 * j))), (4, .ref (ad 70)), (3, .ref (ad 69)), (2, .ref (ad 52)), (1, .ref (ad 0)), (0, .ref (g.2.2 40))]) d_Lw_law_1596 (by decide) rfl ?_
    refine y_aload_n d_Lw_law_1598 rfl 4 rfl ?_
    refine y_aload_n d_Lw_law_1599 rfl 6 rfl ?_
    refine y_iload d_Lw_law_1600 1 rfl ?_
    refine y_iconst d_Lw_law_1602 (v := 1) (by decide) ?_
    refine y_iadd d_Lw_law_1603 (v := nI ((7 * j) + 1)) (nI_add _ _) ?_
    refine y_sld (v := zs g (7 * j + 1)) d_Lw_law_1604 (vp_in_nI (by omega) (by omega)) (by rw [nI_clamp (by omega)]; rfl) ?_
    refine y_aload_n d_Lw_law_1605 rfl 6 rfl ?_
    refine y_iload d_Lw_law_1606 1 rfl ?_
    refine y_iconst d_Lw_law_1608 (v := 2) (by decide) ?_
    refine y_iadd d_Lw_law_1609 (v := nI ((7 * j) + 2)) (nI_add _ _) ?_
    refine y_sld (v := zs g (7 * j + 2)) d_Lw_law_1610 (vp_in_nI (by omega) (by omega)) (by rw [nI_clamp (by omega)]; rfl) ?_
    refine y_i2c d_Lw_law_1611 (v := zc g (7 * j + 2)) rfl ?_
    refine yw_callVL (As := [.int (zs g (7 * j + 1)), .int (zc g (7 * j + 2))]) (rest := []) (ci := 12) rfl (fun wA hA => (IVm.nil hA hI).rm) ln_Lw_313 w_im_Mm_has_1 w_se_Mm_has_1 ok_Lw_law_Mm_has_1 d_Lw_law_1612 (fun wA hA => K_Mm_has (IVm.nil hA hI) _ _) rfl rfl (Nat.le_of_ble_eq_true rfl) (by omega) (by omega) (fun wA1612 hA1612 E wB1612 hx => ?_) (fun wA1612 hA1612 v wB1612 hx => ?_)
    · obtain ⟨⟨v8, e1⟩, -⟩ := hx
      cases e1
    · obtain ⟨⟨v8, e1⟩, uM, huM, hI2⟩ := hx
      cases e1
      refine yw_st (st2 := [.int v8]) rfl ?_
      have hI := hI2
      refine y_base (cs := []) (z_I.nil _) ?_
      refine y_istore (lv' := [(7, .int v8), (6, .int v9), (5, .int (nI (7 * j))), (4, .ref (ad 70)), (3, .ref (ad 69)), (2, .ref (ad 52)), (1, .ref (ad 0)), (0, .ref (g.2.2 40))]) d_Lw_law_1615 (by decide) rfl ?_
      refine y_goto (tgt := 1808) d_Lw_law_1617 (by decide) ?_
      refine y_lv (lv' := [(5, .int (nI (7 * j))), (4, .ref (ad 70)), (3, .ref (ad 69)), (2, .ref (ad 52)), (1, .ref (ad 0)), (0, .ref (g.2.2 40))]) [2, 3, 4, 5, 6, 7] rfl ?_
      refine y_end (fun wC hC => ?_)
      exact LC_next (IVm.nil hC hI) ((hR.n (huM.trans huC)).up (by omega)) hJ hL ih (by omega) (by omega)
