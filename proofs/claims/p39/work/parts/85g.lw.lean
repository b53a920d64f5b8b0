theorem d_Lw_law_1363 : decode code 1363 = .ok (.aload_n 1, 1) := zo_43 (zd_b zq_code_42 19 rfl rfl rfl)
theorem d_Lw_law_1364 : decode code 1364 = .ok (.aload_n 0, 1) := zo_42 (zd_b zq_code_42 20 rfl rfl rfl)
theorem d_Lw_law_1365 : decode code 1365 = .ok (.iload 5, 2) := zo_21 (d := 5) (zd_b zq_code_42 21 rfl rfl rfl) (zd_b zq_code_42 22 rfl rfl rfl)
theorem d_Lw_law_1367 : decode code 1367 = .ok (.iconst 1, 1) := zo_4 (zd_b zq_code_42 23 rfl rfl rfl)
theorem d_Lw_law_1368 : decode code 1368 = .ok (.iadd, 1) := zo_96 (zd_b zq_code_42 24 rfl rfl rfl)
theorem d_Lw_law_1369 : decode code 1369 = .ok (.iaload, 1) := zo_46 (zd_b zq_code_42 25 rfl rfl rfl)
theorem d_Lw_law_1370 : decode code 1370 = .ok (.i2c, 1) := zo_146 (zd_b zq_code_42 26 rfl rfl rfl)
theorem d_Lw_law_1371 : decode code 1371 = .ok (.aload_n 3, 1) := zo_45 (zd_b zq_code_42 27 rfl rfl rfl)
theorem d_Lw_law_1372 : decode code 1372 = .ok (.invokestatic 282, 3) := zo_184 (d := 1) (e := 26) (zd_b zq_code_42 28 rfl rfl rfl) (zd_b zq_code_42 29 rfl rfl rfl) (zd_b zq_code_42 30 rfl rfl rfl)
theorem ok_Lw_law_Lw_cheapest : z_okX M_Lw_law M_Lw_cheapest 3 := ⟨z_mj5 (i := 200) rfl (by decide +kernel), by decide, ⟨by decide +kernel, by decide +kernel, by decide +kernel⟩, ⟨by decide, by decide⟩, z_mj1 (i := 0) rfl (by decide +kernel), rfl⟩
theorem ln_Lw_282 : Cond.methodLink "IronpourLaw" 282 M_Lw_cheapest.1 ∈ z_gw := z_mj5 (i := 198) rfl (by decide +kernel)
theorem w_st_Lw_cheapest : Cond.static M_Lw_cheapest.1 ∈ z_gw := z_mj5 (i := 199) rfl (by decide +kernel)
theorem d_Lw_law_1375 : decode code 1375 = .ok (.istore 6, 2) := zo_54 (d := 6) (zd_b zq_code_42 31 rfl rfl rfl) (zd_b zq_code_43 0 rfl rfl rfl)
theorem d_Lw_law_1377 : decode code 1377 = .ok (.aload_n 2, 1) := zo_44 (zd_b zq_code_43 1 rfl rfl rfl)
theorem d_Lw_law_1378 : decode code 1378 = .ok (.aload_n 0, 1) := zo_42 (zd_b zq_code_43 2 rfl rfl rfl)
theorem d_Lw_law_1379 : decode code 1379 = .ok (.iload 5, 2) := zo_21 (d := 5) (zd_b zq_code_43 3 rfl rfl rfl) (zd_b zq_code_43 4 rfl rfl rfl)
theorem d_Lw_law_1381 : decode code 1381 = .ok (.iconst 1, 1) := zo_4 (zd_b zq_code_43 5 rfl rfl rfl)
theorem d_Lw_law_1382 : decode code 1382 = .ok (.iadd, 1) := zo_96 (zd_b zq_code_43 6 rfl rfl rfl)
theorem d_Lw_law_1383 : decode code 1383 = .ok (.iaload, 1) := zo_46 (zd_b zq_code_43 7 rfl rfl rfl)
theorem d_Lw_law_1384 : decode code 1384 = .ok (.i2c, 1) := zo_146 (zd_b zq_code_43 8 rfl rfl rfl)
theorem d_Lw_law_1385 : decode code 1385 = .ok (.invokevirtual 284, 3) := zo_182 (d := 1) (e := 28) (zd_b zq_code_43 9 rfl rfl rfl) (zd_b zq_code_43 10 rfl rfl rfl) (zd_b zq_code_43 11 rfl rfl rfl)
theorem ok_Lw_law_Mm_cheapest : z_ok M_Lw_law M_Mm_cheapest 1 := ⟨z_mj8 (i := 218) rfl (by decide +kernel), rfl, ⟨by decide +kernel, by decide +kernel, by decide +kernel⟩, ⟨by decide, by decide⟩, z_mj1 (i := 14) rfl (by decide +kernel), rfl⟩
theorem ln_Lw_284 : Cond.methodLink "IronpourLaw" 284 M_Mm_cheapest.1 ∈ z_gw := z_mj8 (i := 215) rfl (by decide +kernel)
theorem w_im_Mm_cheapest : Cond.instanceMethod M_Mm_cheapest.1 ∈ z_gw := z_mj8 (i := 216) rfl (by decide +kernel)
theorem w_se_Mm_cheapest : Cond.selects M_Mm_cheapest.1.cls M_Mm_cheapest.1 M_Mm_cheapest.1 ∈ z_gw := z_mj8 (i := 217) rfl (by decide +kernel)
theorem d_Lw_law_1388 : decode code 1388 = .ok (.istore 7, 2) := zo_54 (d := 7) (zd_b zq_code_43 12 rfl rfl rfl) (zd_b zq_code_43 13 rfl rfl rfl)
theorem d_Lw_law_1390 : decode code 1390 = .ok (.goto 418, 3) := zo_167 (d := 1) (e := 162) (zd_b zq_code_43 14 rfl rfl rfl) (zd_b zq_code_43 15 rfl rfl rfl) (zd_b zq_code_43 16 rfl rfl rfl) (by decide +kernel)
set_option maxHeartbeats 4000000 in
set_option maxRecDepth 100000 in
theorem LC_cheapest {g : zG} {ad : Nat → Nat} {t : zTT} {u : zNN} {w : zW} {j : Nat} (hI : IVm g ad t u w) (hR : REL t u.1 (48 * j)) {r : Nat} (hJ : 7 * j + 7 ≤ g.2.2 41) (hL : g.2.2 41 ≤ 3584) (ih : LWI g ad j r) : DW g M_Lw_law lwQ w 1363 [(5, .int (nI (7 * j))), (4, .ref (ad 70)), (3, .ref (ad 69)), (2, .ref (ad 52)), (1, .ref (ad 0)), (0, .ref (g.2.2 40))] [] (100 * (r + 1)) (1000 * (r + 1)) := by
  refine y_base (cs := []) (z_I.nil w) ?_
  refine y_aload_n d_Lw_law_1363 rfl 4 rfl ?_
  refine y_aload_n d_Lw_law_1364 rfl 5 rfl ?_
  refine y_iload d_Lw_law_1365 0 rfl ?_
  refine y_iconst d_Lw_law_1367 (v := 1) (by decide) ?_
  refine y_iadd d_Lw_law_1368 (v := nI ((7 * j) + 1)) (nI_add _ _) ?_
  refine y_sld (v := zs g (7 * j + 1)) d_Lw_law_1369 (vp_in_nI (by omega) (by omega)) (by rw [nI_clamp (by omega)]; rfl) ?_
  refine y_i2c d_Lw_law_1370 (v := zc g (7 * j + 1)) rfl ?_
  refine y_aload_n d_Lw_law_1371 rfl 2 rfl ?_
  refine yw_callSX (As := [.ref (ad 0), .int (zc g (7 * j + 1)), .ref (ad 69)]) (rest := []) ln_Lw_282 w_st_Lw_cheapest ok_Lw_law_Lw_cheapest d_Lw_law_1372 (fun wA hA => W_cheapest (IVm.nil hA hI) _) rfl rfl (Nat.le_of_ble_eq_true rfl) (by omega) (by omega) (fun wA1372 hA1372 E wB1372 hx => ?_) (fun wA1372 hA1372 v wB1372 hx => ?_)
  · obtain ⟨⟨v9, e1⟩, -⟩ := hx
    cases e1
  · obtain ⟨⟨v9, e1⟩, uC, huC, hI2⟩ := hx
    cases e1
    refine yw_st (st2 := [.int v9]) rfl ?_
    have hI := hI2
    refine y_base (cs := []) (z_I.nil _) ?_
    refine y_istore (lv' := [(6, .int v9), (5, .int (nI (7 * j))), (4, .ref (ad 70)), (3, .ref (ad 69)), (2, .ref (ad 52)), (1, .ref (ad 0)), (0, .ref (g.2.2 40))]) d_Lw_law_1375 (by decide) rfl ?_
    refine y_aload_n d_Lw_law_1377 rfl 4 rfl ?_
    refine y_aload_n d_Lw_law_1378 rfl 6 rfl ?_
    refine y_iload d_Lw_law_1379 1 rfl ?_
    refine y_iconst d_Lw_law_1381 (v := 1) (by decide) ?_
    refine y_iadd d_Lw_law_1382 (v := nI ((7 * j) + 1)) (nI_add _ _) ?_
    refine y_sld (v := zs g (7 * j + 1)) d_Lw_law_1383 (vp_in_nI (by omega) (by omega)) (by rw [nI_clamp (by omega)]; rfl) ?_
    refine y_i2c d_Lw_law_1384 (v := zc g (7 * j + 1)) rfl ?_
    refine yw_callVL (As := [.int (zc g (7 * j + 1))]) (rest := []) (ci := 12) rfl (fun wA hA => (IVm.nil hA hI).rm) ln_Lw_284 w_im_Mm_cheapest w_se_Mm_cheapest ok_Lw_law_Mm_cheapest d_Lw_law_1385 (fun wA hA => K_Mm_cheapest (IVm.nil hA hI) _) rfl rfl (Nat.le_of_ble_eq_true rfl) (by omega) (by omega) (fun wA1385 hA1385 E wB1385 hx => ?_) (fun wA1385 hA1385 v wB1385 hx => ?_)
    · obtain ⟨⟨v8, e1⟩, -⟩ := hx
      cases e1
    · obtain ⟨⟨v8, e1⟩, uM, huM, hI2⟩ := hx
      cases e1
      refine yw_st (st2 := [.int v8]) rfl ?_
      have hI := hI2
      refine y_base (cs := []) (z_I.nil _) ?_
      refine y_istore (lv' := [(7, .int v8), (6, .int v9), (5, .int (nI (7 * j))), (4, .ref (ad 70)), (3, .ref (ad 69)), (2, .ref (ad 52)), (1, .ref (ad 0)), (0, .ref (g.2.2 40))]) d_Lw_law_1388 (by decide) rfl ?_
      refine y_goto (tgt := 1808) d_Lw_law_1390 (by decide) ?_
      refine y_lv (lv' := [(5, .int (nI (7 * j))), (4, .ref (ad 70)), (3, .ref (ad 69)), (2, .ref (ad 52)), (1, .ref (ad 0)), (0, .ref (g.2.2 40))]) [2, 3, 4, 5, 6, 7] rfl ?_
      refine y_end (fun wC hC => ?_)
      exact LC_next (IVm.nil hC hI) ((hR.n (huM.trans huC)).up (by omega)) hJ hL ih (by omega) (by omega)
theorem d_Lw_law_1393 : decode code 1393 = .ok (.aload_n 1, 1) := zo_43 (zd_b zq_code_43 17 rfl rfl rfl)
theorem d_Lw_law_1394 : decode code 1394 = .ok (.aload_n 3, 1) := zo_45 (zd_b zq_code_43 18 rfl rfl rfl)
theorem d_Lw_law_1395 : decode code 1395 = .ok (.invokestatic 285, 3) := zo_184 (d := 1) (e := 29) (zd_b zq_code_43 19 rfl rfl rfl) (zd_b zq_code_43 20 rfl rfl rfl) (zd_b zq_code_43 21 rfl rfl rfl)
theorem ok_Lw_law_Lw_mould : z_okX M_Lw_law M_Lw_mould 2 := ⟨z_mj5 (i := 214) rfl (by decide +kernel), by decide, ⟨by decide +kernel, by decide +kernel, by decide +kernel⟩, ⟨by decide, by decide⟩, z_mj1 (i := 0) rfl (by decide +kernel), rfl⟩
theorem ln_Lw_285 : Cond.methodLink "IronpourLaw" 285 M_Lw_mould.1 ∈ z_gw := z_mj5 (i := 212) rfl (by decide +kernel)
theorem w_st_Lw_mould : Cond.static M_Lw_mould.1 ∈ z_gw := z_mj5 (i := 213) rfl (by decide +kernel)
theorem d_Lw_law_1398 : decode code 1398 = .ok (.istore 6, 2) := zo_54 (d := 6) (zd_b zq_code_43 22 rfl rfl rfl) (zd_b zq_code_43 23 rfl rfl rfl)
theorem d_Lw_law_1400 : decode code 1400 = .ok (.aload_n 2, 1) := zo_44 (zd_b zq_code_43 24 rfl rfl rfl)
theorem d_Lw_law_1401 : decode code 1401 = .ok (.invokevirtual 287, 3) := zo_182 (d := 1) (e := 31) (zd_b zq_code_43 25 rfl rfl rfl) (zd_b zq_code_43 26 rfl rfl rfl) (zd_b zq_code_43 27 rfl rfl rfl)
theorem ok_Lw_law_Mm_mould : z_ok M_Lw_law M_Mm_mould 0 := ⟨z_mj8 (i := 223) rfl (by decide +kernel), rfl, ⟨by decide +kernel, by decide +kernel, by decide +kernel⟩, ⟨by decide, by decide⟩, z_mj1 (i := 14) rfl (by decide +kernel), rfl⟩
theorem ln_Lw_287 : Cond.methodLink "IronpourLaw" 287 M_Mm_mould.1 ∈ z_gw := z_mj8 (i := 220) rfl (by decide +kernel)
theorem w_im_Mm_mould : Cond.instanceMethod M_Mm_mould.1 ∈ z_gw := z_mj8 (i := 221) rfl (by decide +kernel)
theorem w_se_Mm_mould : Cond.selects M_Mm_mould.1.cls M_Mm_mould.1 M_Mm_mould.1 ∈ z_gw := z_mj8 (i := 222) rfl (by decide +kernel)
theorem d_Lw_law_1404 : decode code 1404 = .ok (.istore 7, 2) := zo_54 (d := 7) (zd_b zq_code_43 28 rfl rfl rfl) (zd_b zq_code_43 29 rfl rfl rfl)
theorem d_Lw_law_1406 : decode code 1406 = .ok (.goto 402, 3) := zo_167 (d := 1) (e := 146) (zd_b zq_code_43 30 rfl rfl rfl) (zd_b zq_code_43 31 rfl rfl rfl) (zd_b zq_code_44 0 rfl rfl rfl) (by decide +kernel)
set_option maxHeartbeats 4000000 in
set_option maxRecDepth 100000 in
theorem LC_mould {g : zG} {ad : Nat → Nat} {t : zTT} {u : zNN} {w : zW} {j : Nat} (hI : IVm g ad t u w) (hR : REL t u.1 (48 * j)) {r : Nat} (hJ : 7 * j + 7 ≤ g.2.2 41) (hL : g.2.2 41 ≤ 3584) (ih : LWI g ad j r) : DW g M_Lw_law lwQ w 1393 [(5, .int (nI (7 * j))), (4, .ref (ad 70)), (3, .ref (ad 69)), (2, .ref (ad 52)), (1, .ref (ad 0)), (0, .ref (g.2.2 40))] [] (100 * (r + 1)) (1000 * (r + 1)) := by
  refine y_base (cs := []) (z_I.nil w) ?_
  refine y_aload_n d_Lw_law_1393 rfl 4 rfl ?_
  refine y_aload_n d_Lw_law_1394 rfl 2 rfl ?_
  refine yw_callSX (As := [.ref (ad 0), .ref (ad 69)]) (rest := []) ln_Lw_285 w_st_Lw_mould ok_Lw_law_Lw_mould d_Lw_law_1395 (fun wA hA => W_mould (IVm.nil hA hI)) rfl rfl (Nat.le_of_ble_eq_true rfl) (by omega) (by omega) (fun wA1395 hA1395 E wB1395 hx => ?_) (fun wA1395 hA1395 v wB1395 hx => ?_)
  · obtain ⟨⟨v9, e1⟩, -⟩ := hx
    cases e1
  · obtain ⟨⟨v9, e1⟩, uC, huC, hI2⟩ := hx
    cases e1
    refine yw_st (st2 := [.int v9]) rfl ?_
    have hI := hI2
    refine y_base (cs := []) (z_I.nil _) ?_
    refine y_istore (lv' := [(6, .int v9), (5, .int (nI (7 * j))), (4, .ref (ad 70)), (3, .ref (ad 69)), (2, .ref (ad 52)), (1, .ref (ad 0)), (0, .ref (g.2.2 40))]) d_Lw_law_1398 (by decide) rfl ?_
    refine y_aload_n d_Lw_law_1400 rfl 4 rfl ?_
    refine yw_callVL (As := []) (rest := []) (ci := 12) rfl (fun wA hA => (IVm.nil hA hI).rm) ln_Lw_287 w_im_Mm_mould w_se_Mm_mould ok_Lw_law_Mm_mould d_Lw_law_1401 (fun wA hA => K_Mm_mould (IVm.nil hA hI)) rfl rfl (Nat.le_of_ble_eq_true rfl) (by omega) (by omega) (fun wA1401 hA1401 E wB1401 hx => ?_) (fun wA1401 hA1401 v wB1401 hx => ?_)
    · obtain ⟨⟨v8, e1⟩, -⟩ := hx
      cases e1
    · obtain ⟨⟨v8, e1⟩, uM, huM, hI2⟩ := hx
      cases e1
      refine yw_st (st2 := [.int v8]) rfl ?_
      have hI := hI2
      refine y_base (cs := []) (z_I.nil _) ?_
      refine y_istore (lv' := [(7, .int v8), (6, .int v9), (5, .int (nI (7 * j))), (4, .ref (ad 70)), (3, .ref (ad 69)), (2, .ref (ad 52)), (1, .ref (ad 0)), (0, .ref (g.2.2 40))]) d_Lw_law_1404 (by decide) rfl ?_
      refine y_goto (tgt := 1808) d_Lw_law_1406 (by decide) ?_
      refine y_lv (lv' := [(5, .int (nI (7 * j))), (4, .ref (ad 70)), (3, .ref (ad 69)), (2, .ref (ad 52)), (1, .ref (ad 0)), (0, .ref (g.2.2 40))]) [2, 3, 4, 5, 6, 7] rfl ?_
      refine y_end (fun wC hC => ?_)
      exact LC_next (IVm.nil hC hI) ((R_mould (by omega) hR huC huM).up (by omega)) hJ hL ih (by omega) (by omega)
theorem d_Lw_law_1409 : decode code 1409 = .ok (.aload_n 1, 1) := zo_43 (zd_b zq_code_44 1 rfl rfl rfl)
theorem d_Lw_law_1410 : decode code 1410 = .ok (.aload_n 0, 1) := zo_42 (zd_b zq_code_44 2 rfl rfl rfl)
theorem d_Lw_law_1411 : decode code 1411 = .ok (.iload 5, 2) := zo_21 (d := 5) (zd_b zq_code_44 3 rfl rfl rfl) (zd_b zq_code_44 4 rfl rfl rfl)
theorem d_Lw_law_1413 : decode code 1413 = .ok (.iconst 1, 1) := zo_4 (zd_b zq_code_44 5 rfl rfl rfl)
theorem d_Lw_law_1414 : decode code 1414 = .ok (.iadd, 1) := zo_96 (zd_b zq_code_44 6 rfl rfl rfl)
theorem d_Lw_law_1415 : decode code 1415 = .ok (.iaload, 1) := zo_46 (zd_b zq_code_44 7 rfl rfl rfl)
theorem d_Lw_law_1416 : decode code 1416 = .ok (.aload_n 3, 1) := zo_45 (zd_b zq_code_44 8 rfl rfl rfl)
theorem d_Lw_law_1417 : decode code 1417 = .ok (.invokestatic 288, 3) := zo_184 (d := 1) (e := 32) (zd_b zq_code_44 9 rfl rfl rfl) (zd_b zq_code_44 10 rfl rfl rfl) (zd_b zq_code_44 11 rfl rfl rfl)
theorem ok_Lw_law_Lw_waiting : z_okX M_Lw_law M_Lw_waiting 3 := ⟨z_mj6 (i := 99) rfl (by decide +kernel), by decide, ⟨by decide +kernel, by decide +kernel, by decide +kernel⟩, ⟨by decide, by decide⟩, z_mj1 (i := 0) rfl (by decide +kernel), rfl⟩
theorem ln_Lw_288 : Cond.methodLink "IronpourLaw" 288 M_Lw_waiting.1 ∈ z_gw := z_mj6 (i := 97) rfl (by decide +kernel)
theorem w_st_Lw_waiting : Cond.static M_Lw_waiting.1 ∈ z_gw := z_mj6 (i := 98) rfl (by decide +kernel)
theorem d_Lw_law_1420 : decode code 1420 = .ok (.istore 6, 2) := zo_54 (d := 6) (zd_b zq_code_44 12 rfl rfl rfl) (zd_b zq_code_44 13 rfl rfl rfl)
theorem d_Lw_law_1422 : decode code 1422 = .ok (.aload_n 2, 1) := zo_44 (zd_b zq_code_44 14 rfl rfl rfl)
theorem d_Lw_law_1423 : decode code 1423 = .ok (.aload_n 0, 1) := zo_42 (zd_b zq_code_44 15 rfl rfl rfl)
theorem d_Lw_law_1424 : decode code 1424 = .ok (.iload 5, 2) := zo_21 (d := 5) (zd_b zq_code_44 16 rfl rfl rfl) (zd_b zq_code_44 17 rfl rfl rfl)
theorem d_Lw_law_1426 : decode code 1426 = .ok (.iconst 1, 1) := zo_4 (zd_b zq_code_44 18 rfl rfl rfl)
theorem d_Lw_law_1427 : decode code 1427 = .ok (.iadd, 1) := zo_96 (zd_b zq_code_44 19 rfl rfl rfl)
theorem d_Lw_law_1428 : decode code 1428 = .ok (.iaload, 1) := zo_46 (zd_b zq_code_44 20 rfl rfl rfl)
theorem d_Lw_law_1429 : decode code 1429 = .ok (.invokevirtual 290, 3) := zo_182 (d := 1) (e := 34) (zd_b zq_code_44 21 rfl rfl rfl) (zd_b zq_code_44 22 rfl rfl rfl) (zd_b zq_code_44 23 rfl rfl rfl)
theorem ok_Lw_law_Mm_waiting : z_ok M_Lw_law M_Mm_waiting 1 := ⟨z_mj8 (i := 235) rfl (by decide +kernel), rfl, ⟨by decide +kernel, by decide +kernel, by decide +kernel⟩, ⟨by decide, by decide⟩, z_mj1 (i := 14) rfl (by decide +kernel), rfl⟩
theorem ln_Lw_290 : Cond.methodLink "IronpourLaw" 290 M_Mm_waiting.1 ∈ z_gw := z_mj8 (i := 232) rfl (by decide +kernel)
theorem w_im_Mm_waiting : Cond.instanceMethod M_Mm_waiting.1 ∈ z_gw := z_mj8 (i := 233) rfl (by decide +kernel)
theorem w_se_Mm_waiting : Cond.selects M_Mm_waiting.1.cls M_Mm_waiting.1 M_Mm_waiting.1 ∈ z_gw := z_mj8 (i := 234) rfl (by decide +kernel)
theorem d_Lw_law_1432 : decode code 1432 = .ok (.istore 7, 2) := zo_54 (d := 7) (zd_b zq_code_44 24 rfl rfl rfl) (zd_b zq_code_44 25 rfl rfl rfl)
theorem d_Lw_law_1434 : decode code 1434 = .ok (.goto 374, 3) := zo_167 (d := 1) (e := 118) (zd_b zq_code_44 26 rfl rfl rfl) (zd_b zq_code_44 27 rfl rfl rfl) (zd_b zq_code_44 28 rfl rfl rfl) (by decide +kernel)
set_option maxHeartbeats 4000000 in
set_option maxRecDepth 100000 in
theorem LC_waiting {g : zG} {ad : Nat → Nat} {t : zTT} {u : zNN} {w : zW} {j : Nat} (hI : IVm g ad t u w) (hR : REL t u.1 (48 * j)) {r : Nat} (hJ : 7 * j + 7 ≤ g.2.2 41) (hL : g.2.2 41 ≤ 3584) (ih : LWI g ad j r) : DW g M_Lw_law lwQ w 1409 [(5, .int (nI (7 * j))), (4, .ref (ad 70)), (3, .ref (ad 69)), (2, .ref (ad 52)), (1, .ref (ad 0)), (0, .ref (g.2.2 40))] [] (100 * (r + 1)) (1000 * (r + 1)) := by
  refine y_base (cs := []) (z_I.nil w) ?_
  refine y_aload_n d_Lw_law_1409 rfl 4 rfl ?_
  refine y_aload_n d_Lw_law_1410 rfl 5 rfl ?_
  refine y_iload d_Lw_law_1411 0 rfl ?_
  refine y_iconst d_Lw_law_1413 (v := 1) (by decide) ?_
  refine y_iadd d_Lw_law_1414 (v := nI ((7 * j) + 1)) (nI_add _ _) ?_
  refine y_sld (v := zs g (7 * j + 1)) d_Lw_law_1415 (vp_in_nI (by omega) (by omega)) (by rw [nI_clamp (by omega)]; rfl) ?_
  refine y_aload_n d_Lw_law_1416 rfl 2 rfl ?_
  refine yw_callSX (As := [.ref (ad 0), .int (zs g (7 * j + 1)), .ref (ad 69)]) (rest := []) ln_Lw_288 w_st_Lw_waiting ok_Lw_law_Lw_waiting d_Lw_law_1417 (fun wA hA => W_waiting (IVm.nil hA hI) _) rfl rfl (Nat.le_of_ble_eq_true rfl) (by omega) (by omega) (fun wA1417 hA1417 E wB1417 hx => ?_) (fun wA1417 hA1417 v wB1417 hx => ?_)
  · obtain ⟨⟨v9, e1⟩, -⟩ := hx
    cases e1
  · obtain ⟨⟨v9, e1⟩, uC, huC, hI2⟩ := hx
    cases e1
    refine yw_st (st2 := [.int v9]) rfl ?_
    have hI := hI2
    refine y_base (cs := []) (z_I.nil _) ?_
    refine y_istore (lv' := [(6, .int v9), (5, .int (nI (7 * j))), (4, .ref (ad 70)), (3, .ref (ad 69)), (2, .ref (ad 52)), (1, .ref (ad 0)), (0, .ref (g.2.2 40))]) d_Lw_law_1420 (by decide) rfl ?_
    refine y_aload_n d_Lw_law_1422 rfl 4 rfl ?_
    refine y_aload_n d_Lw_law_1423 rfl 6 rfl ?_
    refine y_iload d_Lw_law_1424 1 rfl ?_
    refine y_iconst d_Lw_law_1426 (v := 1) (by decide) ?_
    refine y_iadd d_Lw_law_1427 (v := nI ((7 * j) + 1)) (nI_add _ _) ?_
    refine y_sld (v := zs g (7 * j + 1)) d_Lw_law_1428 (vp_in_nI (by omega) (by omega)) (by rw [nI_clamp (by omega)]; rfl) ?_
    refine yw_callVL (As := [.int (zs g (7 * j + 1))]) (rest := []) (ci := 12) rfl (fun wA hA => (IVm.nil hA hI).rm) ln_Lw_290 w_im_Mm_waiting w_se_Mm_waiting ok_Lw_law_Mm_waiting d_Lw_law_1429 (fun wA hA => K_Mm_waiting (IVm.nil hA hI) _) rfl rfl (Nat.le_of_ble_eq_true rfl) (by omega) (by omega) (fun wA1429 hA1429 E wB1429 hx => ?_) (fun wA1429 hA1429 v wB1429 hx => ?_)
    · obtain ⟨⟨v8, e1⟩, -⟩ := hx
      cases e1
    · obtain ⟨⟨v8, e1⟩, uM, huM, hI2⟩ := hx
      cases e1
      refine yw_st (st2 := [.int v8]) rfl ?_
      have hI := hI2
      refine y_base (cs := []) (z_I.nil _) ?_
      refine y_istore (lv' := [(7, .int v8), (6, .int v9), (5, .int (nI (7 * j))), (4, .ref (ad 70)), (3, .ref (ad 69)), (2, .ref (ad 52)), (1, .ref (ad 0)), (0, .ref (g.2.2 40))]) d_Lw_law_1432 (by decide) rfl ?_
      refine y_goto (tgt := 1808) d_Lw_law_1434 (by decide) ?_
      refine y_lv (lv' := [(5, .int (nI (7 * j))), (4, .ref (ad 70)), (3, .ref (ad 69)), (2, .ref (ad 52)), (1, .ref (ad 0)), (0, .ref (g.2.2 40))]) [2, 3, 4, 5, 6, 7] rfl ?_
      refine y_end (fun wC hC => ?_)
      exact LC_next (IVm.nil hC hI) ((hR.n (huM.trans huC)).up (by omega)) hJ hL ih (by omega) (by omega)
theorem d_Lw_law_1437 : decode code 1437 = .ok (.aload_n 1, 1) := zo_43 (zd_b zq_code_44 29 rfl rfl rfl)
theorem d_Lw_law_1438 : decode code 1438 = .ok (.aload_n 3, 1) := zo_45 (zd_b zq_code_44 30 rfl rfl rfl)
theorem d_Lw_law_1439 : decode code 1439 = .ok (.invokestatic 291, 3) := zo_184 (d := 1) (e := 35) (zd_b zq_code_44 31 rfl rfl rfl) (zd_b zq_code_45 0 rfl rfl rfl) (zd_b zq_code_45 1 rfl rfl rfl)
theorem ok_Lw_law_Lw_pour : z_okX M_Lw_law M_Lw_pour 2 := ⟨z_mj6 (i := 107) rfl (by decide +kernel), by decide, ⟨by decide +kernel, by decide +kernel, by decide +kernel⟩, ⟨by decide, by decide⟩, z_mj1 (i := 0) rfl (by decide +kernel), rfl⟩
theorem ln_Lw_291 : Cond.methodLink "IronpourLaw" 291 M_Lw_pour.1 ∈ z_gw := z_mj6 (i := 105) rfl (by decide +kernel)
theorem w_st_Lw_pour : Cond.static M_Lw_pour.1 ∈ z_gw := z_mj6 (i := 106) rfl (by decide +kernel)
theorem d_Lw_law_1442 : decode code 1442 = .ok (.istore 6, 2) := zo_54 (d := 6) (zd_b zq_code_45 2 rfl rfl rfl) (zd_b zq_code_45 3 rfl rfl rfl)
theorem d_Lw_law_1444 : decode code 1444 = .ok (.aload_n 2, 1) := zo_44 (zd_b zq_code_45 4 rfl rfl rfl)
theorem d_Lw_law_1445 : decode code 1445 = .ok (.invokevirtual 293, 3) := zo_182 (d := 1) (e := 37) (zd_b zq_code_45 5 rfl rfl rfl) (zd_b zq_code_45 6 rfl rfl rfl) (zd_b zq_code_45 7 rfl rfl rfl)
theorem ok_Lw_law_Mm_pour : z_ok M_Lw_law M_Mm_pour 0 := ⟨z_mj8 (i := 239) rfl (by decide +kernel), rfl, ⟨by decide +kernel, by decide +kernel, by decide +kernel⟩, ⟨by decide, by decide⟩, z_mj1 (i := 14) rfl (by decide +kernel), rfl⟩
theorem ln_Lw_293 : Cond.methodLink "IronpourLaw" 293 M_Mm_pour.1 ∈ z_gw := z_mj8 (i := 236) rfl (by decide +kernel)
theorem w_im_Mm_pour : Cond.instanceMethod M_Mm_pour.1 ∈ z_gw := z_mj8 (i := 237) rfl (by decide +kernel)
theorem w_se_Mm_pour : Cond.selects M_Mm_pour.1.cls M_Mm_pour.1 M_Mm_pour.1 ∈ z_gw := z_mj8 (i := 238) rfl (by decide +kernel)
theorem d_Lw_law_1448 : decode code 1448 = .ok (.istore 7, 2) := zo_54 (d := 7) (zd_b zq_code_45 8 rfl rfl rfl) (zd_b zq_code_45 9 rfl rfl rfl)
theorem d_Lw_law_1450 : decode code 1450 = .ok (.goto 358, 3) := zo_167 (d := 1) (e := 102) (zd_b zq_code_45 10 rfl rfl rfl) (zd_b zq_code_45 11 rfl rfl rfl) (zd_b zq_code_45 12 rfl rfl rfl) (by decide +kernel)
set_option maxHeartbeats 4000000 in
set_option maxRecDepth 100000 in
theorem LC_pour {g : zG} {ad : Nat → Nat} {t : zTT} {u : zNN} {w : zW} {j : Nat} (hI : IVm g ad t u w) (hR : REL t u.1 (48 * j)) {r : Nat} (hJ : 7 * j + 7 ≤ g.2.2 41) (hL : g.2.2 41 ≤ 3584) (ih : LWI g ad j r) : DW g M_Lw_law lwQ w 1437 [(5, .int (nI (7 * j))), (4, .ref (ad 70)), (3, .ref (ad 69)), (2, .ref (ad 52)), (1, .ref (ad 0)), (0, .ref (g.2.2 40))] [] (100 * (r + 1)) (1000 * (r + 1)) := by
  have hI0 := hI
  refine y_base (cs := []) (z_I.nil w) ?_
  refine y_aload_n d_Lw_law_1437 rfl 4 rfl ?_
  refine y_aload_n d_Lw_law_1438 rfl 2 rfl ?_
  refine yw_callSX (As := [.ref (ad 0), .ref (ad 69)]) (rest := []) ln_Lw_291 w_st_Lw_pour ok_Lw_law_Lw_pour d_Lw_law_1439 (fun wA hA => W_pour (IVm.nil hA hI)) rfl rfl (Nat.le_of_ble_eq_true rfl) (by omega) (by omega) (fun wA1439 hA1439 E wB1439 hx => ?_) (fun wA1439 hA1439 v wB1439 hx => ?_)
  · obtain ⟨X9, ⟨v9, e1⟩, -⟩ := hx
    cases e1
  · obtain ⟨X9, ⟨v9, e1⟩, uC, huC, hI2⟩ := hx
    cases e1
    refine yw_st (st2 := [.int v9]) rfl ?_
    have hI := hI2
    refine y_base (cs := []) (z_I.nil _) ?_
    refine y_istore (lv' := [(6, .int v9), (5, .int (nI (7 * j))), (4, .ref (ad 70)), (3, .ref (ad 69)), (2, .ref (ad 52)), (1, .ref (ad 0)), (0, .ref (g.2.2 40))]) d_Lw_law_1442 (by decide) rfl ?_
    refine y_aload_n d_Lw_law_1444 rfl 4 rfl ?_
    refine yw_callVL (As := []) (rest := []) (ci := 12) rfl (fun wA hA => (IVm.nil hA hI).rm) ln_Lw_293 w_im_Mm_pour w_se_Mm_pour ok_Lw_law_Mm_pour d_Lw_law_1445 (fun wA hA => K_Mm_pour (IVm.nil hA hI)) rfl rfl (Nat.le_of_ble_eq_true rfl) (by omega) (by omega) (fun wA1445 hA1445 E wB1445 hx => ?_) (fun wA1445 hA1445 v wB1445 hx => ?_)
    · obtain ⟨S9, ⟨v8, e1⟩, -⟩ := hx
      cases e1
    · obtain ⟨S9, ⟨v8, e1⟩, uM, huM, hI2⟩ := hx
      cases e1
      refine yw_st (st2 := [.int v8]) rfl ?_
      have hI := hI2
      refine y_base (cs := []) (z_I.nil _) ?_
      refine y_istore (lv' := [(7, .int v8), (6, .int v9), (5, .int (nI (7 * j))), (4, .ref (ad 70)), (3, .ref (ad 69)), (2, .ref (ad 52)), (1, .ref (ad 0)), (0, .ref (g.2.2 40))]) d_Lw_law_1448 (by decide) rfl ?_
      refine y_goto (tgt := 1808) d_Lw_law_1450 (by decide) ?_
      refine y_lv (lv' := [(5, .int (nI (7 * j))), (4, .ref (ad 70)), (3, .ref (ad 69)), (2, .ref (ad 52)), (1, .ref (ad 0)), (0, .ref (g.2.2 40))]) [2, 3, 4, 5, 6, 7] rfl ?_
      refine y_end (fun wC hC => ?_)
      exact LC_next (IVm.nil hC hI) ((R_pour (fun q => IVm.px hI0 q) hR huC huM).up (by omega)) hJ hL ih (by omega) (by omega)
theorem d_Lw_law_1453 : decode code 1453 = .ok (.aload_n 1, 1) := zo_43 (zd_b zq_code_45 13 rfl rfl rfl)
theorem d_Lw_law_1454 : decode code 1454 = .ok (.invokevirtual 294, 3) := zo_182 (d := 1) (e := 38) (zd_b zq_code_45 14 rfl rfl rfl) (zd_b zq_code_45 15 rfl rfl rfl) (zd_b zq_code_45 16 rfl rfl rfl)
theorem ok_Lw_law_Ip_castings : z_ok M_Lw_law M_Ip_castings 0 := ⟨z_mj2 (i := 168) rfl (by decide +kernel), rfl, ⟨by decide +kernel, by decide +kernel, by decide +kernel⟩, ⟨by decide, by decide⟩, z_mj1 (i := 1) rfl (by decide +kernel), rfl⟩
theorem ln_Lw_294 : Cond.methodLink "IronpourLaw" 294 M_Ip_castings.1 ∈ z_gw := z_mj2 (i := 165) rfl (by decide +kernel)
theorem w_im_Ip_castings : Cond.instanceMethod M_Ip_castings.1 ∈ z_gw := z_mj2 (i := 166) rfl (by decide +kernel)
theorem w_se_Ip_castings : Cond.selects M_Ip_castings.1.cls M_Ip_castings.1 M_Ip_castings.1 ∈ z_gw := z_mj2 (i := 167) rfl (by decide +kernel)
theorem d_Lw_law_1457 : decode code 1457 = .ok (.pop, 1) := zo_87 (zd_b zq_code_45 17 rfl rfl rfl)
theorem d_Lw_law_1458 : decode code 1458 = .ok (.aload_n 2, 1) := zo_44 (zd_b zq_code_45 18 rfl rfl rfl)
theorem d_Lw_law_1459 : decode code 1459 = .ok (.invokevirtual 297, 3) := zo_182 (d := 1) (e := 41) (zd_b zq_code_45 19 rfl rfl rfl) (zd_b zq_code_45 20 rfl rfl rfl) (zd_b zq_code_45 21 rfl rfl rfl)
theorem ok_Lw_law_Mm_castings : z_ok M_Lw_law M_Mm_castings 0 := ⟨z_mj9 (i := 9) rfl (by decide +kernel), rfl, ⟨by decide +kernel, by decide +kernel, by decide +kernel⟩, ⟨by decide, by decide⟩, z_mj1 (i := 14) rfl (by decide +kernel), rfl⟩
theorem ln_Lw_297 : Cond.methodLink "IronpourLaw" 297 M_Mm_castings.1 ∈ z_gw := z_mj9 (i := 6) rfl (by decide +kernel)
theorem w_im_Mm_castings : Cond.instanceMethod M_Mm_castings.1 ∈ z_gw := z_mj9 (i := 7) rfl (by decide +kernel)
theorem w_se_Mm_castings : Cond.selects M_Mm_castings.1.cls M_Mm_castings.1 M_Mm_castings.1 ∈ z_gw := z_mj9 (i := 8) rfl (by decide +kernel)
theorem d_Lw_law_1462 : decode code 1462 = .ok (.pop, 1) := zo_87 (zd_b zq_code_45 22 rfl rfl rfl)
theorem d_Lw_law_1463 : decode code 1463 = .ok (.goto 345, 3) := zo_167 (d := 1) (e := 89) (zd_b zq_code_45 23 rfl rfl rfl) (zd_b zq_code_45 24 rfl rfl rfl) (zd_b zq_code_45 25 rfl rfl rfl) (by decide +kernel)
set_option maxHeartbeats 4000000 in
set_option maxRecDepth 100000 in
theorem LC_castings {g : zG} {ad : Nat → Nat} {t : zTT} {u : zNN} {w : zW} {j : Nat} (hI : IVm g ad t u w) (hR : REL t u.1 (48 * j)) {r : Nat} (hJ : 7 * j + 7 ≤ g.2.2 41) (hL : g.2.2 41 ≤ 3584) (ih : LWI g ad j r) : DW g M_Lw_law lwQ w 1453 [(5, .int (nI (7 * j))), (4, .ref (ad 70)), (3, .ref (ad 69)), (2, .ref (ad 52)), (1, .ref (ad 0)), (0, .ref (g.2.2 40))] [] (100 * (r + 1)) (1000 * (r + 1)) := by
  refine y_base (cs := []) (z_I.nil w) ?_
  refine y_aload_n d_Lw_law_1453 rfl 4 rfl ?_
  refine yw_callVL (As := []) (rest := []) (ci := 11) rfl (fun wA hA => (IVm.nil hA hI).ra) ln_Lw_294 w_im_Ip_castings w_se_Ip_castings ok_Lw_law_Ip_castings d_Lw_law_1454 (fun wA hA => K_Ip_castings (IVm.nil hA hI)) rfl rfl (Nat.le_of_ble_eq_true rfl) (by omega) (by omega) (fun wA1454 hA1454 E wB1454 hx => ?_) (fun wA1454 hA1454 v wB1454 hx => ?_)
  · obtain ⟨h1, -⟩ := hx
    cases zriE h1
  · obtain ⟨h1, uC, huC, hI2⟩ := hx
    obtain ⟨v9, rfl⟩ := zriV h1
    refine yw_st (st2 := [.int v9]) rfl ?_
    have hI := hI2
    refine y_base (cs := []) (z_I.nil _) ?_
    refine y_pop d_Lw_law_1457 rfl ?_
    refine y_aload_n d_Lw_law_1458 rfl 3 rfl ?_
    refine yw_callVL (As := []) (rest := []) (ci := 12) rfl (fun wA hA => (IVm.nil hA hI).rm) ln_Lw_297 w_im_Mm_castings w_se_Mm_castings ok_Lw_law_Mm_castings d_Lw_law_1459 (fun wA hA => K_Mm_castings (IVm.nil hA hI)) rfl rfl (Nat.le_of_ble_eq_true rfl) (by omega) (by omega) (fun wA1459 hA1459 E wB1459 hx => ?_) (fun wA1459 hA1459 v wB1459 hx => ?_)
    · obtain ⟨⟨v8, e1⟩, -⟩ := hx
      cases e1
    · obtain ⟨⟨v8, e1⟩, uM, huM, hI2⟩ := hx
      cases e1
      refine yw_st (st2 := [.int v8]) rfl ?_
      have hI := hI2
      refine y_base (cs := []) (z_I.nil _) ?_
      refine y_pop d_Lw_law_1462 rfl ?_
      refine y_goto (tgt := 1808) d_Lw_law_1463 (by decide) ?_
      refine y_lv (lv' := [(5, .int (nI (7 * j))), (4, .ref (ad 70)), (3, .ref (ad 69)), (2, .ref (ad 52)), (1, .ref (ad 0)), (0, .ref (g.2.2 40))]) [0, 1, 2, 3, 4, 5] rfl ?_
      refine y_end (fun wC hC => ?_)
      exact LC_next (IVm.nil hC hI) ((hR.n (huM.trans huC)).up (by omega)) hJ hL ih (by omega) (by omega)
theorem d_Lw_law_1522 : decode code 1522 = .ok (.aload_n 1, 1) := zo_43 (zd_b zq_code_47 18 rfl rfl rfl)
theorem d_Lw_law_1523 : decode code 1523 = .ok (.aload_n 0, 1) := zo_42 (zd_b zq_code_47 19 rfl rfl rfl)
theorem d_Lw_law_1524 : decode code 1524 = .ok (.iload 5, 2) := zo_21 (d := 5) (zd_b zq_code_47 20 rfl rfl rfl) (zd_b zq_code_47 21 rfl rfl rfl)
theorem d_Lw_law_1526 : decode code 1526 = .ok (.iconst 1, 1) := zo_4 (zd_b zq_code_47 22 rfl rfl rfl)
theorem d_Lw_law_1527 : decode code 1527 = .ok (.iadd, 1) := zo_96 (zd_b zq_code_47 23 rfl rfl rfl)
theorem d_Lw_law_1528 : decode code 1528 = .ok (.iaload, 1) := zo_46 (zd_b zq_code_47 24 rfl rfl rfl)
theorem d_Lw_law_1529 : decode code 1529 = .ok (.aload_n 3, 1) := zo_45 (zd_b zq_code_47 25 rfl rfl rfl)
theorem d_Lw_law_1530 : decode code 1530 = .ok (.invokestatic 304, 3) := zo_184 (d := 1) (e := 48) (zd_b zq_code_47 26 rfl rfl rfl) (zd_b zq_code_47 27 rfl rfl rfl) (zd_b zq_code_47 28 rfl rfl rfl)
theorem ok_Lw_law_Lw_faults : z_okX M_Lw_law M_Lw_faults 3 := ⟨z_mj6 (i := 198) rfl (by decide +kernel), by decide, ⟨by decide +kernel, by decide +kernel, by decide +kernel⟩, ⟨by decide, by decide⟩, z_mj1 (i := 0) rfl (by decide +kernel), rfl⟩
theorem ln_Lw_304 : Cond.methodLink "IronpourLaw" 304 M_Lw_faults.1 ∈ z_gw := z_mj6 (i := 196) rfl (by decide +kernel)
theorem w_st_Lw_faults : Cond.static M_Lw_faults.1 ∈ z_gw := z_mj6 (i := 197) rfl (by decide +kernel)
theorem d_Lw_law_1533 : decode code 1533 = .ok (.istore 6, 2) := zo_54 (d := 6) (zd_b zq_code_47 29 rfl rfl rfl) (zd_b zq_code_47 30 rfl rfl rfl)
theorem d_Lw_law_1535 : decode code 1535 = .ok (.aload_n 2, 1) := zo_44 (zd_b zq_code_47 31 rfl rfl rfl)
theorem d_Lw_law_1536 : decode code 1536 = .ok (.aload_n 0, 1) := zo_42 (zd_b zq_code_48 0 rfl rfl rfl)
theorem d_Lw_law_1537 : decode code 1537 = .ok (.iload 5, 2) := zo_21 (d := 5) (zd_b zq_code_48 1 rfl rfl rfl) (zd_b zq_code_48 2 rfl rfl rfl)
theorem d_Lw_law_1539 : decode code 1539 = .ok (.iconst 1, 1) := zo_4 (zd_b zq_code_48 3 rfl rfl rfl)
theorem d_Lw_law_1540 : decode code 1540 = .ok (.iadd, 1) := zo_96 (zd_b zq_code_48 4 rfl rfl rfl)
theorem d_Lw_law_1541 : decode code 1541 = .ok (.iaload, 1) := zo_46 (zd_b zq_code_48 5 rfl rfl rfl)
theorem d_Lw_law_1542 : decode code 1542 = .ok (.invokevirtual 306, 3) := zo_182 (d := 1) (e := 50) (zd_b zq_code_48 6 rfl rfl rfl) (zd_b zq_code_48 7 rfl rfl rfl) (zd_b zq_code_48 8 rfl rfl rfl)
theorem ok_Lw_law_Mm_faults : z_ok M_Lw_law M_Mm_faults 1 := ⟨z_mj9 (i := 21) rfl (by decide +kernel), rfl, ⟨by decide +kernel, by decide +kernel, by decide +kernel⟩, ⟨by decide, by decide⟩, z_mj1 (i := 14) rfl (by decide +kernel), rfl⟩
theorem ln_Lw_306 : Cond.methodLink "IronpourLaw" 306 M_Mm_faults.1 ∈ z_gw := z_mj9 (i := 18) rfl (by decide +kernel)
theorem w_im_Mm_faults : Cond.instanceMethod M_Mm_faults.1 ∈ z_gw := z_mj9 (i := 19) rfl (by decide +kernel)
theorem w_se_Mm_faults : Cond.selects M_Mm_faults.1.cls M_Mm_faults.1 M_Mm_faults.1 ∈ z_gw := z_mj9 (i := 20) rfl (by decide +kernel)
theorem d_Lw_law_1545 : decode code 1545 = .ok (.istore 7, 2) := zo_54 (d := 7) (zd_b zq_code_48 9 rfl rfl rfl) (zd_b zq_code_48 10 rfl rfl rfl)
theorem d_Lw_law_1547 : decode code 1547 = .ok (.goto 261, 3) := zo_167 (d := 1) (e := 5) (zd_b zq_code_48 11 rfl rfl rfl) (zd_b zq_code_48 12 rfl rfl rfl) (zd_b zq_code_48 13 rfl rfl rfl) (by decide +kernel)
set_option maxHeartbeats 4000000 in
set_option maxRecDepth 100000 in
theorem LC_faults {g : zG} {ad : Nat → Nat} {t : zTT} {u : zNN} {w : zW} {j : Nat} (hI : IVm g ad t u w) (hR : REL t u.1 (48 * j)) {r : Nat} (hJ : 7 * j + 7 ≤ g.2.2 41) (hL : g.2.2 41 ≤ 3584) (ih : LWI g ad j r) : DW g M_Lw_law lwQ w 1522 [(5, .int (nI (7 * j))), (4, .ref (ad 70)), (3, .ref (ad 69)), (2, .ref (ad 52)), (1, .ref (ad 0)), (0, .ref (g.2.2 40))] [] (100 * (r + 1)) (1000 * (r + 1)) := by
  refine y_base (cs := []) (z_I.nil w) ?_
  refine y_aload_n d_Lw_law_1522 rfl 4 rfl ?_
  refine y_aload_n d_Lw_law_1523 rfl 5 rfl ?_
  refine y_iload d_Lw_law_1524 0 rfl ?_
  refine y_iconst d_Lw_law_1526 (v := 1) (by decide) ?_
  refine y_iadd d_Lw_law_1527 (v := nI ((7 * j) + 1)) (nI_add _ _) ?_
  refine y_sld (v := zs g (7 * j + 1)) d_Lw_law_1528 (vp_in_nI (by omega) (by omega)) (by rw [nI_clamp (by omega)]; rfl) ?_
  refine y_aload_n d_Lw_law_1529 rfl 2 rfl ?_
  refine yw_callSX (As := [.ref (ad 0), .int (zs g (7 * j + 1)), .ref (ad 69)]) (rest := []) ln_Lw_304 w_st_Lw_faults ok_Lw_law_Lw_faults d_Lw_law_1530 (fun wA hA => W_faults (IVm.nil hA hI) _) rfl rfl (Nat.le_of_ble_eq_true rfl) (by omega) (by omega) (fun wA1530 hA1530 E wB1530 hx => ?_) (fun wA1530 hA1530 v wB1530 hx => ?_)
  · obtain ⟨⟨v9, e1⟩, -⟩ := hx
    cases e1
  · obtain ⟨⟨v9, e1⟩, uC, huC, hI2⟩ := hx
    cases e1
    refine yw_st (st2 := [.int v9]) rfl ?_
    have hI := hI2
    refine y_base (cs := []) (z_I.nil _) ?_
    refine y_istore (lv' := [(6, .int v9), (5, .int (nI (7 * j))), (4, .ref (ad 70)), (3, .ref (ad 69)), (2, .ref (ad 52)), (1, .ref (ad 0)), (0, .ref (g.2.2 40))]) d_Lw_law_1533 (by decide) rfl ?_
    refine y_aload_n d_Lw_law_1535 rfl 4 rfl ?_
    refine y_aload_n d_Lw_law_1536 rfl 6 rfl ?_
    refine y_iload d_Lw_law_1537 1 rfl ?_
    refine y_iconst d_Lw_law_1539 (v := 1) (by decide) ?_
    refine y_iadd d_Lw_law_1540 (v := nI ((7 * j) + 1)) (nI_add _ _) ?_
    refine y_sld (v := zs g (7 * j + 1)) d_Lw_law_1541 (vp_in_nI (by omega) (by omega)) (by rw [nI_clamp (by omega)]; rfl) ?_
    refine yw_callVL (As := [.int (zs g (7 * j + 1))]) (rest := []) (ci := 12) rfl (fun wA hA => (IVm.nil hA hI).rm) ln_Lw_306 w_im_Mm_faults w_se_Mm_faults ok_Lw_law_Mm_faults d_Lw_law_1542 (fun wA hA => K_Mm_faults (IVm.nil hA hI) _) rfl rfl (Nat.le_of_ble_eq_true rfl) (by omega) (by omega) (fun wA1542 hA1542 E wB1542 hx => ?_) (fun wA1542 hA1542 v wB1542 hx => ?_)
    · obtain ⟨⟨v8, e1⟩, -⟩ := hx
      cases e1
    · obtain ⟨⟨v8, e1⟩, uM, huM, hI2⟩ := hx
      cases e1
      refine yw_st (st2 := [.int v8]) rfl ?_
      have hI := hI2
      refine y_base (cs := []) (z_I.nil _) ?_
      refine y_istore (lv' := [(7, .int v8), (6, .int v9), (5, .int (nI (7 * j))), (4, .ref (ad 70)), (3, .ref (ad 69)), (2, .ref (ad 52)), (1, .ref (ad 0)), (0, .ref (g.2.2 40))]) d_Lw_law_1545 (by decide) rfl ?_
      refine y_goto (tgt := 1808) d_Lw_law_1547 (by decide) ?_
      refine y_lv (lv' := [(5, .int (nI (7 * j))), (4, .ref (ad 70)), (3, .ref (ad 69)), (2, .ref (ad 52)), (1, .ref (ad 0)), (0, .ref (g.2.2 40))]) [2, 3, 4, 5, 6, 7] rfl ?_
      refine y_end (fun wC hC => ?_)
      exact LC_next (IVm.nil hC hI) ((hR.n (huM.trans huC)).up (by omega)) hJ hL ih (by omega) (by omega)
theorem d_Lw_law_1550 : decode code 1550 = .ok (.aload_n 1, 1) := zo_43 (zd_b zq_code_48 14 rfl rfl rfl)
theorem d_Lw_law_1551 : decode code 1551 = .ok (.aload_n 0, 1) := zo_42 (zd_b zq_code_48 15 rfl rfl rfl)
theorem d_Lw_law_1552 : decode code 1552 = .ok (.iload 5, 2) := zo_21 (d := 5) (zd_b zq_code_48 16 rfl rfl rfl) (zd_b zq_code_48 17 rfl rfl rfl)
theorem d_Lw_law_1554 : decode code 1554 = .ok (.iconst 1, 1) := zo_4 (zd_b zq_code_48 18 rfl rfl rfl)
theorem d_Lw_law_1555 : decode code 1555 = .ok (.iadd, 1) := zo_96 (zd_b zq_code_48 19 rfl rfl rfl)
theorem d_Lw_law_1556 : decode code 1556 = .ok (.iaload, 1) := zo_46 (zd_b zq_code_48 20 rfl rfl rfl)
theorem d_Lw_law_1557 : decode code 1557 = .ok (.aload_n 3, 1) := zo_45 (zd_b zq_code_48 21 rfl rfl rfl)
theorem d_Lw_law_1558 : decode code 1558 = .ok (.invokestatic 307, 3) := zo_184 (d := 1) (e := 51) (zd_b zq_code_48 22 rfl rfl rfl) (zd_b zq_code_48 23 rfl rfl rfl) (zd_b zq_code_48 24 rfl rfl rfl)
theorem ok_Lw_law_Lw_shrunkIn : z_okX M_Lw_law M_Lw_shrunkIn 3 := ⟨z_mj6 (i := 205) rfl (by decide +kernel), by decide, ⟨by decide +kernel, by decide +kernel, by decide +kernel⟩, ⟨by decide, by decide⟩, z_mj1 (i := 0) rfl (by decide +kernel), rfl⟩
theorem ln_Lw_307 : Cond.methodLink "IronpourLaw" 307 M_Lw_shrunkIn.1 ∈ z_gw := z_mj6 (i := 203) rfl (by decide +kernel)
theorem w_st_Lw_shrunkIn : Cond.static M_Lw_shrunkIn.1 ∈ z_gw := z_mj6 (i := 204) rfl (by decide +kernel)
theorem d_Lw_law_1561 : decode code 1561 = .ok (.istore 6, 2) := zo_54 (d := 6) (zd_b zq_code_48 25 rfl rfl rfl) (zd_b zq_code_48 26 rfl rfl rfl)
theorem d_Lw_law_1563 : decode code 1563 = .ok (.aload_n 2, 1) := zo_44 (zd_b zq_code_48 27 rfl rfl rfl)
theorem d_Lw_law_1564 : decode code 1564 = .ok (.aload_n 0, 1) := zo_42 (zd_b zq_code_48 28 rfl rfl rfl)
theorem d_Lw_law_1565 : decode code 1565 = .ok (.iload 5, 2) := zo_21 (d := 5) (zd_b zq_code_48 29 rfl rfl rfl) (zd_b zq_code_48 30 rfl rfl rfl)
theorem d_Lw_law_1567 : decode code 1567 = .ok (.iconst 1, 1) := zo_4 (zd_b zq_code_48 31 rfl rfl rfl)
theorem d_Lw_law_1568 : decode code 1568 = .ok (.iadd, 1) := zo_96 (zd_b zq_code_49 0 rfl rfl rfl)
theorem d_Lw_law_1569 : decode code 1569 = .ok (.iaload, 1) := zo_46 (zd_b zq_code_49 1 rfl rfl rfl)
theorem d_Lw_law_1570 : decode code 1570 = .ok (.invokevirtual 309, 3) := zo_182 (d := 1) (e := 53) (zd_b zq_code_49 2 rfl rfl rfl) (zd_b zq_code_49 3 rfl rfl rfl) (zd_b zq_code_49 4 rfl rfl rfl)
theorem ok_Lw_law_Mm_shrunkIn : z_ok M_Lw_law M_Mm_shrunkIn 1 := ⟨z_mj9 (i := 25) rfl (by decide +kernel), rfl, ⟨by decide +kernel, by decide +kernel, by decide +kernel⟩, ⟨by decide, by decide⟩, z_mj1 (i := 14) rfl (by decide +kernel), rfl⟩
theorem ln_Lw_309 : Cond.methodLink "IronpourLaw" 309 M_Mm_shrunkIn.1 ∈ z_gw := z_mj9 (i := 22) rfl (by decide +kernel)
theorem w_im_Mm_shrunkIn : Cond.instanceMethod M_Mm_shrunkIn.1 ∈ z_gw := z_mj9 (i := 23) rfl (by decide +kernel)
theorem w_se_Mm_shrunkIn : Cond.selects M_Mm_shrunkIn.1.cls M_Mm_shrunkIn.1 M_Mm_shrunkIn.1 ∈ z_gw := z_mj9 (i := 24) rfl (by decide +kernel)
theorem d_Lw_law_1573 : decode code 1573 = .ok (.istore 7, 2) := zo_54 (d := 7) (zd_b zq_code_49 5 rfl rfl rfl) (zd_b zq_code_49 6 rfl rfl rfl)
theorem d_Lw_law_1575 : decode code 1575 = .ok (.goto 233, 3) := zo_167 (d := 0) (e := 233) (zd_b zq_code_49 7 rfl rfl rfl) (zd_b zq_code_49 8 rfl rfl rfl) (zd_b zq_code_49 9 rfl rfl rfl) (by decide +kernel)
set_option maxHeartbeats 4000000 in
set_option maxRecDepth 100000 in
theorem LC_shrunkIn {g : zG} {ad : Nat → Nat} {t : zTT} {u : zNN} {w : zW} {j : Nat} (hI : IVm g ad t u w) (hR : REL t u.1 (48 * j)) {r : Nat} (hJ : 7 * j + 7 ≤ g.2.2 41) (hL : g.2.2 41 ≤ 3584) (ih : LWI g ad j r) : DW g M_Lw_law lwQ w 1550 [(5, .int (nI (7 * j))), (4, .ref (ad 70)), (3, .ref (ad 69)), (2, .ref (ad 52)), (1, .ref (ad 0)), (0, .ref (g.2.2 40))] [] (100 * (r + 1)) (1000 * (r + 1)) := by
  refine y_base (cs := []) (z_I.nil w) ?_
  refine y_aload_n d_Lw_law_1550 rfl 4 rfl ?_
  refine y_aload_n d_Lw_law_1551 rfl 5 rfl ?_
  refine y_iload d_Lw_law_1552 0 rfl ?_
  refine y_iconst d_Lw_law_1554 (v := 1) (by decide) ?_
  refine y_iadd d_Lw_law_1555 (v := nI ((7 * j) + 1)) (nI_add _ _) ?_
  refine y_sld (v := zs g (7 * j + 1)) d_Lw_law_1556 (vp_in_nI (by omega) (by omega)) (by rw [nI_clamp (by omega)]; rfl) ?_
  refine y_aload_n d_Lw_law_1557 rfl 2 rfl ?_
  refine yw_callSX (As := [.ref (ad 0), .int (zs g (7 * j + 1)), .ref (ad 69)]) (rest := []) ln_Lw_307 w_st_Lw_shrunkIn ok_Lw_law_Lw_shrunkIn d_Lw_law_1558 (fun wA hA => W_shrunkIn (IVm.nil hA hI) _) rfl rfl (Nat.le_of_ble_eq_true rfl) (by omega) (by omega) (fun wA1558 hA1558 E wB1558 hx => ?_) (fun wA1558 hA1558 v wB1558 hx => ?_)
  · obtain ⟨⟨v9, e1⟩, -⟩ := hx
    cases e1
  · obtain ⟨⟨v9, e1⟩, uC, huC, hI2⟩ := hx
    cases e1
    refine yw_st (st2 := [.int v9]) rfl ?_
    have hI := hI2
    refine y_base (cs := []) (z_I.nil _) ?_
    refine y_istore (lv' := [(6, .int v9), (5, .int (nI (7 * j))), (4, .ref (ad 70)), (3, .ref (ad 69)), (2, .ref (ad 52)), (1, .ref (ad 0)), (0, .ref (g.2.2 40))]) d_Lw_law_1561 (by decide) rfl ?_
    refine y_aload_n d_Lw_law_1563 rfl 4 rfl ?_
    refine y_aload_n d_Lw_law_1564 rfl 6 rfl ?_
    refine y_iload d_Lw_law_1565 1 rfl ?_
    refine y_iconst d_Lw_law_1567 (v := 1) (by decide) ?_
    refine y_iadd d_Lw_law_1568 (v := nI ((7 * j) + 1)) (nI_add _ _) ?_
    refine y_sld (v := zs g (7 * j + 1)) d_Lw_law_1569 (vp_in_nI (by omega) (by omega)) (by rw [nI_clamp (by omega)]; rfl) ?_
    refine yw_callVL (As := [.int (zs g (7 * j + 1))]) (rest := []) (ci := 12) rfl (fun wA hA => (IVm.nil hA hI).rm) ln_Lw_309 w_im_Mm_shrunkIn w_se_Mm_shrunkIn ok_Lw_law_Mm_shrunkIn d_Lw_law_1570 (fun wA hA => K_Mm_shrunkIn (IVm.nil hA hI) _) rfl rfl (Nat.le_of_ble_eq_true rfl) (by omega) (by omega) (fun wA1570 hA1570 E wB1570 hx => ?_) (fun wA1570 hA1570 v wB1570 hx => ?_)
    · obtain ⟨⟨v8, e1⟩, -⟩ := hx
      cases e1
    · obtain ⟨⟨v8, e1⟩, uM, huM, hI2⟩ := hx
      cases e1
      refine yw_st (st2 := [.int v8]) rfl ?_
      have hI := hI2
      refine y_base (cs := []) (z_I.nil _) ?_
      refine y_istore (lv' := [(7, .int v8), (6, .int v9), (5, .int (nI (7 * j))), (4, .ref (ad 70)), (3, .ref (ad 69)), (2, .ref (ad 52)), (1, .ref (ad 0)), (0, .ref (g.2.2 40))]) d_Lw_law_1573 (by decide) rfl ?_
      refine y_goto (tgt := 1808) d_Lw_law_1575 (by decide) ?_
      refine y_lv (lv' := [(5, .int (nI (7 * j))), (4, .ref (ad 70)), (3, .ref (ad 69)), (2, .ref (ad 52)), (1, .ref (ad 0)), (0, .ref (g.2.2 40))]) [2, 3, 4, 5, 6, 7] rfl ?_
      refine y_end (fun wC hC => ?_)
      exact LC_next (IVm.nil hC hI) ((hR.n (huM.trans huC)).up (by omega)) hJ hL ih (by omega) (by omega)
theorem d_Lw_law_1578 : decode code 1578 = .ok (.aload_n 1, 1) := zo_43 (zd_b zq_code_49 10 rfl rfl rfl)
theorem d_Lw_law_1579 : decode code 1579 = .ok (.aload_n 0, 1) := zo_42 (zd_b zq_code_49 11 rfl rfl rfl)
theorem d_Lw_law_1580 : decode code 1580 = .ok (.iload 5, 2) := zo_21 (d := 5) (zd_b zq_code_49 12 rfl rfl rfl) (zd_b zq_code_49 13 rfl rfl rfl)
theorem d_Lw_law_1582 : decode code 1582 = .ok (.iconst 1, 1) := zo_4 (zd_b zq_code_49 14 rfl rfl rfl)
theorem d_Lw_law_1583 : decode code 1583 = .ok (.iadd, 1) := zo_96 (zd_b zq_code_49 15 rfl rfl rfl)
theorem d_Lw_law_1584 : decode code 1584 = .ok (.iaload, 1) := zo_46 (zd_b zq_code_49 16 rfl rfl rfl)
theorem d_Lw_law_1585 : decode code 1585 = .ok (.aload_n 0, 1) := zo_42 (zd_b zq_code_49 17 rfl rfl rfl)
theorem d_Lw_law_1586 : decode code 1586 = .ok (.iload 5, 2) := zo_21 (d := 5) (zd_b zq_code_49 18 rfl rfl rfl) (zd_b zq_code_49 19 rfl rfl rfl)
theorem d_Lw_law_1588 : decode code 1588 = .ok (.iconst 2, 1) := zo_5 (zd_b zq_code_49 20 rfl rfl rfl)
theorem d_Lw_law_1589 : decode code 1589 = .ok (.iadd, 1) := zo_96 (zd_b zq_code_49 21 rfl rfl rfl)
theorem d_Lw_law_1590 : decode code 1590 = .ok (.iaload, 1) := zo_46 (zd_b zq_code_49 22 rfl rfl rfl)
theorem d_Lw_law_1591 : decode code 1591 = .ok (.i2c, 1) := zo_146 (zd_b zq_code_49 23 rfl rfl rfl)
theorem d_Lw_law_1592 : decode code 1592 = .ok (.aload_n 3, 1) := zo_45 (zd_b zq_code_49 24 rfl rfl rfl)
theorem d_Lw_law_1593 : decode code 1593 = .ok (.invokestatic 310, 3) := zo_184 (d := 1) (e := 54) (zd_b zq_code_49 25 rfl rfl rfl) (zd_b zq_code_49 26 rfl rfl rfl) (zd_b zq_code_49 27 rfl rfl rfl)
theorem ok_Lw_law_Lw_has : z_okX M_Lw_law M_Lw_has 4 := ⟨z_mj6 (i := 212) rfl (by decide +kernel), by decide, ⟨by decide +kernel, by decide +kernel, by decide +kernel⟩, ⟨by decide, by decide⟩, z_mj1 (i := 0) rfl (by decide +kernel), rfl⟩
theorem ln_Lw_310 : Cond.methodLink "IronpourLaw" 310 M_Lw_has.1 ∈ z_gw := z_mj6 (i := 210) rfl (by decide +kernel)
theorem w_st_Lw_has : Cond.static M_Lw_has.1 ∈ z_gw := z_mj6 (i := 211) rfl (by decide +kernel)
theorem d_Lw_law_1596 : decode code 1596 = .ok (.istore 6, 2) := zo_54 (d := 6) (zd_b zq_code_49 28 rfl rfl rfl) (zd_b zq_code_49 29 rfl rfl rfl)
theorem d_Lw_law_1598 : decode code 1598 = .ok (.aload_n 2, 1) := zo_44 (zd_b zq_code_49 30 rfl rfl rfl)
theorem d_Lw_law_1599 : decode code 1599 = .ok (.aload_n 0, 1) := zo_42 (zd_b zq_code_49 31 rfl rfl rfl)
theorem d_Lw_law_1600 : decode code 1600 = .ok (.iload 5, 2) := zo_21 (d := 5) (zd_b zq_code_50 0 rfl rfl rfl) (zd_b zq_code_50 1 rfl rfl rfl)
theorem d_Lw_law_1602 : decode code 1602 = .ok (.iconst 1, 1) := zo_4 (zd_b zq_code_50 2 rfl rfl rfl)
theorem d_Lw_law_1603 : decode code 1603 = .ok (.iadd, 1) := zo_96 (zd_b zq_code_50 3 rfl rfl rfl)
theorem d_Lw_law_1604 : decode code 1604 = .ok (.iaload, 1) := zo_46 (zd_b zq_code_50 4 rfl rfl rfl)
theorem d_Lw_law_1605 : decode code 1605 = .ok (.aload_n 0, 1) := zo_42 (zd_b zq_code_50 5 rfl rfl rfl)
theorem d_Lw_law_1606 : decode code 1606 = .ok (.iload 5, 2) := zo_21 (d := 5) (zd_b zq_code_50 6 rfl rfl rfl) (zd_b zq_code_50 7 rfl rfl rfl)
theorem d_Lw_law_1608 : decode code 1608 = .ok (.iconst 2, 1) := zo_5 (zd_b zq_code_50 8 rfl rfl rfl)
theorem d_Lw_law_1609 : decode code 1609 = .ok (.iadd, 1) := zo_96 (zd_b zq_code_50 9 rfl rfl rfl)
theorem d_Lw_law_1610 : decode code 1610 = .ok (.iaload, 1) := zo_46 (zd_b zq_code_50 10 rfl rfl rfl)
theorem d_Lw_law_1611 : decode code 1611 = .ok (.i2c, 1) := zo_146 (zd_b zq_code_50 11 rfl rfl rfl)
theorem d_Lw_law_1612 : decode code 1612 = .ok (.invokevirtual 313, 3) := zo_182 (d := 1) (e := 57) (zd_b zq_code_50 12 rfl rfl rfl) (zd_b zq_code_50 13 rfl rfl rfl) (zd_b zq_code_50 14 rfl rfl rfl)
theorem ok_Lw_law_Mm_has_1 : z_ok M_Lw_law M_Mm_has_1 2 := ⟨z_mj9 (i := 29) rfl (by decide +kernel), rfl, ⟨by decide +kernel, by decide +kernel, by decide +kernel⟩, ⟨by decide, by decide⟩, z_mj1 (i := 14) rfl (by decide +kernel), rfl⟩
theorem ln_Lw_313 : Cond.methodLink "IronpourLaw" 313 M_Mm_has_1.1 ∈ z_gw := z_mj9 (i := 26) rfl (by decide +kernel)
theorem w_im_Mm_has_1 : Cond.instanceMethod M_Mm_has_1.1 ∈ z_gw := z_mj9 (i := 27) rfl (by decide +kernel)
theorem w_se_Mm_has_1 : Cond.selects M_Mm_has_1.1.cls M_Mm_has_1.1 M_Mm_has_1.1 ∈ z_gw := z_mj9 (i := 28) rfl (by decide +kernel)
theorem d_Lw_law_1615 : decode code 1615 = .ok (.istore 7, 2) := zo_54 (d := 7) (zd_b zq_code_50 15 rfl rfl rfl) (zd_b zq_code_50 16 rfl rfl rfl)
theorem d_Lw_law_1617 : decode code 1617 = .ok (.goto 191, 3) := zo_167 (d := 0) (e := 191) (zd_b zq_code_50 17 rfl rfl rfl) (zd_b zq_code_50 18 rfl rfl rfl) (zd_b zq_code_50 19 rfl rfl rfl) (by decide +kernel)
set_option maxHeartbeats 4000000 in
set_option maxRecDepth 100000 in
theorem LC_has {g : zG} {ad : Nat → Nat} {t : zTT} {u : zNN} {w : zW} {j : Nat} (hI : IVm g ad t u w) (hR : REL t u.1 (48 * j)) {r : Nat} (hJ : 7 * j + 7 ≤ g.2.2 41) (hL : g.2.2 41 ≤ 3584) (ih : LWI g ad j r) : DW g M_Lw_law lwQ w 1578 [(5, .int (nI (7 * j))), (4, .ref (ad 70)), (3, .ref (ad 69)), (2, .ref (ad 52)), (1, .ref (ad 0)), (0, .ref (g.2.2 40))] [] (100 * (r + 1)) (1000 * (r + 1)) := by
  refine y_base (cs := []) (z_I.nil w) ?_
  refine y_aload_n d_Lw_law_1578 rfl 4 rfl ?_
  refine y_aload_n d_Lw_law_1579 rfl 5 rfl ?_
  refine y_iload d_Lw_law_1580 0 rfl ?_
  refine y_iconst d_Lw_law_1582 (v := 1) (by decide) ?_
  refine y_iadd d_Lw_law_1583 (v := nI ((7 * j) + 1)) (nI_add _ _) ?_
  refine y_sld (v := zs g (7 * j + 1)) d_Lw_law_1584 (vp_in_nI (by omega) (by omega)) (by rw [nI_clamp (by omega)]; rfl) ?_
  refine y_aload_n d_Lw_law_1585 rfl 5 rfl ?_
  refine y_iload d_Lw_law_1586 0 rfl ?_
  refine y_iconst d_Lw_law_1588 (v := 2) (by decide) ?_
  refine y_iadd d_Lw_law_1589 (v := nI ((7 * j) + 2)) (nI_add _ _) ?_
  refine y_sld (v := zs g (7 * j + 2)) d_Lw_law_1590 (vp_in_nI (by omega) (by omega)) (by rw [nI_clamp (by omega)]; rfl) ?_
  refine y_i2c d_Lw_law_1591 (v := zc g (7 * j + 2)) rfl ?_
  refine y_aload_n d_Lw_law_1592 rfl 2 rfl ?_
  refine yw_callSX (As := [.ref (ad 0), .int (zs g (7 * j + 1)), .int (zc g (7 * j + 2)), .ref (ad 69)]) (rest := []) ln_Lw_310 w_st_Lw_has ok_Lw_law_Lw_has d_Lw_law_1593 (fun wA hA => W_has (IVm.nil hA hI) _ _) rfl rfl (Nat.le_of_ble_eq_true rfl) (by omega) (by omega) (fun wA1593 hA1593 E wB1593 hx => ?_) (fun wA1593 hA1593 v wB1593 hx => ?_)
  · obtain ⟨⟨v9, e1⟩, -⟩ := hx
    cases e1
  · obtain ⟨⟨v9, e1⟩, uC, huC, hI2⟩ := hx
    cases e1
    refine yw_st (st2 := [.int v9]) rfl ?_
    have hI := hI2
    refine y_base (cs := []) (z_I.nil _) ?_
    refine y_istore (lv' := [(6, .int v9), (5, .int (nI (7 * j))), (4, .ref (ad 70)), (3, .ref (ad 69)), (2, .ref (ad 52)), (1, .ref (ad 0)), (0, .ref (g.2.2 40))]) d_Lw_law_1596 (by decide) rfl ?_
    refine y_aload_n d_Lw_law_1598 rfl 4 rfl ?_
    refine y_aload_n d_Lw_law_1599 rfl 6 rfl ?_
    refine y_iload d_Lw_law_1600 1 rfl ?_
    refine y_iconst d_Lw_law_1602 (v := 1) (by decide) ?_
    refine y_iadd d_Lw_law_1603 (v := nI ((7 * j) + 1)) (nI_add _ _) ?_
    refine y_sld (v := zs g (7 * j + 1)) d_Lw_law_1604 (vp_in_nI (by omega) (by omega)) (by rw [nI_clamp (by omega)]; rfl) ?_
    refine y_aload_n d_Lw_law_1605 rfl 6 rfl ?_
    refine y_iload d_Lw_law_1606 1 rfl ?_
    refine y_iconst d_Lw_law_1608 (v := 2) (by decide) ?_
    refine y_iadd d_Lw_law_1609 (v := nI ((7 * j) + 2)) (nI_add _ _) ?_
    refine y_sld (v := zs g (7 * j + 2)) d_Lw_law_1610 (vp_in_nI (by omega) (by omega)) (by rw [nI_clamp (by omega)]; rfl) ?_
    refine y_i2c d_Lw_law_1611 (v := zc g (7 * j + 2)) rfl ?_
    refine yw_callVL (As := [.int (zs g (7 * j + 1)), .int (zc g (7 * j + 2))]) (rest := []) (ci := 12) rfl (fun wA hA => (IVm.nil hA hI).rm) ln_Lw_313 w_im_Mm_has_1 w_se_Mm_has_1 ok_Lw_law_Mm_has_1 d_Lw_law_1612 (fun wA hA => K_Mm_has (IVm.nil hA hI) _ _) rfl rfl (Nat.le_of_ble_eq_true rfl) (by omega) (by omega) (fun wA1612 hA1612 E wB1612 hx => ?_) (fun wA1612 hA1612 v wB1612 hx => ?_)
    · obtain ⟨⟨v8, e1⟩, -⟩ := hx
      cases e1
    · obtain ⟨⟨v8, e1⟩, uM, huM, hI2⟩ := hx
      cases e1
      refine yw_st (st2 := [.int v8]) rfl ?_
      have hI := hI2
      refine y_base (cs := []) (z_I.nil _) ?_
      refine y_istore (lv' := [(7, .int v8), (6, .int v9), (5, .int (nI (7 * j))), (4, .ref (ad 70)), (3, .ref (ad 69)), (2, .ref (ad 52)), (1, .ref (ad 0)), (0, .ref (g.2.2 40))]) d_Lw_law_1615 (by decide) rfl ?_
      refine y_goto (tgt := 1808) d_Lw_law_1617 (by decide) ?_
      refine y_lv (lv' := [(5, .int (nI (7 * j))), (4, .ref (ad 70)), (3, .ref (ad 69)), (2, .ref (ad 52)), (1, .ref (ad 0)), (0, .ref (g.2.2 40))]) [2, 3, 4, 5, 6, 7] rfl ?_
      refine y_end (fun wC hC => ?_)
      exact LC_next (IVm.nil hC hI) ((hR.n (huM.trans huC)).up (by omega)) hJ hL ih (by omega) (by omega)
