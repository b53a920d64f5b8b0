theorem d_Lw_law_366 : decode code 366 = .ok (.aload_n 1, 1) := by decide +kernel
theorem d_Lw_law_367 : decode code 367 = .ok (.aload_n 0, 1) := by decide +kernel
theorem d_Lw_law_368 : decode code 368 = .ok (.iload 5, 2) := by decide +kernel
theorem d_Lw_law_370 : decode code 370 = .ok (.iconst 1, 1) := by decide +kernel
theorem d_Lw_law_371 : decode code 371 = .ok (.iadd, 1) := by decide +kernel
theorem d_Lw_law_372 : decode code 372 = .ok (.iaload, 1) := by decide +kernel
theorem d_Lw_law_373 : decode code 373 = .ok (.aload_n 0, 1) := by decide +kernel
theorem d_Lw_law_374 : decode code 374 = .ok (.iload 5, 2) := by decide +kernel
theorem d_Lw_law_376 : decode code 376 = .ok (.iconst 2, 1) := by decide +kernel
theorem d_Lw_law_377 : decode code 377 = .ok (.iadd, 1) := by decide +kernel
theorem d_Lw_law_378 : decode code 378 = .ok (.iaload, 1) := by decide +kernel
theorem d_Lw_law_379 : decode code 379 = .ok (.aload_n 3, 1) := by decide +kernel
theorem d_Lw_law_380 : decode code 380 = .ok (.invokestatic 178, 3) := by decide +kernel
theorem ok_Lw_law_Lw_cell : z_okX M_Lw_law M_Lw_cell 4 := ⟨z_mem (i := 768) (by decide +kernel) (by decide +kernel), by decide, ⟨by decide +kernel, by decide +kernel, by decide +kernel⟩, ⟨by decide, by decide⟩, z_mem (i := 57) (by decide +kernel) (by decide +kernel), rfl⟩
theorem ln_Lw_178 : Cond.methodLink "IronpourLaw" 178 M_Lw_cell.1 ∈ z_gw := z_mem (i := 766) (by decide +kernel) (by decide +kernel)
theorem w_st_Lw_cell : Cond.static M_Lw_cell.1 ∈ z_gw := z_mem (i := 767) (by decide +kernel) (by decide +kernel)
theorem d_Lw_law_383 : decode code 383 = .ok (.istore 6, 2) := by decide +kernel
theorem d_Lw_law_385 : decode code 385 = .ok (.aload_n 2, 1) := by decide +kernel
theorem d_Lw_law_386 : decode code 386 = .ok (.aload_n 0, 1) := by decide +kernel
theorem d_Lw_law_387 : decode code 387 = .ok (.iload 5, 2) := by decide +kernel
theorem d_Lw_law_389 : decode code 389 = .ok (.iconst 1, 1) := by decide +kernel
theorem d_Lw_law_390 : decode code 390 = .ok (.iadd, 1) := by decide +kernel
theorem d_Lw_law_391 : decode code 391 = .ok (.iaload, 1) := by decide +kernel
theorem d_Lw_law_392 : decode code 392 = .ok (.aload_n 0, 1) := by decide +kernel
theorem d_Lw_law_393 : decode code 393 = .ok (.iload 5, 2) := by decide +kernel
theorem d_Lw_law_395 : decode code 395 = .ok (.iconst 2, 1) := by decide +kernel
theorem d_Lw_law_396 : decode code 396 = .ok (.iadd, 1) := by decide +kernel
theorem d_Lw_law_397 : decode code 397 = .ok (.iaload, 1) := by decide +kernel
theorem d_Lw_law_398 : decode code 398 = .ok (.invokevirtual 181, 3) := by decide +kernel
theorem ok_Lw_law_Mm_cell : z_ok M_Lw_law M_Mm_cell 2 := ⟨z_mem (i := 1697) (by decide +kernel) (by decide +kernel), rfl, ⟨by decide +kernel, by decide +kernel, by decide +kernel⟩, ⟨by decide, by decide⟩, z_mem (i := 71) (by decide +kernel) (by decide +kernel), rfl⟩
theorem ln_Lw_181 : Cond.methodLink "IronpourLaw" 181 M_Mm_cell.1 ∈ z_gw := z_mem (i := 1694) (by decide +kernel) (by decide +kernel)
theorem w_im_Mm_cell : Cond.instanceMethod M_Mm_cell.1 ∈ z_gw := z_mem (i := 1695) (by decide +kernel) (by decide +kernel)
theorem w_se_Mm_cell : Cond.selects M_Mm_cell.1.cls M_Mm_cell.1 M_Mm_cell.1 ∈ z_gw := z_mem (i := 1696) (by decide +kernel) (by decide +kernel)
theorem d_Lw_law_401 : decode code 401 = .ok (.istore 7, 2) := by decide +kernel
theorem d_Lw_law_403 : decode code 403 = .ok (.goto 1405, 3) := by decide +kernel
set_option maxHeartbeats 4000000 in
set_option maxRecDepth 100000 in
theorem LC_cell {g : zG} {ad : Nat → Nat} {t : zTT} {u : zNN} {w : zW} (hI : IV g ad t u w) (hR : REL t) {j r : Nat} (hJ : 7 * j + 7 ≤ g.2.2 41) (hL : g.2.2 41 < 2 ^ 31) (ih : LWI g ad j r) : DW g M_Lw_law lwQ w 366 [(5, .int (nI (7 * j))), (4, .ref (ad 70)), (3, .ref (ad 69)), (2, .ref (ad 52)), (1, .ref (ad 0)), (0, .ref (g.2.2 40))] [] (100 * (r + 1)) (1000 * (r + 1)) := by
  refine y_base (cs := []) (z_I.nil w) ?_
  refine y_aload_n d_Lw_law_366 rfl 4 rfl ?_
  refine y_aload_n d_Lw_law_367 rfl 5 rfl ?_
  refine y_iload d_Lw_law_368 0 rfl ?_
  refine y_iconst d_Lw_law_370 (v := 1) (by decide) ?_
  refine y_iadd d_Lw_law_371 (v := nI ((7 * j) + 1)) (nI_add _ _) ?_
  refine y_sld (v := zs g (7 * j + 1)) d_Lw_law_372 (vp_in_nI (by omega) (by omega)) (by rw [nI_clamp (by omega)]; rfl) ?_
  refine y_aload_n d_Lw_law_373 rfl 5 rfl ?_
  refine y_iload d_Lw_law_374 0 rfl ?_
  refine y_iconst d_Lw_law_376 (v := 2) (by decide) ?_
  refine y_iadd d_Lw_law_377 (v := nI ((7 * j) + 2)) (nI_add _ _) ?_
  refine y_sld (v := zs g (7 * j + 2)) d_Lw_law_378 (vp_in_nI (by omega) (by omega)) (by rw [nI_clamp (by omega)]; rfl) ?_
  refine y_aload_n d_Lw_law_379 rfl 2 rfl ?_
  refine yw_callSX (As := [.ref (ad 0), .int (zs g (7 * j + 1)), .int (zs g (7 * j + 2)), .ref (ad 69)]) (rest := []) ln_Lw_178 w_st_Lw_cell ok_Lw_law_Lw_cell d_Lw_law_380 (fun wA hA => W_cell (IV.nil hA hI) _ _) rfl rfl (Nat.le_of_ble_eq_true rfl) (by omega) (by omega) (fun wA380 hA380 E wB380 hx => ?_) (fun wA380 hA380 v wB380 hx => ?_)
  · obtain ⟨⟨v9, e1⟩, -⟩ := hx
    cases e1
  · obtain ⟨⟨v9, e1⟩, u2, hI2⟩ := hx
    cases e1
    refine yw_st (st2 := [.int v9]) rfl ?_
    have hI := hI2
    refine y_base (cs := []) (z_I.nil _) ?_
    refine y_istore (lv' := [(6, .int v9), (5, .int (nI (7 * j))), (4, .ref (ad 70)), (3, .ref (ad 69)), (2, .ref (ad 52)), (1, .ref (ad 0)), (0, .ref (g.2.2 40))]) d_Lw_law_383 (by decide) rfl ?_
    refine y_aload_n d_Lw_law_385 rfl 4 rfl ?_
    refine y_aload_n d_Lw_law_386 rfl 6 rfl ?_
    refine y_iload d_Lw_law_387 1 rfl ?_
    refine y_iconst d_Lw_law_389 (v := 1) (by decide) ?_
    refine y_iadd d_Lw_law_390 (v := nI ((7 * j) + 1)) (nI_add _ _) ?_
    refine y_sld (v := zs g (7 * j + 1)) d_Lw_law_391 (vp_in_nI (by omega) (by omega)) (by rw [nI_clamp (by omega)]; rfl) ?_
    refine y_aload_n d_Lw_law_392 rfl 6 rfl ?_
    refine y_iload d_Lw_law_393 1 rfl ?_
    refine y_iconst d_Lw_law_395 (v := 2) (by decide) ?_
    refine y_iadd d_Lw_law_396 (v := nI ((7 * j) + 2)) (nI_add _ _) ?_
    refine y_sld (v := zs g (7 * j + 2)) d_Lw_law_397 (vp_in_nI (by omega) (by omega)) (by rw [nI_clamp (by omega)]; rfl) ?_
    refine yw_callVL (As := [.int (zs g (7 * j + 1)), .int (zs g (7 * j + 2))]) (rest := []) (ci := 12) rfl (fun wA hA => (IV.nil hA hI).rm) ln_Lw_181 w_im_Mm_cell w_se_Mm_cell ok_Lw_law_Mm_cell d_Lw_law_398 (fun wA hA => K_Mm_cell (IV.nil hA hI) _ _) rfl rfl (Nat.le_of_ble_eq_true rfl) (by omega) (by omega) (fun wA398 hA398 E wB398 hx => ?_) (fun wA398 hA398 v wB398 hx => ?_)
    · obtain ⟨⟨v8, e1⟩, -⟩ := hx
      cases e1
    · obtain ⟨⟨v8, e1⟩, u2, hI2⟩ := hx
      cases e1
      refine yw_st (st2 := [.int v8]) rfl ?_
      have hI := hI2
      refine y_base (cs := []) (z_I.nil _) ?_
      refine y_istore (lv' := [(7, .int v8), (6, .int v9), (5, .int (nI (7 * j))), (4, .ref (ad 70)), (3, .ref (ad 69)), (2, .ref (ad 52)), (1, .ref (ad 0)), (0, .ref (g.2.2 40))]) d_Lw_law_401 (by decide) rfl ?_
      refine y_goto (tgt := 1808) d_Lw_law_403 (by decide) ?_
      refine y_lv (lv' := [(5, .int (nI (7 * j))), (4, .ref (ad 70)), (3, .ref (ad 69)), (2, .ref (ad 52)), (1, .ref (ad 0)), (0, .ref (g.2.2 40))]) [2, 3, 4, 5, 6, 7] rfl ?_
      refine y_end (fun wC hC => ?_)
      exact LC_next (IV.nil hC hI) hR hJ hL ih (by omega) (by omega)
theorem d_Lw_law_434 : decode code 434 = .ok (.aload_n 1, 1) := by decide +kernel
theorem d_Lw_law_435 : decode code 435 = .ok (.invokevirtual 186, 3) := by decide +kernel
theorem ok_Lw_law_Ip_undercut : z_ok M_Lw_law M_Ip_undercut 0 := ⟨z_mem (i := 400) (by decide +kernel) (by decide +kernel), rfl, ⟨by decide +kernel, by decide +kernel, by decide +kernel⟩, ⟨by decide, by decide⟩, z_mem (i := 58) (by decide +kernel) (by decide +kernel), rfl⟩
theorem ln_Lw_186 : Cond.methodLink "IronpourLaw" 186 M_Ip_undercut.1 ∈ z_gw := z_mem (i := 397) (by decide +kernel) (by decide +kernel)
theorem w_im_Ip_undercut : Cond.instanceMethod M_Ip_undercut.1 ∈ z_gw := z_mem (i := 398) (by decide +kernel) (by decide +kernel)
theorem w_se_Ip_undercut : Cond.selects M_Ip_undercut.1.cls M_Ip_undercut.1 M_Ip_undercut.1 ∈ z_gw := z_mem (i := 399) (by decide +kernel) (by decide +kernel)
theorem d_Lw_law_438 : decode code 438 = .ok (.pop, 1) := by decide +kernel
theorem d_Lw_law_439 : decode code 439 = .ok (.aload_n 2, 1) := by decide +kernel
theorem d_Lw_law_440 : decode code 440 = .ok (.invokevirtual 189, 3) := by decide +kernel
theorem ok_Lw_law_Mm_undercut : z_ok M_Lw_law M_Mm_undercut 0 := ⟨z_mem (i := 1705) (by decide +kernel) (by decide +kernel), rfl, ⟨by decide +kernel, by decide +kernel, by decide +kernel⟩, ⟨by decide, by decide⟩, z_mem (i := 71) (by decide +kernel) (by decide +kernel), rfl⟩
theorem ln_Lw_189 : Cond.methodLink "IronpourLaw" 189 M_Mm_undercut.1 ∈ z_gw := z_mem (i := 1702) (by decide +kernel) (by decide +kernel)
theorem w_im_Mm_undercut : Cond.instanceMethod M_Mm_undercut.1 ∈ z_gw := z_mem (i := 1703) (by decide +kernel) (by decide +kernel)
theorem w_se_Mm_undercut : Cond.selects M_Mm_undercut.1.cls M_Mm_undercut.1 M_Mm_undercut.1 ∈ z_gw := z_mem (i := 1704) (by decide +kernel) (by decide +kernel)
theorem d_Lw_law_443 : decode code 443 = .ok (.pop, 1) := by decide +kernel
theorem d_Lw_law_444 : decode code 444 = .ok (.goto 1364, 3) := by decide +kernel
set_option maxHeartbeats 4000000 in
set_option maxRecDepth 100000 in
theorem LC_undercut {g : zG} {ad : Nat → Nat} {t : zTT} {u : zNN} {w : zW} (hI : IV g ad t u w) (hR : REL t) {j r : Nat} (hJ : 7 * j + 7 ≤ g.2.2 41) (hL : g.2.2 41 < 2 ^ 31) (ih : LWI g ad j r) : DW g M_Lw_law lwQ w 434 [(5, .int (nI (7 * j))), (4, .ref (ad 70)), (3, .ref (ad 69)), (2, .ref (ad 52)), (1, .ref (ad 0)), (0, .ref (g.2.2 40))] [] (100 * (r + 1)) (1000 * (r + 1)) := by
  refine y_base (cs := []) (z_I.nil w) ?_
  refine y_aload_n d_Lw_law_434 rfl 4 rfl ?_
  refine yw_callVL (As := []) (rest := []) (ci := 11) rfl (fun wA hA => (IV.nil hA hI).ra) ln_Lw_186 w_im_Ip_undercut w_se_Ip_undercut ok_Lw_law_Ip_undercut d_Lw_law_435 (fun wA hA => K_Ip_undercut (IV.nil hA hI)) rfl rfl (Nat.le_of_ble_eq_true rfl) (by omega) (by omega) (fun wA435 hA435 E wB435 hx => ?_) (fun wA435 hA435 v wB435 hx => ?_)
  · obtain ⟨h1, -⟩ := hx
    cases zriE h1
  · obtain ⟨h1, u2, hI2⟩ := hx
    obtain ⟨v9, rfl⟩ := zriV h1
    refine yw_st (st2 := [.int v9]) rfl ?_
    have hI := hI2
    refine y_base (cs := []) (z_I.nil _) ?_
    refine y_pop d_Lw_law_438 rfl ?_
    refine y_aload_n d_Lw_law_439 rfl 3 rfl ?_
    refine yw_callVL (As := []) (rest := []) (ci := 12) rfl (fun wA hA => (IV.nil hA hI).rm) ln_Lw_189 w_im_Mm_undercut w_se_Mm_undercut ok_Lw_law_Mm_undercut d_Lw_law_440 (fun wA hA => K_Mm_undercut (IV.nil hA hI)) rfl rfl (Nat.le_of_ble_eq_true rfl) (by omega) (by omega) (fun wA440 hA440 E wB440 hx => ?_) (fun wA440 hA440 v wB440 hx => ?_)
    · obtain ⟨⟨v8, e1⟩, -⟩ := hx
      cases e1
    · obtain ⟨⟨v8, e1⟩, u2, hI2⟩ := hx
      cases e1
      refine yw_st (st2 := [.int v8]) rfl ?_
      have hI := hI2
      refine y_base (cs := []) (z_I.nil _) ?_
      refine y_pop d_Lw_law_443 rfl ?_
      refine y_goto (tgt := 1808) d_Lw_law_444 (by decide) ?_
      refine y_lv (lv' := [(5, .int (nI (7 * j))), (4, .ref (ad 70)), (3, .ref (ad 69)), (2, .ref (ad 52)), (1, .ref (ad 0)), (0, .ref (g.2.2 40))]) [0, 1, 2, 3, 4, 5] rfl ?_
      refine y_end (fun wC hC => ?_)
      exact LC_next (IV.nil hC hI) hR hJ hL ih (by omega) (by omega)
theorem d_Lw_law_447 : decode code 447 = .ok (.aload_n 1, 1) := by decide +kernel
theorem d_Lw_law_448 : decode code 448 = .ok (.invokevirtual 190, 3) := by decide +kernel
theorem ok_Lw_law_Ip_cores : z_ok M_Lw_law M_Ip_cores 0 := ⟨z_mem (i := 415) (by decide +kernel) (by decide +kernel), rfl, ⟨by decide +kernel, by decide +kernel, by decide +kernel⟩, ⟨by decide, by decide⟩, z_mem (i := 58) (by decide +kernel) (by decide +kernel), rfl⟩
theorem ln_Lw_190 : Cond.methodLink "IronpourLaw" 190 M_Ip_cores.1 ∈ z_gw := z_mem (i := 412) (by decide +kernel) (by decide +kernel)
theorem w_im_Ip_cores : Cond.instanceMethod M_Ip_cores.1 ∈ z_gw := z_mem (i := 413) (by decide +kernel) (by decide +kernel)
theorem w_se_Ip_cores : Cond.selects M_Ip_cores.1.cls M_Ip_cores.1 M_Ip_cores.1 ∈ z_gw := z_mem (i := 414) (by decide +kernel) (by decide +kernel)
theorem d_Lw_law_451 : decode code 451 = .ok (.pop, 1) := by decide +kernel
theorem d_Lw_law_452 : decode code 452 = .ok (.aload_n 2, 1) := by decide +kernel
theorem d_Lw_law_453 : decode code 453 = .ok (.invokevirtual 193, 3) := by decide +kernel
theorem ok_Lw_law_Mm_cores : z_ok M_Lw_law M_Mm_cores 0 := ⟨z_mem (i := 1715) (by decide +kernel) (by decide +kernel), rfl, ⟨by decide +kernel, by decide +kernel, by decide +kernel⟩, ⟨by decide, by decide⟩, z_mem (i := 71) (by decide +kernel) (by decide +kernel), rfl⟩
theorem ln_Lw_193 : Cond.methodLink "IronpourLaw" 193 M_Mm_cores.1 ∈ z_gw := z_mem (i := 1712) (by decide +kernel) (by decide +kernel)
theorem w_im_Mm_cores : Cond.instanceMethod M_Mm_cores.1 ∈ z_gw := z_mem (i := 1713) (by decide +kernel) (by decide +kernel)
theorem w_se_Mm_cores : Cond.selects M_Mm_cores.1.cls M_Mm_cores.1 M_Mm_cores.1 ∈ z_gw := z_mem (i := 1714) (by decide +kernel) (by decide +kernel)
theorem d_Lw_law_456 : decode code 456 = .ok (.pop, 1) := by decide +kernel
theorem d_Lw_law_457 : decode code 457 = .ok (.goto 1351, 3) := by decide +kernel
set_option maxHeartbeats 4000000 in
set_option maxRecDepth 100000 in
theorem LC_cores {g : zG} {ad : Nat → Nat} {t : zTT} {u : zNN} {w : zW} (hI : IV g ad t u w) (hR : REL t) {j r : Nat} (hJ : 7 * j + 7 ≤ g.2.2 41) (hL : g.2.2 41 < 2 ^ 31) (ih : LWI g ad j r) : DW g M_Lw_law lwQ w 447 [(5, .int (nI (7 * j))), (4, .ref (ad 70)), (3, .ref (ad 69)), (2, .ref (ad 52)), (1, .ref (ad 0)), (0, .ref (g.2.2 40))] [] (100 * (r + 1)) (1000 * (r + 1)) := by
  refine y_base (cs := []) (z_I.nil w) ?_
  refine y_aload_n d_Lw_law_447 rfl 4 rfl ?_
  refine yw_callVL (As := []) (rest := []) (ci := 11) rfl (fun wA hA => (IV.nil hA hI).ra) ln_Lw_190 w_im_Ip_cores w_se_Ip_cores ok_Lw_law_Ip_cores d_Lw_law_448 (fun wA hA => K_Ip_cores (IV.nil hA hI)) rfl rfl (Nat.le_of_ble_eq_true rfl) (by omega) (by omega) (fun wA448 hA448 E wB448 hx => ?_) (fun wA448 hA448 v wB448 hx => ?_)
  · obtain ⟨h1, -⟩ := hx
    cases zriE h1
  · obtain ⟨h1, u2, hI2⟩ := hx
    obtain ⟨v9, rfl⟩ := zriV h1
    refine yw_st (st2 := [.int v9]) rfl ?_
    have hI := hI2
    refine y_base (cs := []) (z_I.nil _) ?_
    refine y_pop d_Lw_law_451 rfl ?_
    refine y_aload_n d_Lw_law_452 rfl 3 rfl ?_
    refine yw_callVL (As := []) (rest := []) (ci := 12) rfl (fun wA hA => (IV.nil hA hI).rm) ln_Lw_193 w_im_Mm_cores w_se_Mm_cores ok_Lw_law_Mm_cores d_Lw_law_453 (fun wA hA => K_Mm_cores (IV.nil hA hI)) rfl rfl (Nat.le_of_ble_eq_true rfl) (by omega) (by omega) (fun wA453 hA453 E wB453 hx => ?_) (fun wA453 hA453 v wB453 hx => ?_)
    · obtain ⟨⟨v8, e1⟩, -⟩ := hx
      cases e1
    · obtain ⟨⟨v8, e1⟩, u2, hI2⟩ := hx
      cases e1
      refine yw_st (st2 := [.int v8]) rfl ?_
      have hI := hI2
      refine y_base (cs := []) (z_I.nil _) ?_
      refine y_pop d_Lw_law_456 rfl ?_
      refine y_goto (tgt := 1808) d_Lw_law_457 (by decide) ?_
      refine y_lv (lv' := [(5, .int (nI (7 * j))), (4, .ref (ad 70)), (3, .ref (ad 69)), (2, .ref (ad 52)), (1, .ref (ad 0)), (0, .ref (g.2.2 40))]) [0, 1, 2, 3, 4, 5] rfl ?_
      refine y_end (fun wC hC => ?_)
      exact LC_next (IV.nil hC hI) hR hJ hL ih (by omega) (by omega)
theorem d_Lw_law_460 : decode code 460 = .ok (.aload_n 1, 1) := by decide +kernel
theorem d_Lw_law_461 : decode code 461 = .ok (.invokevirtual 194, 3) := by decide +kernel
theorem ok_Lw_law_Ip_loose : z_ok M_Lw_law M_Ip_loose 0 := ⟨z_mem (i := 434) (by decide +kernel) (by decide +kernel), rfl, ⟨by decide +kernel, by decide +kernel, by decide +kernel⟩, ⟨by decide, by decide⟩, z_mem (i := 58) (by decide +kernel) (by decide +kernel), rfl⟩
theorem ln_Lw_194 : Cond.methodLink "IronpourLaw" 194 M_Ip_loose.1 ∈ z_gw := z_mem (i := 431) (by decide +kernel) (by decide +kernel)
theorem w_im_Ip_loose : Cond.instanceMethod M_Ip_loose.1 ∈ z_gw := z_mem (i := 432) (by decide +kernel) (by decide +kernel)
theorem w_se_Ip_loose : Cond.selects M_Ip_loose.1.cls M_Ip_loose.1 M_Ip_loose.1 ∈ z_gw := z_mem (i := 433) (by decide +kernel) (by decide +kernel)
theorem d_Lw_law_464 : decode code 464 = .ok (.pop, 1) := by decide +kernel
theorem d_Lw_law_465 : decode code 465 = .ok (.aload_n 2, 1) := by decide +kernel
theorem d_Lw_law_466 : decode code 466 = .ok (.invokevirtual 197, 3) := by decide +kernel
theorem ok_Lw_law_Mm_loose : z_ok M_Lw_law M_Mm_loose 0 := ⟨z_mem (i := 1730) (by decide +kernel) (by decide +kernel), rfl, ⟨by decide +kernel, by decide +kernel, by decide +kernel⟩, ⟨by decide, by decide⟩, z_mem (i := 71) (by decide +kernel) (by decide +kernel), rfl⟩
theorem ln_Lw_197 : Cond.methodLink "IronpourLaw" 197 M_Mm_loose.1 ∈ z_gw := z_mem (i := 1727) (by decide +kernel) (by decide +kernel)
theorem w_im_Mm_loose : Cond.instanceMethod M_Mm_loose.1 ∈ z_gw := z_mem (i := 1728) (by decide +kernel) (by decide +kernel)
theorem w_se_Mm_loose : Cond.selects M_Mm_loose.1.cls M_Mm_loose.1 M_Mm_loose.1 ∈ z_gw := z_mem (i := 1729) (by decide +kernel) (by decide +kernel)
theorem d_Lw_law_469 : decode code 469 = .ok (.pop, 1) := by decide +kernel
theorem d_Lw_law_470 : decode code 470 = .ok (.goto 1338, 3) := by decide +kernel
set_option maxHeartbeats 4000000 in
set_option maxRecDepth 100000 in
theorem LC_loose {g : zG} {ad : Nat → Nat} {t : zTT} {u : zNN} {w : zW} (hI : IV g ad t u w) (hR : REL t) {j r : Nat} (hJ : 7 * j + 7 ≤ g.2.2 41) (hL : g.2.2 41 < 2 ^ 31) (ih : LWI g ad j r) : DW g M_Lw_law lwQ w 460 [(5, .int (nI (7 * j))), (4, .ref (ad 70)), (3, .ref (ad 69)), (2, .ref (ad 52)), (1, .ref (ad 0)), (0, .ref (g.2.2 40))] [] (100 * (r + 1)) (1000 * (r + 1)) := by
  refine y_base (cs := []) (z_I.nil w) ?_
  refine y_aload_n d_Lw_law_460 rfl 4 rfl ?_
  refine yw_callVL (As := []) (rest := []) (ci := 11) rfl (fun wA hA => (IV.nil hA hI).ra) ln_Lw_194 w_im_Ip_loose w_se_Ip_loose ok_Lw_law_Ip_loose d_Lw_law_461 (fun wA hA => K_Ip_loose (IV.nil hA hI)) rfl rfl (Nat.le_of_ble_eq_true rfl) (by omega) (by omega) (fun wA461 hA461 E wB461 hx => ?_) (fun wA461 hA461 v wB461 hx => ?_)
  · obtain ⟨h1, -⟩ := hx
    cases zriE h1
  · obtain ⟨h1, u2, hI2⟩ := hx
    obtain ⟨v9, rfl⟩ := zriV h1
    refine yw_st (st2 := [.int v9]) rfl ?_
    have hI := hI2
    refine y_base (cs := []) (z_I.nil _) ?_
    refine y_pop d_Lw_law_464 rfl ?_
    refine y_aload_n d_Lw_law_465 rfl 3 rfl ?_
    refine yw_callVL (As := []) (rest := []) (ci := 12) rfl (fun wA hA => (IV.nil hA hI).rm) ln_Lw_197 w_im_Mm_loose w_se_Mm_loose ok_Lw_law_Mm_loose d_Lw_law_466 (fun wA hA => K_Mm_loose (IV.nil hA hI)) rfl rfl (Nat.le_of_ble_eq_true rfl) (by omega) (by omega) (fun wA466 hA466 E wB466 hx => ?_) (fun wA466 hA466 v wB466 hx => ?_)
    · obtain ⟨⟨v8, e1⟩, -⟩ := hx
      cases e1
    · obtain ⟨⟨v8, e1⟩, u2, hI2⟩ := hx
      cases e1
      refine yw_st (st2 := [.int v8]) rfl ?_
      have hI := hI2
      refine y_base (cs := []) (z_I.nil _) ?_
      refine y_pop d_Lw_law_469 rfl ?_
      refine y_goto (tgt := 1808) d_Lw_law_470 (by decide) ?_
      refine y_lv (lv' := [(5, .int (nI (7 * j))), (4, .ref (ad 70)), (3, .ref (ad 69)), (2, .ref (ad 52)), (1, .ref (ad 0)), (0, .ref (g.2.2 40))]) [0, 1, 2, 3, 4, 5] rfl ?_
      refine y_end (fun wC hC => ?_)
      exact LC_next (IV.nil hC hI) hR hJ hL ih (by omega) (by omega)
theorem d_Lw_law_473 : decode code 473 = .ok (.aload_n 1, 1) := by decide +kernel
theorem d_Lw_law_474 : decode code 474 = .ok (.invokevirtual 198, 3) := by decide +kernel
theorem ok_Lw_law_Ip_weight : z_ok M_Lw_law M_Ip_weight 0 := ⟨z_mem (i := 442) (by decide +kernel) (by decide +kernel), rfl, ⟨by decide +kernel, by decide +kernel, by decide +kernel⟩, ⟨by decide, by decide⟩, z_mem (i := 58) (by decide +kernel) (by decide +kernel), rfl⟩
theorem ln_Lw_198 : Cond.methodLink "IronpourLaw" 198 M_Ip_weight.1 ∈ z_gw := z_mem (i := 439) (by decide +kernel) (by decide +kernel)
theorem w_im_Ip_weight : Cond.instanceMethod M_Ip_weight.1 ∈ z_gw := z_mem (i := 440) (by decide +kernel) (by decide +kernel)
theorem w_se_Ip_weight : Cond.selects M_Ip_weight.1.cls M_Ip_weight.1 M_Ip_weight.1 ∈ z_gw := z_mem (i := 441) (by decide +kernel) (by decide +kernel)
theorem d_Lw_law_477 : decode code 477 = .ok (.pop, 1) := by decide +kernel
theorem d_Lw_law_478 : decode code 478 = .ok (.aload_n 2, 1) := by decide +kernel
theorem d_Lw_law_479 : decode code 479 = .ok (.invokevirtual 201, 3) := by decide +kernel
theorem ok_Lw_law_Mm_weight : z_ok M_Lw_law M_Mm_weight 0 := ⟨z_mem (i := 1741) (by decide +kernel) (by decide +kernel), rfl, ⟨by decide +kernel, by decide +kernel, by decide +kernel⟩, ⟨by decide, by decide⟩, z_mem (i := 71) (by decide +kernel) (by decide +kernel), rfl⟩
theorem ln_Lw_201 : Cond.methodLink "IronpourLaw" 201 M_Mm_weight.1 ∈ z_gw := z_mem (i := 1738) (by decide +kernel) (by decide +kernel)
theorem w_im_Mm_weight : Cond.instanceMethod M_Mm_weight.1 ∈ z_gw := z_mem (i := 1739) (by decide +kernel) (by decide +kernel)
theorem w_se_Mm_weight : Cond.selects M_Mm_weight.1.cls M_Mm_weight.1 M_Mm_weight.1 ∈ z_gw := z_mem (i := 1740) (by decide +kernel) (by decide +kernel)
theorem d_Lw_law_482 : decode code 482 = .ok (.pop, 1) := by decide +kernel
theorem d_Lw_law_483 : decode code 483 = .ok (.goto 1325, 3) := by decide +kernel
set_option maxHeartbeats 4000000 in
set_option maxRecDepth 100000 in
theorem LC_weight {g : zG} {ad : Nat → Nat} {t : zTT} {u : zNN} {w : zW} (hI : IV g ad t u w) (hR : REL t) {j r : Nat} (hJ : 7 * j + 7 ≤ g.2.2 41) (hL : g.2.2 41 < 2 ^ 31) (ih : LWI g ad j r) : DW g M_Lw_law lwQ w 473 [(5, .int (nI (7 * j))), (4, .ref (ad 70)), (3, .ref (ad 69)), (2, .ref (ad 52)), (1, .ref (ad 0)), (0, .ref (g.2.2 40))] [] (100 * (r + 1)) (1000 * (r + 1)) := by
  refine y_base (cs := []) (z_I.nil w) ?_
  refine y_aload_n d_Lw_law_473 rfl 4 rfl ?_
  refine yw_callVL (As := []) (rest := []) (ci := 11) rfl (fun wA hA => (IV.nil hA hI).ra) ln_Lw_198 w_im_Ip_weight w_se_Ip_weight ok_Lw_law_Ip_weight d_Lw_law_474 (fun wA hA => K_Ip_weight (IV.nil hA hI)) rfl rfl (Nat.le_of_ble_eq_true rfl) (by omega) (by omega) (fun wA474 hA474 E wB474 hx => ?_) (fun wA474 hA474 v wB474 hx => ?_)
  · obtain ⟨h1, -⟩ := hx
    cases zriE h1
  · obtain ⟨h1, u2, hI2⟩ := hx
    obtain ⟨v9, rfl⟩ := zriV h1
    refine yw_st (st2 := [.int v9]) rfl ?_
    have hI := hI2
    refine y_base (cs := []) (z_I.nil _) ?_
    refine y_pop d_Lw_law_477 rfl ?_
    refine y_aload_n d_Lw_law_478 rfl 3 rfl ?_
    refine yw_callVL (As := []) (rest := []) (ci := 12) rfl (fun wA hA => (IV.nil hA hI).rm) ln_Lw_201 w_im_Mm_weight w_se_Mm_weight ok_Lw_law_Mm_weight d_Lw_law_479 (fun wA hA => K_Mm_weight (IV.nil hA hI)) rfl rfl (Nat.le_of_ble_eq_true rfl) (by omega) (by omega) (fun wA479 hA479 E wB479 hx => ?_) (fun wA479 hA479 v wB479 hx => ?_)
    · obtain ⟨⟨v8, e1⟩, -⟩ := hx
      cases e1
    · obtain ⟨⟨v8, e1⟩, u2, hI2⟩ := hx
      cases e1
      refine yw_st (st2 := [.int v8]) rfl ?_
      have hI := hI2
      refine y_base (cs := []) (z_I.nil _) ?_
      refine y_pop d_Lw_law_482 rfl ?_
      refine y_goto (tgt := 1808) d_Lw_law_483 (by decide) ?_
      refine y_lv (lv' := [(5, .int (nI (7 * j))), (4, .ref (ad 70)), (3, .ref (ad 69)), (2, .ref (ad 52)), (1, .ref (ad 0)), (0, .ref (g.2.2 40))]) [0, 1, 2, 3, 4, 5] rfl ?_
      refine y_end (fun wC hC => ?_)
      exact LC_next (IV.nil hC hI) hR hJ hL ih (by omega) (by omega)
theorem d_Lw_law_486 : decode code 486 = .ok (.aload_n 1, 1) := by decide +kernel
theorem d_Lw_law_487 : decode code 487 = .ok (.aload_n 0, 1) := by decide +kernel
theorem d_Lw_law_488 : decode code 488 = .ok (.iload 5, 2) := by decide +kernel
theorem d_Lw_law_490 : decode code 490 = .ok (.iconst 1, 1) := by decide +kernel
theorem d_Lw_law_491 : decode code 491 = .ok (.iadd, 1) := by decide +kernel
theorem d_Lw_law_492 : decode code 492 = .ok (.iaload, 1) := by decide +kernel
theorem d_Lw_law_493 : decode code 493 = .ok (.aload_n 0, 1) := by decide +kernel
theorem d_Lw_law_494 : decode code 494 = .ok (.iload 5, 2) := by decide +kernel
theorem d_Lw_law_496 : decode code 496 = .ok (.iconst 2, 1) := by decide +kernel
theorem d_Lw_law_497 : decode code 497 = .ok (.iadd, 1) := by decide +kernel
theorem d_Lw_law_498 : decode code 498 = .ok (.iaload, 1) := by decide +kernel
theorem d_Lw_law_499 : decode code 499 = .ok (.aload_n 3, 1) := by decide +kernel
theorem d_Lw_law_500 : decode code 500 = .ok (.invokestatic 202, 3) := by decide +kernel
theorem ok_Lw_law_Lw_filledIn : z_okX M_Lw_law M_Lw_filledIn 4 := ⟨z_mem (i := 823) (by decide +kernel) (by decide +kernel), by decide, ⟨by decide +kernel, by decide +kernel, by decide +kernel⟩, ⟨by decide, by decide⟩, z_mem (i := 57) (by decide +kernel) (by decide +kernel), rfl⟩
theorem ln_Lw_202 : Cond.methodLink "IronpourLaw" 202 M_Lw_filledIn.1 ∈ z_gw := z_mem (i := 821) (by decide +kernel) (by decide +kernel)
theorem w_st_Lw_filledIn : Cond.static M_Lw_filledIn.1 ∈ z_gw := z_mem (i := 822) (by decide +kernel) (by decide +kernel)
theorem d_Lw_law_503 : decode code 503 = .ok (.istore 6, 2) := by decide +kernel
theorem d_Lw_law_505 : decode code 505 = .ok (.aload_n 2, 1) := by decide +kernel
theorem d_Lw_law_506 : decode code 506 = .ok (.aload_n 0, 1) := by decide +kernel
theorem d_Lw_law_507 : decode code 507 = .ok (.iload 5, 2) := by decide +kernel
theorem d_Lw_law_509 : decode code 509 = .ok (.iconst 1, 1) := by decide +kernel
theorem d_Lw_law_510 : decode code 510 = .ok (.iadd, 1) := by decide +kernel
theorem d_Lw_law_511 : decode code 511 = .ok (.iaload, 1) := by decide +kernel
theorem d_Lw_law_512 : decode code 512 = .ok (.aload_n 0, 1) := by decide +kernel
theorem d_Lw_law_513 : decode code 513 = .ok (.iload 5, 2) := by decide +kernel
theorem d_Lw_law_515 : decode code 515 = .ok (.iconst 2, 1) := by decide +kernel
theorem d_Lw_law_516 : decode code 516 = .ok (.iadd, 1) := by decide +kernel
theorem d_Lw_law_517 : decode code 517 = .ok (.iaload, 1) := by decide +kernel
theorem d_Lw_law_518 : decode code 518 = .ok (.invokevirtual 204, 3) := by decide +kernel
theorem ok_Lw_law_Mm_filledIn : z_ok M_Lw_law M_Mm_filledIn 2 := ⟨z_mem (i := 1748) (by decide +kernel) (by decide +kernel), rfl, ⟨by decide +kernel, by decide +kernel, by decide +kernel⟩, ⟨by decide, by decide⟩, z_mem (i := 71) (by decide +kernel) (by decide +kernel), rfl⟩
theorem ln_Lw_204 : Cond.methodLink "IronpourLaw" 204 M_Mm_filledIn.1 ∈ z_gw := z_mem (i := 1745) (by decide +kernel) (by decide +kernel)
theorem w_im_Mm_filledIn : Cond.instanceMethod M_Mm_filledIn.1 ∈ z_gw := z_mem (i := 1746) (by decide +kernel) (by decide +kernel)
theorem w_se_Mm_filledIn : Cond.selects M_Mm_filledIn.1.cls M_Mm_filledIn.1 M_Mm_filledIn.1 ∈ z_gw := z_mem (i := 1747) (by decide +kernel) (by decide +kernel)
theorem d_Lw_law_521 : decode code 521 = .ok (.istore 7, 2) := by decide +kernel
theorem d_Lw_law_523 : decode code 523 = .ok (.goto 1285, 3) := by decide +kernel
set_option maxHeartbeats 4000000 in
set_option maxRecDepth 100000 in
theorem LC_filledIn {g : zG} {ad : Nat → Nat} {t : zTT} {u : zNN} {w : zW} (hI : IV g ad t u w) (hR : REL t) {j r : Nat} (hJ : 7 * j + 7 ≤ g.2.2 41) (hL : g.2.2 41 < 2 ^ 31) (ih : LWI g ad j r) : DW g M_Lw_law lwQ w 486 [(5, .int (nI (7 * j))), (4, .ref (ad 70)), (3, .ref (ad 69)), (2, .ref (ad 52)), (1, .ref (ad 0)), (0, .ref (g.2.2 40))] [] (100 * (r + 1)) (1000 * (r + 1)) := by
  refine y_base (cs := []) (z_I.nil w) ?_
  refine y_aload_n d_Lw_law_486 rfl 4 rfl ?_
  refine y_aload_n d_Lw_law_487 rfl 5 rfl ?_
  refine y_iload d_Lw_law_488 0 rfl ?_
  refine y_iconst d_Lw_law_490 (v := 1) (by decide) ?_
  refine y_iadd d_Lw_law_491 (v := nI ((7 * j) + 1)) (nI_add _ _) ?_
  refine y_sld (v := zs g (7 * j + 1)) d_Lw_law_492 (vp_in_nI (by omega) (by omega)) (by rw [nI_clamp (by omega)]; rfl) ?_
  refine y_aload_n d_Lw_law_493 rfl 5 rfl ?_
  refine y_iload d_Lw_law_494 0 rfl ?_
  refine y_iconst d_Lw_law_496 (v := 2) (by decide) ?_
  refine y_iadd d_Lw_law_497 (v := nI ((7 * j) + 2)) (nI_add _ _) ?_
  refine y_sld (v := zs g (7 * j + 2)) d_Lw_law_498 (vp_in_nI (by omega) (by omega)) (by rw [nI_clamp (by omega)]; rfl) ?_
  refine y_aload_n d_Lw_law_499 rfl 2 rfl ?_
  refine yw_callSX (As := [.ref (ad 0), .int (zs g (7 * j + 1)), .int (zs g (7 * j + 2)), .ref (ad 69)]) (rest := []) ln_Lw_202 w_st_Lw_filledIn ok_Lw_law_Lw_filledIn d_Lw_law_500 (fun wA hA => W_filledIn (IV.nil hA hI) _ _) rfl rfl (Nat.le_of_ble_eq_true rfl) (by omega) (by omega) (fun wA500 hA500 E wB500 hx => ?_) (fun wA500 hA500 v wB500 hx => ?_)
  · obtain ⟨⟨v9, e1⟩, -⟩ := hx
    cases e1
  · obtain ⟨⟨v9, e1⟩, u2, hI2⟩ := hx
    cases e1
    refine yw_st (st2 := [.int v9]) rfl ?_
    have hI := hI2
    refine y_base (cs := []) (z_I.nil _) ?_
    refine y_istore (lv' := [(6, .int v9), (5, .int (nI (7 * j))), (4, .ref (ad 70)), (3, .ref (ad 69)), (2, .ref (ad 52)), (1, .ref (ad 0)), (0, .ref (g.2.2 40))]) d_Lw_law_503 (by decide) rfl ?_
    refine y_aload_n d_Lw_law_505 rfl 4 rfl ?_
    refine y_aload_n d_Lw_law_506 rfl 6 rfl ?_
    refine y_iload d_Lw_law_507 1 rfl ?_
    refine y_iconst d_Lw_law_509 (v := 1) (by decide) ?_
    refine y_iadd d_Lw_law_510 (v := nI ((7 * j) + 1)) (nI_add _ _) ?_
    refine y_sld (v := zs g (7 * j + 1)) d_Lw_law_511 (vp_in_nI (by omega) (by omega)) (by rw [nI_clamp (by omega)]; rfl) ?_
    refine y_aload_n d_Lw_law_512 rfl 6 rfl ?_
    refine y_iload d_Lw_law_513 1 rfl ?_
    refine y_iconst d_Lw_law_515 (v := 2) (by decide) ?_
    refine y_iadd d_Lw_law_516 (v := nI ((7 * j) + 2)) (nI_add _ _) ?_
    refine y_sld (v := zs g (7 * j + 2)) d_Lw_law_517 (vp_in_nI (by omega) (by omega)) (by rw [nI_clamp (by omega)]; rfl) ?_
    refine yw_callVL (As := [.int (zs g (7 * j + 1)), .int (zs g (7 * j + 2))]) (rest := []) (ci := 12) rfl (fun wA hA => (IV.nil hA hI).rm) ln_Lw_204 w_im_Mm_filledIn w_se_Mm_filledIn ok_Lw_law_Mm_filledIn d_Lw_law_518 (fun wA hA => K_Mm_filledIn (IV.nil hA hI) _ _) rfl rfl (Nat.le_of_ble_eq_true rfl) (by omega) (by omega) (fun wA518 hA518 E wB518 hx => ?_) (fun wA518 hA518 v wB518 hx => ?_)
    · obtain ⟨⟨v8, e1⟩, -⟩ := hx
      cases e1
    · obtain ⟨⟨v8, e1⟩, u2, hI2⟩ := hx
      cases e1
      refine yw_st (st2 := [.int v8]) rfl ?_
      have hI := hI2
      refine y_base (cs := []) (z_I.nil _) ?_
      refine y_istore (lv' := [(7, .int v8), (6, .int v9), (5, .int (nI (7 * j))), (4, .ref (ad 70)), (3, .ref (ad 69)), (2, .ref (ad 52)), (1, .ref (ad 0)), (0, .ref (g.2.2 40))]) d_Lw_law_521 (by decide) rfl ?_
      refine y_goto (tgt := 1808) d_Lw_law_523 (by decide) ?_
      refine y_lv (lv' := [(5, .int (nI (7 * j))), (4, .ref (ad 70)), (3, .ref (ad 69)), (2, .ref (ad 52)), (1, .ref (ad 0)), (0, .ref (g.2.2 40))]) [2, 3, 4, 5, 6, 7] rfl ?_
      refine y_end (fun wC hC => ?_)
      exact LC_next (IV.nil hC hI) hR hJ hL ih (by omega) (by omega)
theorem d_Lw_law_526 : decode code 526 = .ok (.aload_n 1, 1) := by decide +kernel
theorem d_Lw_law_527 : decode code 527 = .ok (.aload_n 3, 1) := by decide +kernel
theorem d_Lw_law_528 : decode code 528 = .ok (.invokestatic 205, 3) := by decide +kernel
theorem ok_Lw_law_Lw_speed : z_okX M_Lw_law M_Lw_speed 2 := ⟨z_mem (i := 831) (by decide +kernel) (by decide +kernel), by decide, ⟨by decide +kernel, by decide +kernel, by decide +kernel⟩, ⟨by decide, by decide⟩, z_mem (i := 57) (by decide +kernel) (by decide +kernel), rfl⟩
theorem ln_Lw_205 : Cond.methodLink "IronpourLaw" 205 M_Lw_speed.1 ∈ z_gw := z_mem (i := 829) (by decide +kernel) (by decide +kernel)
theorem w_st_Lw_speed : Cond.static M_Lw_speed.1 ∈ z_gw := z_mem (i := 830) (by decide +kernel) (by decide +kernel)
theorem d_Lw_law_531 : decode code 531 = .ok (.istore 6, 2) := by decide +kernel
theorem d_Lw_law_533 : decode code 533 = .ok (.aload_n 2, 1) := by decide +kernel
theorem d_Lw_law_534 : decode code 534 = .ok (.invokevirtual 208, 3) := by decide +kernel
theorem ok_Lw_law_Mm_speed : z_ok M_Lw_law M_Mm_speed 0 := ⟨z_mem (i := 1763) (by decide +kernel) (by decide +kernel), rfl, ⟨by decide +kernel, by decide +kernel, by decide +kernel⟩, ⟨by decide, by decide⟩, z_mem (i := 71) (by decide +kernel) (by decide +kernel), rfl⟩
theorem ln_Lw_208 : Cond.methodLink "IronpourLaw" 208 M_Mm_speed.1 ∈ z_gw := z_mem (i := 1760) (by decide +kernel) (by decide +kernel)
theorem w_im_Mm_speed : Cond.instanceMethod M_Mm_speed.1 ∈ z_gw := z_mem (i := 1761) (by decide +kernel) (by decide +kernel)
theorem w_se_Mm_speed : Cond.selects M_Mm_speed.1.cls M_Mm_speed.1 M_Mm_speed.1 ∈ z_gw := z_mem (i := 1762) (by decide +kernel) (by decide +kernel)
theorem d_Lw_law_537 : decode code 537 = .ok (.istore 7, 2) := by decide +kernel
theorem d_Lw_law_539 : decode code 539 = .ok (.goto 1269, 3) := by decide +kernel
set_option maxHeartbeats 4000000 in
set_option maxRecDepth 100000 in
theorem LC_speed {g : zG} {ad : Nat → Nat} {t : zTT} {u : zNN} {w : zW} (hI : IV g ad t u w) (hR : REL t) {j r : Nat} (hJ : 7 * j + 7 ≤ g.2.2 41) (hL : g.2.2 41 < 2 ^ 31) (ih : LWI g ad j r) : DW g M_Lw_law lwQ w 526 [(5, .int (nI (7 * j))), (4, .ref (ad 70)), (3, .ref (ad 69)), (2, .ref (ad 52)), (1, .ref (ad 0)), (0, .ref (g.2.2 40))] [] (100 * (r + 1)) (1000 * (r + 1)) := by
  refine y_base (cs := []) (z_I.nil w) ?_
  refine y_aload_n d_Lw_law_526 rfl 4 rfl ?_
  refine y_aload_n d_Lw_law_527 rfl 2 rfl ?_
  refine yw_callSX (As := [.ref (ad 0), .ref (ad 69)]) (rest := []) ln_Lw_205 w_st_Lw_speed ok_Lw_law_Lw_speed d_Lw_law_528 (fun wA hA => W_speed (IV.nil hA hI)) rfl rfl (Nat.le_of_ble_eq_true rfl) (by omega) (by omega) (fun wA528 hA528 E wB528 hx => ?_) (fun wA528 hA528 v wB528 hx => ?_)
  · obtain ⟨⟨v9, e1⟩, -⟩ := hx
    cases e1
  · obtain ⟨⟨v9, e1⟩, u2, hI2⟩ := hx
    cases e1
    refine yw_st (st2 := [.int v9]) rfl ?_
    have hI := hI2
    refine y_base (cs := []) (z_I.nil _) ?_
    refine y_istore (lv' := [(6, .int v9), (5, .int (nI (7 * j))), (4, .ref (ad 70)), (3, .ref (ad 69)), (2, .ref (ad 52)), (1, .ref (ad 0)), (0, .ref (g.2.2 40))]) d_Lw_law_531 (by decide) rfl ?_
    refine y_aload_n d_Lw_law_533 rfl 4 rfl ?_
    refine yw_callVL (As := []) (rest := []) (ci := 12) rfl (fun wA hA => (IV.nil hA hI).rm) ln_Lw_208 w_im_Mm_speed w_se_Mm_speed ok_Lw_law_Mm_speed d_Lw_law_534 (fun wA hA => K_Mm_speed (IV.nil hA hI)) rfl rfl (Nat.le_of_ble_eq_true rfl) (by omega) (by omega) (fun wA534 hA534 E wB534 hx => ?_) (fun wA534 hA534 v wB534 hx => ?_)
    · obtain ⟨⟨v8, e1⟩, -⟩ := hx
      cases e1
    · obtain ⟨⟨v8, e1⟩, u2, hI2⟩ := hx
      cases e1
      refine yw_st (st2 := [.int v8]) rfl ?_
      have hI := hI2
      refine y_base (cs := []) (z_I.nil _) ?_
      refine y_istore (lv' := [(7, .int v8), (6, .int v9), (5, .int (nI (7 * j))), (4, .ref (ad 70)), (3, .ref (ad 69)), (2, .ref (ad 52)), (1, .ref (ad 0)), (0, .ref (g.2.2 40))]) d_Lw_law_537 (by decide) rfl ?_
      refine y_goto (tgt := 1808) d_Lw_law_539 (by decide) ?_
      refine y_lv (lv' := [(5, .int (nI (7 * j))), (4, .ref (ad 70)), (3, .ref (ad 69)), (2, .ref (ad 52)), (1, .ref (ad 0)), (0, .ref (g.2.2 40))]) [2, 3, 4, 5, 6, 7] rfl ?_
      refine y_end (fun wC hC => ?_)
      exact LC_next (IV.nil hC hI) hR hJ hL ih (by omega) (by omega)
theorem d_Lw_law_542 : decode code 542 = .ok (.aload_n 1, 1) := by decide +kernel
theorem d_Lw_law_543 : decode code 543 = .ok (.aload_n 0, 1) := by decide +kernel
theorem d_Lw_law_544 : decode code 544 = .ok (.iload 5, 2) := by decide +kernel
theorem d_Lw_law_546 : decode code 546 = .ok (.iconst 1, 1) := by decide +kernel
theorem d_Lw_law_547 : decode code 547 = .ok (.iadd, 1) := by decide +kernel
theorem d_Lw_law_548 : decode code 548 = .ok (.iaload, 1) := by decide +kernel
theorem d_Lw_law_549 : decode code 549 = .ok (.aload_n 0, 1) := by decide +kernel
theorem d_Lw_law_550 : decode code 550 = .ok (.iload 5, 2) := by decide +kernel
theorem d_Lw_law_552 : decode code 552 = .ok (.iconst 2, 1) := by decide +kernel
theorem d_Lw_law_553 : decode code 553 = .ok (.iadd, 1) := by decide +kernel
theorem d_Lw_law_554 : decode code 554 = .ok (.iaload, 1) := by decide +kernel
theorem d_Lw_law_555 : decode code 555 = .ok (.aload_n 0, 1) := by decide +kernel
theorem d_Lw_law_556 : decode code 556 = .ok (.iload 5, 2) := by decide +kernel
theorem d_Lw_law_558 : decode code 558 = .ok (.iconst 3, 1) := by decide +kernel
theorem d_Lw_law_559 : decode code 559 = .ok (.iadd, 1) := by decide +kernel
theorem d_Lw_law_560 : decode code 560 = .ok (.iaload, 1) := by decide +kernel
theorem d_Lw_law_561 : decode code 561 = .ok (.aload_n 3, 1) := by decide +kernel
theorem d_Lw_law_562 : decode code 562 = .ok (.invokestatic 209, 3) := by decide +kernel
theorem ok_Lw_law_Lw_frozenIn : z_okX M_Lw_law M_Lw_frozenIn 5 := ⟨z_mem (i := 864) (by decide +kernel) (by decide +kernel), by decide, ⟨by decide +kernel, by decide +kernel, by decide +kernel⟩, ⟨by decide, by decide⟩, z_mem (i := 57) (by decide +kernel) (by decide +kernel), rfl⟩
theorem ln_Lw_209 : Cond.methodLink "IronpourLaw" 209 M_Lw_frozenIn.1 ∈ z_gw := z_mem (i := 862) (by decide +kernel) (by decide +kernel)
theorem w_st_Lw_frozenIn : Cond.static M_Lw_frozenIn.1 ∈ z_gw := z_mem (i := 863) (by decide +kernel) (by decide +kernel)
theorem d_Lw_law_565 : decode code 565 = .ok (.istore 6, 2) := by decide +kernel
theorem d_Lw_law_567 : decode code 567 = .ok (.aload_n 2, 1) := by decide +kernel
theorem d_Lw_law_568 : decode code 568 = .ok (.aload_n 0, 1) := by decide +kernel
theorem d_Lw_law_569 : decode code 569 = .ok (.iload 5, 2) := by decide +kernel
theorem d_Lw_law_571 : decode code 571 = .ok (.iconst 1, 1) := by decide +kernel
theorem d_Lw_law_572 : decode code 572 = .ok (.iadd, 1) := by decide +kernel
theorem d_Lw_law_573 : decode code 573 = .ok (.iaload, 1) := by decide +kernel
theorem d_Lw_law_574 : decode code 574 = .ok (.aload_n 0, 1) := by decide +kernel
theorem d_Lw_law_575 : decode code 575 = .ok (.iload 5, 2) := by decide +kernel
theorem d_Lw_law_577 : decode code 577 = .ok (.iconst 2, 1) := by decide +kernel
theorem d_Lw_law_578 : decode code 578 = .ok (.iadd, 1) := by decide +kernel
theorem d_Lw_law_579 : decode code 579 = .ok (.iaload, 1) := by decide +kernel
theorem d_Lw_law_580 : decode code 580 = .ok (.aload_n 0, 1) := by decide +kernel
theorem d_Lw_law_581 : decode code 581 = .ok (.iload 5, 2) := by decide +kernel
theorem d_Lw_law_583 : decode code 583 = .ok (.iconst 3, 1) := by decide +kernel
theorem d_Lw_law_584 : decode code 584 = .ok (.iadd, 1) := by decide +kernel
theorem d_Lw_law_585 : decode code 585 = .ok (.iaload, 1) := by decide +kernel
theorem d_Lw_law_586 : decode code 586 = .ok (.invokevirtual 212, 3) := by decide +kernel
theorem ok_Lw_law_Mm_frozenIn : z_ok M_Lw_law M_Mm_frozenIn 3 := ⟨z_mem (i := 1770) (by decide +kernel) (by decide +kernel), rfl, ⟨by decide +kernel, by decide +kernel, by decide +kernel⟩, ⟨by decide, by decide⟩, z_mem (i := 71) (by decide +kernel) (by decide +kernel), rfl⟩
theorem ln_Lw_212 : Cond.methodLink "IronpourLaw" 212 M_Mm_frozenIn.1 ∈ z_gw := z_mem (i := 1767) (by decide +kernel) (by decide +kernel)
theorem w_im_Mm_frozenIn : Cond.instanceMethod M_Mm_frozenIn.1 ∈ z_gw := z_mem (i := 1768) (by decide +kernel) (by decide +kernel)
theorem w_se_Mm_frozenIn : Cond.selects M_Mm_frozenIn.1.cls M_Mm_frozenIn.1 M_Mm_frozenIn.1 ∈ z_gw := z_mem (i := 1769) (by decide +kernel) (by decide +kernel)
theorem d_Lw_law_589 : decode code 589 = .ok (.istore 7, 2) := by decide +kernel
theorem d_Lw_law_591 : decode code 591 = .ok (.goto 1217, 3) := by decide +kernel
set_option maxHeartbeats 4000000 in
set_option maxRecDepth 100000 in
theorem LC_frozenIn {g : zG} {ad : Nat → Nat} {t : zTT} {u : zNN} {w : zW} (hI : IV g ad t u w) (hR : REL t) {j r : Nat} (hJ : 7 * j + 7 ≤ g.2.2 41) (hL : g.2.2 41 < 2 ^ 31) (ih : LWI g ad j r) : DW g M_Lw_law lwQ w 542 [(5, .int (nI (7 * j))), (4, .ref (ad 70)), (3, .ref (ad 69)), (2, .ref (ad 52)), (1, .ref (ad 0)), (0, .ref (g.2.2 40))] [] (100 * (r + 1)) (1000 * (r + 1)) := by
  refine y_base (cs := []) (z_I.nil w) ?_
  refine y_aload_n d_Lw_law_542 rfl 4 rfl ?_
  refine y_aload_n d_Lw_law_543 rfl 5 rfl ?_
  refine y_iload d_Lw_law_544 0 rfl ?_
  refine y_iconst d_Lw_law_546 (v := 1) (by decide) ?_
  refine y_iadd d_Lw_law_547 (v := nI ((7 * j) + 1)) (nI_add _ _) ?_
  refine y_sld (v := zs g (7 * j + 1)) d_Lw_law_548 (vp_in_nI (by omega) (by omega)) (by rw [nI_clamp (by omega)]; rfl) ?_
  refine y_aload_n d_Lw_law_549 rfl 5 rfl ?_
  refine y_iload d_Lw_law_550 0 rfl ?_
  refine y_iconst d_Lw_law_552 (v := 2) (by decide) ?_
  refine y_iadd d_Lw_law_553 (v := nI ((7 * j) + 2)) (nI_add _ _) ?_
  refine y_sld (v := zs g (7 * j + 2)) d_Lw_law_554 (vp_in_nI (by omega) (by omega)) (by rw [nI_clamp (by omega)]; rfl) ?_
  refine y_aload_n d_Lw_law_555 rfl 5 rfl ?_
  refine y_iload d_Lw_law_556 0 rfl ?_
  refine y_iconst d_Lw_law_558 (v := 3) (by decide) ?_
  refine y_iadd d_Lw_law_559 (v := nI ((7 * j) + 3)) (nI_add _ _) ?_
  refine y_sld (v := zs g (7 * j + 3)) d_Lw_law_560 (vp_in_nI (by omega) (by omega)) (by rw [nI_clamp (by omega)]; rfl) ?_
  refine y_aload_n d_Lw_law_561 rfl 2 rfl ?_
  refine yw_callSX (As := [.ref (ad 0), .int (zs g (7 * j + 1)), .int (zs g (7 * j + 2)), .int (zs g (7 * j + 3)), .ref (ad 69)]) (rest := []) ln_Lw_209 w_st_Lw_frozenIn ok_Lw_law_Lw_frozenIn d_Lw_law_562 (fun wA hA => W_frozenIn (IV.nil hA hI) _ _ _) rfl rfl (Nat.le_of_ble_eq_true rfl) (by omega) (by omega) (fun wA562 hA562 E wB562 hx => ?_) (fun wA562 hA562 v wB562 hx => ?_)
  · obtain ⟨⟨v9, e1⟩, -⟩ := hx
    cases e1
  · obtain ⟨⟨v9, e1⟩, u2, hI2⟩ := hx
    cases e1
    refine yw_st (st2 := [.int v9]) rfl ?_
    have hI := hI2
    refine y_base (cs := []) (z_I.nil _) ?_
    refine y_istore (lv' := [(6, .int v9), (5, .int (nI (7 * j))), (4, .ref (ad 70)), (3, .ref (ad 69)), (2, .ref (ad 52)), (1, .ref (ad 0)), (0, .ref (g.2.2 40))]) d_Lw_law_565 (by decide) rfl ?_
    refine y_aload_n d_Lw_law_567 rfl 4 rfl ?_
    refine y_aload_n d_Lw_law_568 rfl 6 rfl ?_
    refine y_iload d_Lw_law_569 1 rfl ?_
    refine y_iconst d_Lw_law_571 (v := 1) (by decide) ?_
    refine y_iadd d_Lw_law_572 (v := nI ((7 * j) + 1)) (nI_add _ _) ?_
    refine y_sld (v := zs g (7 * j + 1)) d_Lw_law_573 (vp_in_nI (by omega) (by omega)) (by rw [nI_clamp (by omega)]; rfl) ?_
    refine y_aload_n d_Lw_law_574 rfl 6 rfl ?_
    refine y_iload d_Lw_law_575 1 rfl ?_
    refine y_iconst d_Lw_law_577 (v := 2) (by decide) ?_
    refine y_iadd d_Lw_law_578 (v := nI ((7 * j) + 2)) (nI_add _ _) ?_
    refine y_sld (v := zs g (7 * j + 2)) d_Lw_law_579 (vp_in_nI (by omega) (by omega)) (by rw [nI_clamp (by omega)]; rfl) ?_
    refine y_aload_n d_Lw_law_580 rfl 6 rfl ?_
    refine y_iload d_Lw_law_581 1 rfl ?_
    refine y_iconst d_Lw_law_583 (v := 3) (by decide) ?_
    refine y_iadd d_Lw_law_584 (v := nI ((7 * j) + 3)) (nI_add _ _) ?_
    refine y_sld (v := zs g (7 * j + 3)) d_Lw_law_585 (vp_in_nI (by omega) (by omega)) (by rw [nI_clamp (by omega)]; rfl) ?_
    refine yw_callVL (As := [.int (zs g (7 * j + 1)), .int (zs g (7 * j + 2)), .int (zs g (7 * j + 3))]) (rest := []) (ci := 12) rfl (fun wA hA => (IV.nil hA hI).rm) ln_Lw_212 w_im_Mm_frozenIn w_se_Mm_frozenIn ok_Lw_law_Mm_frozenIn d_Lw_law_586 (fun wA hA => K_Mm_frozenIn (IV.nil hA hI) _ _ _) rfl rfl (Nat.le_of_ble_eq_true rfl) (by omega) (by omega) (fun wA586 hA586 E wB586 hx => ?_) (fun wA586 hA586 v wB586 hx => ?_)
    · obtain ⟨⟨v8, e1⟩, -⟩ := hx
      cases e1
    · obtain ⟨⟨v8, e1⟩, u2, hI2⟩ := hx
      cases e1
      refine yw_st (st2 := [.int v8]) rfl ?_
      have hI := hI2
      refine y_base (cs := []) (z_I.nil _) ?_
      refine y_istore (lv' := [(7, .int v8), (6, .int v9), (5, .int (nI (7 * j))), (4, .ref (ad 70)), (3, .ref (ad 69)), (2, .ref (ad 52)), (1, .ref (ad 0)), (0, .ref (g.2.2 40))]) d_Lw_law_589 (by decide) rfl ?_
      refine y_goto (tgt := 1808) d_Lw_law_591 (by decide) ?_
      refine y_lv (lv' := [(5, .int (nI (7 * j))), (4, .ref (ad 70)), (3, .ref (ad 69)), (2, .ref (ad 52)), (1, .ref (ad 0)), (0, .ref (g.2.2 40))]) [2, 3, 4, 5, 6, 7] rfl ?_
      refine y_end (fun wC hC => ?_)
      exact LC_next (IV.nil hC hI) hR hJ hL ih (by omega) (by omega)
