theorem d_Lw_law_498 : decode code 498 = .ok (.aload_n 1, 1) := zo_43 (zd_b zq_code_15 18 rfl rfl rfl)
theorem d_Lw_law_499 : decode code 499 = .ok (.aload_n 3, 1) := zo_45 (zd_b zq_code_15 19 rfl rfl rfl)
theorem d_Lw_law_500 : decode code 500 = .ok (.invokestatic 202, 3) := zo_184 (d := 0) (e := 202) (zd_b zq_code_15 20 rfl rfl rfl) (zd_b zq_code_15 21 rfl rfl rfl) (zd_b zq_code_15 22 rfl rfl rfl)
theorem ok_Lw_law_Lw_speed : z_okX M_Lw_law M_Lw_speed 2 := ⟨z_mj4 (i := 54) rfl (by decide +kernel), by decide, ⟨by decide +kernel, by decide +kernel, by decide +kernel⟩, ⟨by decide, by decide⟩, z_mj1 (i := 0) rfl (by decide +kernel), rfl⟩
theorem ln_Lw_202 : Cond.methodLink "IronpourLaw" 202 M_Lw_speed.1 ∈ z_gw := z_mj4 (i := 52) rfl (by decide +kernel)
theorem w_st_Lw_speed : Cond.static M_Lw_speed.1 ∈ z_gw := z_mj4 (i := 53) rfl (by decide +kernel)
theorem d_Lw_law_503 : decode code 503 = .ok (.istore 6, 2) := zo_54 (d := 6) (zd_b zq_code_15 23 rfl rfl rfl) (zd_b zq_code_15 24 rfl rfl rfl)
theorem d_Lw_law_505 : decode code 505 = .ok (.aload_n 2, 1) := zo_44 (zd_b zq_code_15 25 rfl rfl rfl)
theorem d_Lw_law_506 : decode code 506 = .ok (.invokevirtual 205, 3) := zo_182 (d := 0) (e := 205) (zd_b zq_code_15 26 rfl rfl rfl) (zd_b zq_code_15 27 rfl rfl rfl) (zd_b zq_code_15 28 rfl rfl rfl)
theorem ok_Lw_law_Mm_speed : z_ok M_Lw_law M_Mm_speed 0 := ⟨z_mj8 (i := 26) rfl (by decide +kernel), rfl, ⟨by decide +kernel, by decide +kernel, by decide +kernel⟩, ⟨by decide, by decide⟩, z_mj1 (i := 14) rfl (by decide +kernel), rfl⟩
theorem ln_Lw_205 : Cond.methodLink "IronpourLaw" 205 M_Mm_speed.1 ∈ z_gw := z_mj8 (i := 23) rfl (by decide +kernel)
theorem w_im_Mm_speed : Cond.instanceMethod M_Mm_speed.1 ∈ z_gw := z_mj8 (i := 24) rfl (by decide +kernel)
theorem w_se_Mm_speed : Cond.selects M_Mm_speed.1.cls M_Mm_speed.1 M_Mm_speed.1 ∈ z_gw := z_mj8 (i := 25) rfl (by decide +kernel)
theorem d_Lw_law_509 : decode code 509 = .ok (.istore 7, 2) := zo_54 (d := 7) (zd_b zq_code_15 29 rfl rfl rfl) (zd_b zq_code_15 30 rfl rfl rfl)
theorem d_Lw_law_511 : decode code 511 = .ok (.goto 1297, 3) := zo_167 (d := 5) (e := 17) (zd_b zq_code_15 31 rfl rfl rfl) (zd_b zq_code_16 0 rfl rfl rfl) (zd_b zq_code_16 1 rfl rfl rfl) (by decide +kernel)
set_option maxHeartbeats 4000000 in
set_option maxRecDepth 100000 in
theorem LC_speed {g : zG} {ad : Nat → Nat} {t : zTT} {u : zNN} {w : zW} {j : Nat} (hI : IVm g ad t u w) (hR : REL t u.1 (48 * j)) {r : Nat} (hJ : 7 * j + 7 ≤ g.2.2 41) (hL : g.2.2 41 ≤ 3584) (ih : LWI g ad j r) : DW g M_Lw_law lwQ w 498 [(5, .int (nI (7 * j))), (4, .ref (ad 70)), (3, .ref (ad 69)), (2, .ref (ad 52)), (1, .ref (ad 0)), (0, .ref (g.2.2 40))] [] (100 * (r + 1)) (1000 * (r + 1)) := by
  refine y_base (cs := []) (z_I.nil w) ?_
  refine y_aload_n d_Lw_law_498 rfl 4 rfl ?_
  refine y_aload_n d_Lw_law_499 rfl 2 rfl ?_
  refine yw_callSX (As := [.ref (ad 0), .ref (ad 69)]) (rest := []) ln_Lw_202 w_st_Lw_speed ok_Lw_law_Lw_speed d_Lw_law_500 (fun wA hA => W_speed (IVm.nil hA hI)) rfl rfl (Nat.le_of_ble_eq_true rfl) (by omega) (by omega) (fun wA500 hA500 E wB500 hx => ?_) (fun wA500 hA500 v wB500 hx => ?_)
  · obtain ⟨⟨v9, e1⟩, -⟩ := hx
    cases e1
  · obtain ⟨⟨v9, e1⟩, uC, huC, hI2⟩ := hx
    cases e1
    refine yw_st (st2 := [.int v9]) rfl ?_
    have hI := hI2
    refine y_base (cs := []) (z_I.nil _) ?_
    refine y_istore (lv' := [(6, .int v9), (5, .int (nI (7 * j))), (4, .ref (ad 70)), (3, .ref (ad 69)), (2, .ref (ad 52)), (1, .ref (ad 0)), (0, .ref (g.2.2 40))]) d_Lw_law_503 (by decide) rfl ?_
    refine y_aload_n d_Lw_law_505 rfl 4 rfl ?_
    refine yw_callVL (As := []) (rest := []) (ci := 12) rfl (fun wA hA => (IVm.nil hA hI).rm) ln_Lw_205 w_im_Mm_speed w_se_Mm_speed ok_Lw_law_Mm_speed d_Lw_law_506 (fun wA hA => K_Mm_speed (IVm.nil hA hI)) rfl rfl (Nat.le_of_ble_eq_true rfl) (by omega) (by omega) (fun wA506 hA506 E wB506 hx => ?_) (fun wA506 hA506 v wB506 hx => ?_)
    · obtain ⟨⟨v8, e1⟩, -⟩ := hx
      cases e1
    · obtain ⟨⟨v8, e1⟩, uM, huM, hI2⟩ := hx
      cases e1
      refine yw_st (st2 := [.int v8]) rfl ?_
      have hI := hI2
      refine y_base (cs := []) (z_I.nil _) ?_
      refine y_istore (lv' := [(7, .int v8), (6, .int v9), (5, .int (nI (7 * j))), (4, .ref (ad 70)), (3, .ref (ad 69)), (2, .ref (ad 52)), (1, .ref (ad 0)), (0, .ref (g.2.2 40))]) d_Lw_law_509 (by decide) rfl ?_
      refine y_goto (tgt := 1808) d_Lw_law_511 (by decide) ?_
      refine y_lv (lv' := [(5, .int (nI (7 * j))), (4, .ref (ad 70)), (3, .ref (ad 69)), (2, .ref (ad 52)), (1, .ref (ad 0)), (0, .ref (g.2.2 40))]) [2, 3, 4, 5, 6, 7] rfl ?_
      refine y_end (fun wC hC => ?_)
      exact LC_next (IVm.nil hC hI) ((hR.n (huM.trans huC)).up (by omega)) hJ hL ih (by omega) (by omega)
theorem d_Lw_law_514 : decode code 514 = .ok (.aload_n 1, 1) := zo_43 (zd_b zq_code_16 2 rfl rfl rfl)
theorem d_Lw_law_515 : decode code 515 = .ok (.aload_n 0, 1) := zo_42 (zd_b zq_code_16 3 rfl rfl rfl)
theorem d_Lw_law_516 : decode code 516 = .ok (.iload 5, 2) := zo_21 (d := 5) (zd_b zq_code_16 4 rfl rfl rfl) (zd_b zq_code_16 5 rfl rfl rfl)
theorem d_Lw_law_518 : decode code 518 = .ok (.iconst 1, 1) := zo_4 (zd_b zq_code_16 6 rfl rfl rfl)
theorem d_Lw_law_519 : decode code 519 = .ok (.iadd, 1) := zo_96 (zd_b zq_code_16 7 rfl rfl rfl)
theorem d_Lw_law_520 : decode code 520 = .ok (.iaload, 1) := zo_46 (zd_b zq_code_16 8 rfl rfl rfl)
theorem d_Lw_law_521 : decode code 521 = .ok (.aload_n 0, 1) := zo_42 (zd_b zq_code_16 9 rfl rfl rfl)
theorem d_Lw_law_522 : decode code 522 = .ok (.iload 5, 2) := zo_21 (d := 5) (zd_b zq_code_16 10 rfl rfl rfl) (zd_b zq_code_16 11 rfl rfl rfl)
theorem d_Lw_law_524 : decode code 524 = .ok (.iconst 2, 1) := zo_5 (zd_b zq_code_16 12 rfl rfl rfl)
theorem d_Lw_law_525 : decode code 525 = .ok (.iadd, 1) := zo_96 (zd_b zq_code_16 13 rfl rfl rfl)
theorem d_Lw_law_526 : decode code 526 = .ok (.iaload, 1) := zo_46 (zd_b zq_code_16 14 rfl rfl rfl)
theorem d_Lw_law_527 : decode code 527 = .ok (.aload_n 0, 1) := zo_42 (zd_b zq_code_16 15 rfl rfl rfl)
theorem d_Lw_law_528 : decode code 528 = .ok (.iload 5, 2) := zo_21 (d := 5) (zd_b zq_code_16 16 rfl rfl rfl) (zd_b zq_code_16 17 rfl rfl rfl)
theorem d_Lw_law_530 : decode code 530 = .ok (.iconst 3, 1) := zo_6 (zd_b zq_code_16 18 rfl rfl rfl)
theorem d_Lw_law_531 : decode code 531 = .ok (.iadd, 1) := zo_96 (zd_b zq_code_16 19 rfl rfl rfl)
theorem d_Lw_law_532 : decode code 532 = .ok (.iaload, 1) := zo_46 (zd_b zq_code_16 20 rfl rfl rfl)
theorem d_Lw_law_533 : decode code 533 = .ok (.aload_n 3, 1) := zo_45 (zd_b zq_code_16 21 rfl rfl rfl)
theorem d_Lw_law_534 : decode code 534 = .ok (.invokestatic 206, 3) := zo_184 (d := 0) (e := 206) (zd_b zq_code_16 22 rfl rfl rfl) (zd_b zq_code_16 23 rfl rfl rfl) (zd_b zq_code_16 24 rfl rfl rfl)
theorem ok_Lw_law_Lw_frozenIn : z_okX M_Lw_law M_Lw_frozenIn 5 := ⟨z_mj4 (i := 87) rfl (by decide +kernel), by decide, ⟨by decide +kernel, by decide +kernel, by decide +kernel⟩, ⟨by decide, by decide⟩, z_mj1 (i := 0) rfl (by decide +kernel), rfl⟩
theorem ln_Lw_206 : Cond.methodLink "IronpourLaw" 206 M_Lw_frozenIn.1 ∈ z_gw := z_mj4 (i := 85) rfl (by decide +kernel)
theorem w_st_Lw_frozenIn : Cond.static M_Lw_frozenIn.1 ∈ z_gw := z_mj4 (i := 86) rfl (by decide +kernel)
theorem d_Lw_law_537 : decode code 537 = .ok (.istore 6, 2) := zo_54 (d := 6) (zd_b zq_code_16 25 rfl rfl rfl) (zd_b zq_code_16 26 rfl rfl rfl)
theorem d_Lw_law_539 : decode code 539 = .ok (.aload_n 2, 1) := zo_44 (zd_b zq_code_16 27 rfl rfl rfl)
theorem d_Lw_law_540 : decode code 540 = .ok (.aload_n 0, 1) := zo_42 (zd_b zq_code_16 28 rfl rfl rfl)
theorem d_Lw_law_541 : decode code 541 = .ok (.iload 5, 2) := zo_21 (d := 5) (zd_b zq_code_16 29 rfl rfl rfl) (zd_b zq_code_16 30 rfl rfl rfl)
theorem d_Lw_law_543 : decode code 543 = .ok (.iconst 1, 1) := zo_4 (zd_b zq_code_16 31 rfl rfl rfl)
theorem d_Lw_law_544 : decode code 544 = .ok (.iadd, 1) := zo_96 (zd_b zq_code_17 0 rfl rfl rfl)
theorem d_Lw_law_545 : decode code 545 = .ok (.iaload, 1) := zo_46 (zd_b zq_code_17 1 rfl rfl rfl)
theorem d_Lw_law_546 : decode code 546 = .ok (.aload_n 0, 1) := zo_42 (zd_b zq_code_17 2 rfl rfl rfl)
theorem d_Lw_law_547 : decode code 547 = .ok (.iload 5, 2) := zo_21 (d := 5) (zd_b zq_code_17 3 rfl rfl rfl) (zd_b zq_code_17 4 rfl rfl rfl)
theorem d_Lw_law_549 : decode code 549 = .ok (.iconst 2, 1) := zo_5 (zd_b zq_code_17 5 rfl rfl rfl)
theorem d_Lw_law_550 : decode code 550 = .ok (.iadd, 1) := zo_96 (zd_b zq_code_17 6 rfl rfl rfl)
theorem d_Lw_law_551 : decode code 551 = .ok (.iaload, 1) := zo_46 (zd_b zq_code_17 7 rfl rfl rfl)
theorem d_Lw_law_552 : decode code 552 = .ok (.aload_n 0, 1) := zo_42 (zd_b zq_code_17 8 rfl rfl rfl)
theorem d_Lw_law_553 : decode code 553 = .ok (.iload 5, 2) := zo_21 (d := 5) (zd_b zq_code_17 9 rfl rfl rfl) (zd_b zq_code_17 10 rfl rfl rfl)
theorem d_Lw_law_555 : decode code 555 = .ok (.iconst 3, 1) := zo_6 (zd_b zq_code_17 11 rfl rfl rfl)
theorem d_Lw_law_556 : decode code 556 = .ok (.iadd, 1) := zo_96 (zd_b zq_code_17 12 rfl rfl rfl)
theorem d_Lw_law_557 : decode code 557 = .ok (.iaload, 1) := zo_46 (zd_b zq_code_17 13 rfl rfl rfl)
theorem d_Lw_law_558 : decode code 558 = .ok (.invokevirtual 209, 3) := zo_182 (d := 0) (e := 209) (zd_b zq_code_17 14 rfl rfl rfl) (zd_b zq_code_17 15 rfl rfl rfl) (zd_b zq_code_17 16 rfl rfl rfl)
theorem ok_Lw_law_Mm_frozenIn : z_ok M_Lw_law M_Mm_frozenIn 3 := ⟨z_mj8 (i := 33) rfl (by decide +kernel), rfl, ⟨by decide +kernel, by decide +kernel, by decide +kernel⟩, ⟨by decide, by decide⟩, z_mj1 (i := 14) rfl (by decide +kernel), rfl⟩
theorem ln_Lw_209 : Cond.methodLink "IronpourLaw" 209 M_Mm_frozenIn.1 ∈ z_gw := z_mj8 (i := 30) rfl (by decide +kernel)
theorem w_im_Mm_frozenIn : Cond.instanceMethod M_Mm_frozenIn.1 ∈ z_gw := z_mj8 (i := 31) rfl (by decide +kernel)
theorem w_se_Mm_frozenIn : Cond.selects M_Mm_frozenIn.1.cls M_Mm_frozenIn.1 M_Mm_frozenIn.1 ∈ z_gw := z_mj8 (i := 32) rfl (by decide +kernel)
theorem d_Lw_law_561 : decode code 561 = .ok (.istore 7, 2) := zo_54 (d := 7) (zd_b zq_code_17 17 rfl rfl rfl) (zd_b zq_code_17 18 rfl rfl rfl)
theorem d_Lw_law_563 : decode code 563 = .ok (.goto 1245, 3) := zo_167 (d := 4) (e := 221) (zd_b zq_code_17 19 rfl rfl rfl) (zd_b zq_code_17 20 rfl rfl rfl) (zd_b zq_code_17 21 rfl rfl rfl) (by decide +kernel)
set_option maxHeartbeats 4000000 in
set_option maxRecDepth 100000 in
theorem LC_frozenIn {g : zG} {ad : Nat → Nat} {t : zTT} {u : zNN} {w : zW} {j : Nat} (hI : IVm g ad t u w) (hR : REL t u.1 (48 * j)) {r : Nat} (hJ : 7 * j + 7 ≤ g.2.2 41) (hL : g.2.2 41 ≤ 3584) (ih : LWI g ad j r) : DW g M_Lw_law lwQ w 514 [(5, .int (nI (7 * j))), (4, .ref (ad 70)), (3, .ref (ad 69)), (2, .ref (ad 52)), (1, .ref (ad 0)), (0, .ref (g.2.2 40))] [] (100 * (r + 1)) (1000 * (r + 1)) := by
  refine y_base (cs := []) (z_I.nil w) ?_
  refine y_aload_n d_Lw_law_514 rfl 4 rfl ?_
  refine y_aload_n d_Lw_law_515 rfl 5 rfl ?_
  refine y_iload d_Lw_law_516 0 rfl ?_
  refine y_iconst d_Lw_law_518 (v := 1) (by decide) ?_
  refine y_iadd d_Lw_law_519 (v := nI ((7 * j) + 1)) (nI_add _ _) ?_
  refine y_sld (v := zs g (7 * j + 1)) d_Lw_law_520 (vp_in_nI (by omega) (by omega)) (by rw [nI_clamp (by omega)]; rfl) ?_
  refine y_aload_n d_Lw_law_521 rfl 5 rfl ?_
  refine y_iload d_Lw_law_522 0 rfl ?_
  refine y_iconst d_Lw_law_524 (v := 2) (by decide) ?_
  refine y_iadd d_Lw_law_525 (v := nI ((7 * j) + 2)) (nI_add _ _) ?_
  refine y_sld (v := zs g (7 * j + 2)) d_Lw_law_526 (vp_in_nI (by omega) (by omega)) (by rw [nI_clamp (by omega)]; rfl) ?_
  refine y_aload_n d_Lw_law_527 rfl 5 rfl ?_
  refine y_iload d_Lw_law_528 0 rfl ?_
  refine y_iconst d_Lw_law_530 (v := 3) (by decide) ?_
  refine y_iadd d_Lw_law_531 (v := nI ((7 * j) + 3)) (nI_add _ _) ?_
  refine y_sld (v := zs g (7 * j + 3)) d_Lw_law_532 (vp_in_nI (by omega) (by omega)) (by rw [nI_clamp (by omega)]; rfl) ?_
  refine y_aload_n d_Lw_law_533 rfl 2 rfl ?_
  refine yw_callSX (As := [.ref (ad 0), .int (zs g (7 * j + 1)), .int (zs g (7 * j + 2)), .int (zs g (7 * j + 3)), .ref (ad 69)]) (rest := []) ln_Lw_206 w_st_Lw_frozenIn ok_Lw_law_Lw_frozenIn d_Lw_law_534 (fun wA hA => W_frozenIn (IVm.nil hA hI) _ _ _) rfl rfl (Nat.le_of_ble_eq_true rfl) (by omega) (by omega) (fun wA534 hA534 E wB534 hx => ?_) (fun wA534 hA534 v wB534 hx => ?_)
  · obtain ⟨⟨v9, e1⟩, -⟩ := hx
    cases e1
  · obtain ⟨⟨v9, e1⟩, uC, huC, hI2⟩ := hx
    cases e1
    refine yw_st (st2 := [.int v9]) rfl ?_
    have hI := hI2
    refine y_base (cs := []) (z_I.nil _) ?_
    refine y_istore (lv' := [(6, .int v9), (5, .int (nI (7 * j))), (4, .ref (ad 70)), (3, .ref (ad 69)), (2, .ref (ad 52)), (1, .ref (ad 0)), (0, .ref (g.2.2 40))]) d_Lw_law_537 (by decide) rfl ?_
    refine y_aload_n d_Lw_law_539 rfl 4 rfl ?_
    refine y_aload_n d_Lw_law_540 rfl 6 rfl ?_
    refine y_iload d_Lw_law_541 1 rfl ?_
    refine y_iconst d_Lw_law_543 (v := 1) (by decide) ?_
    refine y_iadd d_Lw_law_544 (v := nI ((7 * j) + 1)) (nI_add _ _) ?_
    refine y_sld (v := zs g (7 * j + 1)) d_Lw_law_545 (vp_in_nI (by omega) (by omega)) (by rw [nI_clamp (by omega)]; rfl) ?_
    refine y_aload_n d_Lw_law_546 rfl 6 rfl ?_
    refine y_iload d_Lw_law_547 1 rfl ?_
    refine y_iconst d_Lw_law_549 (v := 2) (by decide) ?_
    refine y_iadd d_Lw_law_550 (v := nI ((7 * j) + 2)) (nI_add _ _) ?_
    refine y_sld (v := zs g (7 * j + 2)) d_Lw_law_551 (vp_in_nI (by omega) (by omega)) (by rw [nI_clamp (by omega)]; rfl) ?_
    refine y_aload_n d_Lw_law_552 rfl 6 rfl ?_
    refine y_iload d_Lw_law_553 1 rfl ?_
    refine y_iconst d_Lw_law_555 (v := 3) (by decide) ?_
    refine y_iadd d_Lw_law_556 (v := nI ((7 * j) + 3)) (nI_add _ _) ?_
    refine y_sld (v := zs g (7 * j + 3)) d_Lw_law_557 (vp_in_nI (by omega) (by omega)) (by rw [nI_clamp (by omega)]; rfl) ?_
    refine yw_callVL (As := [.int (zs g (7 * j + 1)), .int (zs g (7 * j + 2)), .int (zs g (7 * j + 3))]) (rest := []) (ci := 12) rfl (fun wA hA => (IVm.nil hA hI).rm) ln_Lw_209 w_im_Mm_frozenIn w_se_Mm_frozenIn ok_Lw_law_Mm_frozenIn d_Lw_law_558 (fun wA hA => K_Mm_frozenIn (IVm.nil hA hI) _ _ _) rfl rfl (Nat.le_of_ble_eq_true rfl) (by omega) (by omega) (fun wA558 hA558 E wB558 hx => ?_) (fun wA558 hA558 v wB558 hx => ?_)
    · obtain ⟨⟨v8, e1⟩, -⟩ := hx
      cases e1
    · obtain ⟨⟨v8, e1⟩, uM, huM, hI2⟩ := hx
      cases e1
      refine yw_st (st2 := [.int v8]) rfl ?_
      have hI := hI2
      refine y_base (cs := []) (z_I.nil _) ?_
      refine y_istore (lv' := [(7, .int v8), (6, .int v9), (5, .int (nI (7 * j))), (4, .ref (ad 70)), (3, .ref (ad 69)), (2, .ref (ad 52)), (1, .ref (ad 0)), (0, .ref (g.2.2 40))]) d_Lw_law_561 (by decide) rfl ?_
      refine y_goto (tgt := 1808) d_Lw_law_563 (by decide) ?_
      refine y_lv (lv' := [(5, .int (nI (7 * j))), (4, .ref (ad 70)), (3, .ref (ad 69)), (2, .ref (ad 52)), (1, .ref (ad 0)), (0, .ref (g.2.2 40))]) [2, 3, 4, 5, 6, 7] rfl ?_
      refine y_end (fun wC hC => ?_)
      exact LC_next (IVm.nil hC hI) ((hR.n (huM.trans huC)).up (by omega)) hJ hL ih (by omega) (by omega)
theorem d_Lw_law_566 : decode code 566 = .ok (.aload_n 1, 1) := zo_43 (zd_b zq_code_17 22 rfl rfl rfl)
theorem d_Lw_law_567 : decode code 567 = .ok (.aload_n 0, 1) := zo_42 (zd_b zq_code_17 23 rfl rfl rfl)
theorem d_Lw_law_568 : decode code 568 = .ok (.iload 5, 2) := zo_21 (d := 5) (zd_b zq_code_17 24 rfl rfl rfl) (zd_b zq_code_17 25 rfl rfl rfl)
theorem d_Lw_law_570 : decode code 570 = .ok (.iconst 1, 1) := zo_4 (zd_b zq_code_17 26 rfl rfl rfl)
theorem d_Lw_law_571 : decode code 571 = .ok (.iadd, 1) := zo_96 (zd_b zq_code_17 27 rfl rfl rfl)
theorem d_Lw_law_572 : decode code 572 = .ok (.iaload, 1) := zo_46 (zd_b zq_code_17 28 rfl rfl rfl)
theorem d_Lw_law_573 : decode code 573 = .ok (.aload_n 0, 1) := zo_42 (zd_b zq_code_17 29 rfl rfl rfl)
theorem d_Lw_law_574 : decode code 574 = .ok (.iload 5, 2) := zo_21 (d := 5) (zd_b zq_code_17 30 rfl rfl rfl) (zd_b zq_code_17 31 rfl rfl rfl)
theorem d_Lw_law_576 : decode code 576 = .ok (.iconst 2, 1) := zo_5 (zd_b zq_code_18 0 rfl rfl rfl)
theorem d_Lw_law_577 : decode code 577 = .ok (.iadd, 1) := zo_96 (zd_b zq_code_18 1 rfl rfl rfl)
theorem d_Lw_law_578 : decode code 578 = .ok (.iaload, 1) := zo_46 (zd_b zq_code_18 2 rfl rfl rfl)
theorem d_Lw_law_579 : decode code 579 = .ok (.aload_n 0, 1) := zo_42 (zd_b zq_code_18 3 rfl rfl rfl)
theorem d_Lw_law_580 : decode code 580 = .ok (.iload 5, 2) := zo_21 (d := 5) (zd_b zq_code_18 4 rfl rfl rfl) (zd_b zq_code_18 5 rfl rfl rfl)
theorem d_Lw_law_582 : decode code 582 = .ok (.iconst 3, 1) := zo_6 (zd_b zq_code_18 6 rfl rfl rfl)
theorem d_Lw_law_583 : decode code 583 = .ok (.iadd, 1) := zo_96 (zd_b zq_code_18 7 rfl rfl rfl)
theorem d_Lw_law_584 : decode code 584 = .ok (.iaload, 1) := zo_46 (zd_b zq_code_18 8 rfl rfl rfl)
theorem d_Lw_law_585 : decode code 585 = .ok (.aload_n 0, 1) := zo_42 (zd_b zq_code_18 9 rfl rfl rfl)
theorem d_Lw_law_586 : decode code 586 = .ok (.iload 5, 2) := zo_21 (d := 5) (zd_b zq_code_18 10 rfl rfl rfl) (zd_b zq_code_18 11 rfl rfl rfl)
theorem d_Lw_law_588 : decode code 588 = .ok (.iconst 4, 1) := zo_7 (zd_b zq_code_18 12 rfl rfl rfl)
theorem d_Lw_law_589 : decode code 589 = .ok (.iadd, 1) := zo_96 (zd_b zq_code_18 13 rfl rfl rfl)
theorem d_Lw_law_590 : decode code 590 = .ok (.iaload, 1) := zo_46 (zd_b zq_code_18 14 rfl rfl rfl)
theorem d_Lw_law_591 : decode code 591 = .ok (.aload_n 3, 1) := zo_45 (zd_b zq_code_18 15 rfl rfl rfl)
theorem d_Lw_law_592 : decode code 592 = .ok (.invokestatic 210, 3) := zo_184 (d := 0) (e := 210) (zd_b zq_code_18 16 rfl rfl rfl) (zd_b zq_code_18 17 rfl rfl rfl) (zd_b zq_code_18 18 rfl rfl rfl)
theorem ok_Lw_law_Lw_heatAt : z_okX M_Lw_law M_Lw_heatAt 6 := ⟨z_mj4 (i := 101) rfl (by decide +kernel), by decide, ⟨by decide +kernel, by decide +kernel, by decide +kernel⟩, ⟨by decide, by decide⟩, z_mj1 (i := 0) rfl (by decide +kernel), rfl⟩
theorem ln_Lw_210 : Cond.methodLink "IronpourLaw" 210 M_Lw_heatAt.1 ∈ z_gw := z_mj4 (i := 99) rfl (by decide +kernel)
theorem w_st_Lw_heatAt : Cond.static M_Lw_heatAt.1 ∈ z_gw := z_mj4 (i := 100) rfl (by decide +kernel)
theorem d_Lw_law_595 : decode code 595 = .ok (.istore 6, 2) := zo_54 (d := 6) (zd_b zq_code_18 19 rfl rfl rfl) (zd_b zq_code_18 20 rfl rfl rfl)
theorem d_Lw_law_597 : decode code 597 = .ok (.aload_n 2, 1) := zo_44 (zd_b zq_code_18 21 rfl rfl rfl)
theorem d_Lw_law_598 : decode code 598 = .ok (.aload_n 0, 1) := zo_42 (zd_b zq_code_18 22 rfl rfl rfl)
theorem d_Lw_law_599 : decode code 599 = .ok (.iload 5, 2) := zo_21 (d := 5) (zd_b zq_code_18 23 rfl rfl rfl) (zd_b zq_code_18 24 rfl rfl rfl)
theorem d_Lw_law_601 : decode code 601 = .ok (.iconst 1, 1) := zo_4 (zd_b zq_code_18 25 rfl rfl rfl)
theorem d_Lw_law_602 : decode code 602 = .ok (.iadd, 1) := zo_96 (zd_b zq_code_18 26 rfl rfl rfl)
theorem d_Lw_law_603 : decode code 603 = .ok (.iaload, 1) := zo_46 (zd_b zq_code_18 27 rfl rfl rfl)
theorem d_Lw_law_604 : decode code 604 = .ok (.aload_n 0, 1) := zo_42 (zd_b zq_code_18 28 rfl rfl rfl)
theorem d_Lw_law_605 : decode code 605 = .ok (.iload 5, 2) := zo_21 (d := 5) (zd_b zq_code_18 29 rfl rfl rfl) (zd_b zq_code_18 30 rfl rfl rfl)
theorem d_Lw_law_607 : decode code 607 = .ok (.iconst 2, 1) := zo_5 (zd_b zq_code_18 31 rfl rfl rfl)
theorem d_Lw_law_608 : decode code 608 = .ok (.iadd, 1) := zo_96 (zd_b zq_code_19 0 rfl rfl rfl)
theorem d_Lw_law_609 : decode code 609 = .ok (.iaload, 1) := zo_46 (zd_b zq_code_19 1 rfl rfl rfl)
theorem d_Lw_law_610 : decode code 610 = .ok (.aload_n 0, 1) := zo_42 (zd_b zq_code_19 2 rfl rfl rfl)
theorem d_Lw_law_611 : decode code 611 = .ok (.iload 5, 2) := zo_21 (d := 5) (zd_b zq_code_19 3 rfl rfl rfl) (zd_b zq_code_19 4 rfl rfl rfl)
theorem d_Lw_law_613 : decode code 613 = .ok (.iconst 3, 1) := zo_6 (zd_b zq_code_19 5 rfl rfl rfl)
theorem d_Lw_law_614 : decode code 614 = .ok (.iadd, 1) := zo_96 (zd_b zq_code_19 6 rfl rfl rfl)
theorem d_Lw_law_615 : decode code 615 = .ok (.iaload, 1) := zo_46 (zd_b zq_code_19 7 rfl rfl rfl)
theorem d_Lw_law_616 : decode code 616 = .ok (.aload_n 0, 1) := zo_42 (zd_b zq_code_19 8 rfl rfl rfl)
theorem d_Lw_law_617 : decode code 617 = .ok (.iload 5, 2) := zo_21 (d := 5) (zd_b zq_code_19 9 rfl rfl rfl) (zd_b zq_code_19 10 rfl rfl rfl)
theorem d_Lw_law_619 : decode code 619 = .ok (.iconst 4, 1) := zo_7 (zd_b zq_code_19 11 rfl rfl rfl)
theorem d_Lw_law_620 : decode code 620 = .ok (.iadd, 1) := zo_96 (zd_b zq_code_19 12 rfl rfl rfl)
theorem d_Lw_law_621 : decode code 621 = .ok (.iaload, 1) := zo_46 (zd_b zq_code_19 13 rfl rfl rfl)
theorem d_Lw_law_622 : decode code 622 = .ok (.invokevirtual 213, 3) := zo_182 (d := 0) (e := 213) (zd_b zq_code_19 14 rfl rfl rfl) (zd_b zq_code_19 15 rfl rfl rfl) (zd_b zq_code_19 16 rfl rfl rfl)
theorem ok_Lw_law_Mm_heatAt : z_ok M_Lw_law M_Mm_heatAt 4 := ⟨z_mj8 (i := 60) rfl (by decide +kernel), rfl, ⟨by decide +kernel, by decide +kernel, by decide +kernel⟩, ⟨by decide, by decide⟩, z_mj1 (i := 14) rfl (by decide +kernel), rfl⟩
theorem ln_Lw_213 : Cond.methodLink "IronpourLaw" 213 M_Mm_heatAt.1 ∈ z_gw := z_mj8 (i := 57) rfl (by decide +kernel)
theorem w_im_Mm_heatAt : Cond.instanceMethod M_Mm_heatAt.1 ∈ z_gw := z_mj8 (i := 58) rfl (by decide +kernel)
theorem w_se_Mm_heatAt : Cond.selects M_Mm_heatAt.1.cls M_Mm_heatAt.1 M_Mm_heatAt.1 ∈ z_gw := z_mj8 (i := 59) rfl (by decide +kernel)
theorem d_Lw_law_625 : decode code 625 = .ok (.istore 7, 2) := zo_54 (d := 7) (zd_b zq_code_19 17 rfl rfl rfl) (zd_b zq_code_19 18 rfl rfl rfl)
theorem d_Lw_law_627 : decode code 627 = .ok (.goto 1181, 3) := zo_167 (d := 4) (e := 157) (zd_b zq_code_19 19 rfl rfl rfl) (zd_b zq_code_19 20 rfl rfl rfl) (zd_b zq_code_19 21 rfl rfl rfl) (by decide +kernel)
set_option maxHeartbeats 4000000 in
set_option maxRecDepth 100000 in
theorem LC_heatAt {g : zG} {ad : Nat → Nat} {t : zTT} {u : zNN} {w : zW} {j : Nat} (hI : IVm g ad t u w) (hR : REL t u.1 (48 * j)) {r : Nat} (hJ : 7 * j + 7 ≤ g.2.2 41) (hL : g.2.2 41 ≤ 3584) (ih : LWI g ad j r) : DW g M_Lw_law lwQ w 566 [(5, .int (nI (7 * j))), (4, .ref (ad 70)), (3, .ref (ad 69)), (2, .ref (ad 52)), (1, .ref (ad 0)), (0, .ref (g.2.2 40))] [] (100 * (r + 1)) (1000 * (r + 1)) := by
  refine y_base (cs := []) (z_I.nil w) ?_
  refine y_aload_n d_Lw_law_566 rfl 4 rfl ?_
  refine y_aload_n d_Lw_law_567 rfl 5 rfl ?_
  refine y_iload d_Lw_law_568 0 rfl ?_
  refine y_iconst d_Lw_law_570 (v := 1) (by decide) ?_
  refine y_iadd d_Lw_law_571 (v := nI ((7 * j) + 1)) (nI_add _ _) ?_
  refine y_sld (v := zs g (7 * j + 1)) d_Lw_law_572 (vp_in_nI (by omega) (by omega)) (by rw [nI_clamp (by omega)]; rfl) ?_
  refine y_aload_n d_Lw_law_573 rfl 5 rfl ?_
  refine y_iload d_Lw_law_574 0 rfl ?_
  refine y_iconst d_Lw_law_576 (v := 2) (by decide) ?_
  refine y_iadd d_Lw_law_577 (v := nI ((7 * j) + 2)) (nI_add _ _) ?_
  refine y_sld (v := zs g (7 * j + 2)) d_Lw_law_578 (vp_in_nI (by omega) (by omega)) (by rw [nI_clamp (by omega)]; rfl) ?_
  refine y_aload_n d_Lw_law_579 rfl 5 rfl ?_
  refine y_iload d_Lw_law_580 0 rfl ?_
  refine y_iconst d_Lw_law_582 (v := 3) (by decide) ?_
  refine y_iadd d_Lw_law_583 (v := nI ((7 * j) + 3)) (nI_add _ _) ?_
  refine y_sld (v := zs g (7 * j + 3)) d_Lw_law_584 (vp_in_nI (by omega) (by omega)) (by rw [nI_clamp (by omega)]; rfl) ?_
  refine y_aload_n d_Lw_law_585 rfl 5 rfl ?_
  refine y_iload d_Lw_law_586 0 rfl ?_
  refine y_iconst d_Lw_law_588 (v := 4) (by decide) ?_
  refine y_iadd d_Lw_law_589 (v := nI ((7 * j) + 4)) (nI_add _ _) ?_
  refine y_sld (v := zs g (7 * j + 4)) d_Lw_law_590 (vp_in_nI (by omega) (by omega)) (by rw [nI_clamp (by omega)]; rfl) ?_
  refine y_aload_n d_Lw_law_591 rfl 2 rfl ?_
  refine yw_callSX (As := [.ref (ad 0), .int (zs g (7 * j + 1)), .int (zs g (7 * j + 2)), .int (zs g (7 * j + 3)), .int (zs g (7 * j + 4)), .ref (ad 69)]) (rest := []) ln_Lw_210 w_st_Lw_heatAt ok_Lw_law_Lw_heatAt d_Lw_law_592 (fun wA hA => W_heatAt (IVm.nil hA hI) _ _ _ _) rfl rfl (Nat.le_of_ble_eq_true rfl) (by omega) (by omega) (fun wA592 hA592 E wB592 hx => ?_) (fun wA592 hA592 v wB592 hx => ?_)
  · obtain ⟨⟨v9, e1⟩, -⟩ := hx
    cases e1
  · obtain ⟨⟨v9, e1⟩, uC, huC, hI2⟩ := hx
    cases e1
    refine yw_st (st2 := [.int v9]) rfl ?_
    have hI := hI2
    refine y_base (cs := []) (z_I.nil _) ?_
    refine y_istore (lv' := [(6, .int v9), (5, .int (nI (7 * j))), (4, .ref (ad 70)), (3, .ref (ad 69)), (2, .ref (ad 52)), (1, .ref (ad 0)), (0, .ref (g.2.2 40))]) d_Lw_law_595 (by decide) rfl ?_
    refine y_aload_n d_Lw_law_597 rfl 4 rfl ?_
    refine y_aload_n d_Lw_law_598 rfl 6 rfl ?_
    refine y_iload d_Lw_law_599 1 rfl ?_
    refine y_iconst d_Lw_law_601 (v := 1) (by decide) ?_
    refine y_iadd d_Lw_law_602 (v := nI ((7 * j) + 1)) (nI_add _ _) ?_
    refine y_sld (v := zs g (7 * j + 1)) d_Lw_law_603 (vp_in_nI (by omega) (by omega)) (by rw [nI_clamp (by omega)]; rfl) ?_
    refine y_aload_n d_Lw_law_604 rfl 6 rfl ?_
    refine y_iload d_Lw_law_605 1 rfl ?_
    refine y_iconst d_Lw_law_607 (v := 2) (by decide) ?_
    refine y_iadd d_Lw_law_608 (v := nI ((7 * j) + 2)) (nI_add _ _) ?_
    refine y_sld (v := zs g (7 * j + 2)) d_Lw_law_609 (vp_in_nI (by omega) (by omega)) (by rw [nI_clamp (by omega)]; rfl) ?_
    refine y_aload_n d_Lw_law_610 rfl 6 rfl ?_
    refine y_iload d_Lw_law_611 1 rfl ?_
    refine y_iconst d_Lw_law_613 (v := 3) (by decide) ?_
    refine y_iadd d_Lw_law_614 (v := nI ((7 * j) + 3)) (nI_add _ _) ?_
    refine y_sld (v := zs g (7 * j + 3)) d_Lw_law_615 (vp_in_nI (by omega) (by omega)) (by rw [nI_clamp (by omega)]; rfl) ?_
    refine y_aload_n d_Lw_law_616 rfl 6 rfl ?_
    refine y_iload d_Lw_law_617 1 rfl ?_
    refine y_iconst d_Lw_law_619 (v := 4) (by decide) ?_
    refine y_iadd d_Lw_law_620 (v := nI ((7 * j) + 4)) (nI_add _ _) ?_
    refine y_sld (v := zs g (7 * j + 4)) d_Lw_law_621 (vp_in_nI (by omega) (by omega)) (by rw [nI_clamp (by omega)]; rfl) ?_
    refine yw_callVL (As := [.int (zs g (7 * j + 1)), .int (zs g (7 * j + 2)), .int (zs g (7 * j + 3)), .int (zs g (7 * j + 4))]) (rest := []) (ci := 12) rfl (fun wA hA => (IVm.nil hA hI).rm) ln_Lw_213 w_im_Mm_heatAt w_se_Mm_heatAt ok_Lw_law_Mm_heatAt d_Lw_law_622 (fun wA hA => K_Mm_heatAt (IVm.nil hA hI) _ _ _ _) rfl rfl (Nat.le_of_ble_eq_true rfl) (by omega) (by omega) (fun wA622 hA622 E wB622 hx => ?_) (fun wA622 hA622 v wB622 hx => ?_)
    · obtain ⟨⟨v8, e1⟩, -⟩ := hx
      cases e1
    · obtain ⟨⟨v8, e1⟩, uM, huM, hI2⟩ := hx
      cases e1
      refine yw_st (st2 := [.int v8]) rfl ?_
      have hI := hI2
      refine y_base (cs := []) (z_I.nil _) ?_
      refine y_istore (lv' := [(7, .int v8), (6, .int v9), (5, .int (nI (7 * j))), (4, .ref (ad 70)), (3, .ref (ad 69)), (2, .ref (ad 52)), (1, .ref (ad 0)), (0, .ref (g.2.2 40))]) d_Lw_law_625 (by decide) rfl ?_
      refine y_goto (tgt := 1808) d_Lw_law_627 (by decide) ?_
      refine y_lv (lv' := [(5, .int (nI (7 * j))), (4, .ref (ad 70)), (3, .ref (ad 69)), (2, .ref (ad 52)), (1, .ref (ad 0)), (0, .ref (g.2.2 40))]) [2, 3, 4, 5, 6, 7] rfl ?_
      refine y_end (fun wC hC => ?_)
      exact LC_next (IVm.nil hC hI) ((hR.n (huM.trans huC)).up (by omega)) hJ hL ih (by omega) (by omega)
theorem d_Lw_law_630 : decode code 630 = .ok (.aload_n 1, 1) := zo_43 (zd_b zq_code_19 22 rfl rfl rfl)
theorem d_Lw_law_631 : decode code 631 = .ok (.aload_n 0, 1) := zo_42 (zd_b zq_code_19 23 rfl rfl rfl)
theorem d_Lw_law_632 : decode code 632 = .ok (.iload 5, 2) := zo_21 (d := 5) (zd_b zq_code_19 24 rfl rfl rfl) (zd_b zq_code_19 25 rfl rfl rfl)
theorem d_Lw_law_634 : decode code 634 = .ok (.iconst 1, 1) := zo_4 (zd_b zq_code_19 26 rfl rfl rfl)
theorem d_Lw_law_635 : decode code 635 = .ok (.iadd, 1) := zo_96 (zd_b zq_code_19 27 rfl rfl rfl)
theorem d_Lw_law_636 : decode code 636 = .ok (.iaload, 1) := zo_46 (zd_b zq_code_19 28 rfl rfl rfl)
theorem d_Lw_law_637 : decode code 637 = .ok (.aload_n 0, 1) := zo_42 (zd_b zq_code_19 29 rfl rfl rfl)
theorem d_Lw_law_638 : decode code 638 = .ok (.iload 5, 2) := zo_21 (d := 5) (zd_b zq_code_19 30 rfl rfl rfl) (zd_b zq_code_19 31 rfl rfl rfl)
theorem d_Lw_law_640 : decode code 640 = .ok (.iconst 2, 1) := zo_5 (zd_b zq_code_20 0 rfl rfl rfl)
theorem d_Lw_law_641 : decode code 641 = .ok (.iadd, 1) := zo_96 (zd_b zq_code_20 1 rfl rfl rfl)
theorem d_Lw_law_642 : decode code 642 = .ok (.iaload, 1) := zo_46 (zd_b zq_code_20 2 rfl rfl rfl)
theorem d_Lw_law_643 : decode code 643 = .ok (.aload_n 0, 1) := zo_42 (zd_b zq_code_20 3 rfl rfl rfl)
theorem d_Lw_law_644 : decode code 644 = .ok (.iload 5, 2) := zo_21 (d := 5) (zd_b zq_code_20 4 rfl rfl rfl) (zd_b zq_code_20 5 rfl rfl rfl)
theorem d_Lw_law_646 : decode code 646 = .ok (.iconst 3, 1) := zo_6 (zd_b zq_code_20 6 rfl rfl rfl)
theorem d_Lw_law_647 : decode code 647 = .ok (.iadd, 1) := zo_96 (zd_b zq_code_20 7 rfl rfl rfl)
theorem d_Lw_law_648 : decode code 648 = .ok (.iaload, 1) := zo_46 (zd_b zq_code_20 8 rfl rfl rfl)
theorem d_Lw_law_649 : decode code 649 = .ok (.aload_n 3, 1) := zo_45 (zd_b zq_code_20 9 rfl rfl rfl)
theorem d_Lw_law_650 : decode code 650 = .ok (.invokestatic 214, 3) := zo_184 (d := 0) (e := 214) (zd_b zq_code_20 10 rfl rfl rfl) (zd_b zq_code_20 11 rfl rfl rfl) (zd_b zq_code_20 12 rfl rfl rfl)
theorem ok_Lw_law_Lw_isFed : z_okX M_Lw_law M_Lw_isFed 5 := ⟨z_mj4 (i := 113) rfl (by decide +kernel), by decide, ⟨by decide +kernel, by decide +kernel, by decide +kernel⟩, ⟨by decide, by decide⟩, z_mj1 (i := 0) rfl (by decide +kernel), rfl⟩
theorem ln_Lw_214 : Cond.methodLink "IronpourLaw" 214 M_Lw_isFed.1 ∈ z_gw := z_mj4 (i := 111) rfl (by decide +kernel)
theorem w_st_Lw_isFed : Cond.static M_Lw_isFed.1 ∈ z_gw := z_mj4 (i := 112) rfl (by decide +kernel)
theorem d_Lw_law_653 : decode code 653 = .ok (.istore 6, 2) := zo_54 (d := 6) (zd_b zq_code_20 13 rfl rfl rfl) (zd_b zq_code_20 14 rfl rfl rfl)
theorem d_Lw_law_655 : decode code 655 = .ok (.aload_n 2, 1) := zo_44 (zd_b zq_code_20 15 rfl rfl rfl)
theorem d_Lw_law_656 : decode code 656 = .ok (.aload_n 0, 1) := zo_42 (zd_b zq_code_20 16 rfl rfl rfl)
theorem d_Lw_law_657 : decode code 657 = .ok (.iload 5, 2) := zo_21 (d := 5) (zd_b zq_code_20 17 rfl rfl rfl) (zd_b zq_code_20 18 rfl rfl rfl)
theorem d_Lw_law_659 : decode code 659 = .ok (.iconst 1, 1) := zo_4 (zd_b zq_code_20 19 rfl rfl rfl)
theorem d_Lw_law_660 : decode code 660 = .ok (.iadd, 1) := zo_96 (zd_b zq_code_20 20 rfl rfl rfl)
theorem d_Lw_law_661 : decode code 661 = .ok (.iaload, 1) := zo_46 (zd_b zq_code_20 21 rfl rfl rfl)
theorem d_Lw_law_662 : decode code 662 = .ok (.aload_n 0, 1) := zo_42 (zd_b zq_code_20 22 rfl rfl rfl)
theorem d_Lw_law_663 : decode code 663 = .ok (.iload 5, 2) := zo_21 (d := 5) (zd_b zq_code_20 23 rfl rfl rfl) (zd_b zq_code_20 24 rfl rfl rfl)
theorem d_Lw_law_665 : decode code 665 = .ok (.iconst 2, 1) := zo_5 (zd_b zq_code_20 25 rfl rfl rfl)
theorem d_Lw_law_666 : decode code 666 = .ok (.iadd, 1) := zo_96 (zd_b zq_code_20 26 rfl rfl rfl)
theorem d_Lw_law_667 : decode code 667 = .ok (.iaload, 1) := zo_46 (zd_b zq_code_20 27 rfl rfl rfl)
theorem d_Lw_law_668 : decode code 668 = .ok (.aload_n 0, 1) := zo_42 (zd_b zq_code_20 28 rfl rfl rfl)
theorem d_Lw_law_669 : decode code 669 = .ok (.iload 5, 2) := zo_21 (d := 5) (zd_b zq_code_20 29 rfl rfl rfl) (zd_b zq_code_20 30 rfl rfl rfl)
theorem d_Lw_law_671 : decode code 671 = .ok (.iconst 3, 1) := zo_6 (zd_b zq_code_20 31 rfl rfl rfl)
theorem d_Lw_law_672 : decode code 672 = .ok (.iadd, 1) := zo_96 (zd_b zq_code_21 0 rfl rfl rfl)
theorem d_Lw_law_673 : decode code 673 = .ok (.iaload, 1) := zo_46 (zd_b zq_code_21 1 rfl rfl rfl)
theorem d_Lw_law_674 : decode code 674 = .ok (.invokevirtual 216, 3) := zo_182 (d := 0) (e := 216) (zd_b zq_code_21 2 rfl rfl rfl) (zd_b zq_code_21 3 rfl rfl rfl) (zd_b zq_code_21 4 rfl rfl rfl)
theorem ok_Lw_law_Mm_isFed : z_ok M_Lw_law M_Mm_isFed 3 := ⟨z_mj8 (i := 64) rfl (by decide +kernel), rfl, ⟨by decide +kernel, by decide +kernel, by decide +kernel⟩, ⟨by decide, by decide⟩, z_mj1 (i := 14) rfl (by decide +kernel), rfl⟩
theorem ln_Lw_216 : Cond.methodLink "IronpourLaw" 216 M_Mm_isFed.1 ∈ z_gw := z_mj8 (i := 61) rfl (by decide +kernel)
theorem w_im_Mm_isFed : Cond.instanceMethod M_Mm_isFed.1 ∈ z_gw := z_mj8 (i := 62) rfl (by decide +kernel)
theorem w_se_Mm_isFed : Cond.selects M_Mm_isFed.1.cls M_Mm_isFed.1 M_Mm_isFed.1 ∈ z_gw := z_mj8 (i := 63) rfl (by decide +kernel)
theorem d_Lw_law_677 : decode code 677 = .ok (.istore 7, 2) := zo_54 (d := 7) (zd_b zq_code_21 5 rfl rfl rfl) (zd_b zq_code_21 6 rfl rfl rfl)
theorem d_Lw_law_679 : decode code 679 = .ok (.goto 1129, 3) := zo_167 (d := 4) (e := 105) (zd_b zq_code_21 7 rfl rfl rfl) (zd_b zq_code_21 8 rfl rfl rfl) (zd_b zq_code_21 9 rfl rfl rfl) (by decide +kernel)
set_option maxHeartbeats 4000000 in
set_option maxRecDepth 100000 in
theorem LC_isFed {g : zG} {ad : Nat → Nat} {t : zTT} {u : zNN} {w : zW} {j : Nat} (hI : IVm g ad t u w) (hR : REL t u.1 (48 * j)) {r : Nat} (hJ : 7 * j + 7 ≤ g.2.2 41) (hL : g.2.2 41 ≤ 3584) (ih : LWI g ad j r) : DW g M_Lw_law lwQ w 630 [(5, .int (nI (7 * j))), (4, .ref (ad 70)), (3, .ref (ad 69)), (2, .ref (ad 52)), (1, .ref (ad 0)), (0, .ref (g.2.2 40))] [] (100 * (r + 1)) (1000 * (r + 1)) := by
  refine y_base (cs := []) (z_I.nil w) ?_
  refine y_aload_n d_Lw_law_630 rfl 4 rfl ?_
  refine y_aload_n d_Lw_law_631 rfl 5 rfl ?_
  refine y_iload d_Lw_law_632 0 rfl ?_
  refine y_iconst d_Lw_law_634 (v := 1) (by decide) ?_
  refine y_iadd d_Lw_law_635 (v := nI ((7 * j) + 1)) (nI_add _ _) ?_
  refine y_sld (v := zs g (7 * j + 1)) d_Lw_law_636 (vp_in_nI (by omega) (by omega)) (by rw [nI_clamp (by omega)]; rfl) ?_
  refine y_aload_n d_Lw_law_637 rfl 5 rfl ?_
  refine y_iload d_Lw_law_638 0 rfl ?_
  refine y_iconst d_Lw_law_640 (v := 2) (by decide) ?_
  refine y_iadd d_Lw_law_641 (v := nI ((7 * j) + 2)) (nI_add _ _) ?_
  refine y_sld (v := zs g (7 * j + 2)) d_Lw_law_642 (vp_in_nI (by omega) (by omega)) (by rw [nI_clamp (by omega)]; rfl) ?_
  refine y_aload_n d_Lw_law_643 rfl 5 rfl ?_
  refine y_iload d_Lw_law_644 0 rfl ?_
  refine y_iconst d_Lw_law_646 (v := 3) (by decide) ?_
  refine y_iadd d_Lw_law_647 (v := nI ((7 * j) + 3)) (nI_add _ _) ?_
  refine y_sld (v := zs g (7 * j + 3)) d_Lw_law_648 (vp_in_nI (by omega) (by omega)) (by rw [nI_clamp (by omega)]; rfl) ?_
  refine y_aload_n d_Lw_law_649 rfl 2 rfl ?_
  refine yw_callSX (As := [.ref (ad 0), .int (zs g (7 * j + 1)), .int (zs g (7 * j + 2)), .int (zs g (7 * j + 3)), .ref (ad 69)]) (rest := []) ln_Lw_214 w_st_Lw_isFed ok_Lw_law_Lw_isFed d_Lw_law_650 (fun wA hA => W_isFed (IVm.nil hA hI) _ _ _) rfl rfl (Nat.le_of_ble_eq_true rfl) (by omega) (by omega) (fun wA650 hA650 E wB650 hx => ?_) (fun wA650 hA650 v wB650 hx => ?_)
  · obtain ⟨⟨v9, e1⟩, -⟩ := hx
    cases e1
  · obtain ⟨⟨v9, e1⟩, uC, huC, hI2⟩ := hx
    cases e1
    refine yw_st (st2 := [.int v9]) rfl ?_
    have hI := hI2
    refine y_base (cs := []) (z_I.nil _) ?_
    refine y_istore (lv' := [(6, .int v9), (5, .int (nI (7 * j))), (4, .ref (ad 70)), (3, .ref (ad 69)), (2, .ref (ad 52)), (1, .ref (ad 0)), (0, .ref (g.2.2 40))]) d_Lw_law_653 (by decide) rfl ?_
    refine y_aload_n d_Lw_law_655 rfl 4 rfl ?_
    refine y_aload_n d_Lw_law_656 rfl 6 rfl ?_
    refine y_iload d_Lw_law_657 1 rfl ?_
    refine y_iconst d_Lw_law_659 (v := 1) (by decide) ?_
    refine y_iadd d_Lw_law_660 (v := nI ((7 * j) + 1)) (nI_add _ _) ?_
    refine y_sld (v := zs g (7 * j + 1)) d_Lw_law_661 (vp_in_nI (by omega) (by omega)) (by rw [nI_clamp (by omega)]; rfl) ?_
    refine y_aload_n d_Lw_law_662 rfl 6 rfl ?_
    refine y_iload d_Lw_law_663 1 rfl ?_
    refine y_iconst d_Lw_law_665 (v := 2) (by decide) ?_
    refine y_iadd d_Lw_law_666 (v := nI ((7 * j) + 2)) (nI_add _ _) ?_
    refine y_sld (v := zs g (7 * j + 2)) d_Lw_law_667 (vp_in_nI (by omega) (by omega)) (by rw [nI_clamp (by omega)]; rfl) ?_
    refine y_aload_n d_Lw_law_668 rfl 6 rfl ?_
    refine y_iload d_Lw_law_669 1 rfl ?_
    refine y_iconst d_Lw_law_671 (v := 3) (by decide) ?_
    refine y_iadd d_Lw_law_672 (v := nI ((7 * j) + 3)) (nI_add _ _) ?_
    refine y_sld (v := zs g (7 * j + 3)) d_Lw_law_673 (vp_in_nI (by omega) (by omega)) (by rw [nI_clamp (by omega)]; rfl) ?_
    refine yw_callVL (As := [.int (zs g (7 * j + 1)), .int (zs g (7 * j + 2)), .int (zs g (7 * j + 3))]) (rest := []) (ci := 12) rfl (fun wA hA => (IVm.nil hA hI).rm) ln_Lw_216 w_im_Mm_isFed w_se_Mm_isFed ok_Lw_law_Mm_isFed d_Lw_law_674 (fun wA hA => K_Mm_isFed (IVm.nil hA hI) _ _ _) rfl rfl (Nat.le_of_ble_eq_true rfl) (by omega) (by omega) (fun wA674 hA674 E wB674 hx => ?_) (fun wA674 hA674 v wB674 hx => ?_)
    · obtain ⟨⟨v8, e1⟩, -⟩ := hx
      cases e1
    · obtain ⟨⟨v8, e1⟩, uM, huM, hI2⟩ := hx
      cases e1
      refine yw_st (st2 := [.int v8]) rfl ?_
      have hI := hI2
      refine y_base (cs := []) (z_I.nil _) ?_
      refine y_istore (lv' := [(7, .int v8), (6, .int v9), (5, .int (nI (7 * j))), (4, .ref (ad 70)), (3, .ref (ad 69)), (2, .ref (ad 52)), (1, .ref (ad 0)), (0, .ref (g.2.2 40))]) d_Lw_law_677 (by decide) rfl ?_
      refine y_goto (tgt := 1808) d_Lw_law_679 (by decide) ?_
      refine y_lv (lv' := [(5, .int (nI (7 * j))), (4, .ref (ad 70)), (3, .ref (ad 69)), (2, .ref (ad 52)), (1, .ref (ad 0)), (0, .ref (g.2.2 40))]) [2, 3, 4, 5, 6, 7] rfl ?_
      refine y_end (fun wC hC => ?_)
      exact LC_next (IVm.nil hC hI) ((hR.n (huM.trans huC)).up (by omega)) hJ hL ih (by omega) (by omega)
theorem d_Lw_law_682 : decode code 682 = .ok (.aload_n 1, 1) := zo_43 (zd_b zq_code_21 10 rfl rfl rfl)
theorem d_Lw_law_683 : decode code 683 = .ok (.aload_n 0, 1) := zo_42 (zd_b zq_code_21 11 rfl rfl rfl)
theorem d_Lw_law_684 : decode code 684 = .ok (.iload 5, 2) := zo_21 (d := 5) (zd_b zq_code_21 12 rfl rfl rfl) (zd_b zq_code_21 13 rfl rfl rfl)
theorem d_Lw_law_686 : decode code 686 = .ok (.iconst 1, 1) := zo_4 (zd_b zq_code_21 14 rfl rfl rfl)
theorem d_Lw_law_687 : decode code 687 = .ok (.iadd, 1) := zo_96 (zd_b zq_code_21 15 rfl rfl rfl)
theorem d_Lw_law_688 : decode code 688 = .ok (.iaload, 1) := zo_46 (zd_b zq_code_21 16 rfl rfl rfl)
theorem d_Lw_law_689 : decode code 689 = .ok (.aload_n 3, 1) := zo_45 (zd_b zq_code_21 17 rfl rfl rfl)
theorem d_Lw_law_690 : decode code 690 = .ok (.invokestatic 217, 3) := zo_184 (d := 0) (e := 217) (zd_b zq_code_21 18 rfl rfl rfl) (zd_b zq_code_21 19 rfl rfl rfl) (zd_b zq_code_21 20 rfl rfl rfl)
theorem ok_Lw_law_Lw_shrunk : z_okX M_Lw_law M_Lw_shrunk 3 := ⟨z_mj4 (i := 120) rfl (by decide +kernel), by decide, ⟨by decide +kernel, by decide +kernel, by decide +kernel⟩, ⟨by decide, by decide⟩, z_mj1 (i := 0) rfl (by decide +kernel), rfl⟩
theorem ln_Lw_217 : Cond.methodLink "IronpourLaw" 217 M_Lw_shrunk.1 ∈ z_gw := z_mj4 (i := 118) rfl (by decide +kernel)
theorem w_st_Lw_shrunk : Cond.static M_Lw_shrunk.1 ∈ z_gw := z_mj4 (i := 119) rfl (by decide +kernel)
theorem d_Lw_law_693 : decode code 693 = .ok (.istore 6, 2) := zo_54 (d := 6) (zd_b zq_code_21 21 rfl rfl rfl) (zd_b zq_code_21 22 rfl rfl rfl)
theorem d_Lw_law_695 : decode code 695 = .ok (.aload_n 2, 1) := zo_44 (zd_b zq_code_21 23 rfl rfl rfl)
theorem d_Lw_law_696 : decode code 696 = .ok (.aload_n 0, 1) := zo_42 (zd_b zq_code_21 24 rfl rfl rfl)
theorem d_Lw_law_697 : decode code 697 = .ok (.iload 5, 2) := zo_21 (d := 5) (zd_b zq_code_21 25 rfl rfl rfl) (zd_b zq_code_21 26 rfl rfl rfl)
theorem d_Lw_law_699 : decode code 699 = .ok (.iconst 1, 1) := zo_4 (zd_b zq_code_21 27 rfl rfl rfl)
theorem d_Lw_law_700 : decode code 700 = .ok (.iadd, 1) := zo_96 (zd_b zq_code_21 28 rfl rfl rfl)
theorem d_Lw_law_701 : decode code 701 = .ok (.iaload, 1) := zo_46 (zd_b zq_code_21 29 rfl rfl rfl)
theorem d_Lw_law_702 : decode code 702 = .ok (.invokevirtual 219, 3) := zo_182 (d := 0) (e := 219) (zd_b zq_code_21 30 rfl rfl rfl) (zd_b zq_code_21 31 rfl rfl rfl) (zd_b zq_code_22 0 rfl rfl rfl)
theorem ok_Lw_law_Mm_shrunk : z_ok M_Lw_law M_Mm_shrunk 1 := ⟨z_mj8 (i := 72) rfl (by decide +kernel), rfl, ⟨by decide +kernel, by decide +kernel, by decide +kernel⟩, ⟨by decide, by decide⟩, z_mj1 (i := 14) rfl (by decide +kernel), rfl⟩
theorem ln_Lw_219 : Cond.methodLink "IronpourLaw" 219 M_Mm_shrunk.1 ∈ z_gw := z_mj8 (i := 69) rfl (by decide +kernel)
theorem w_im_Mm_shrunk : Cond.instanceMethod M_Mm_shrunk.1 ∈ z_gw := z_mj8 (i := 70) rfl (by decide +kernel)
theorem w_se_Mm_shrunk : Cond.selects M_Mm_shrunk.1.cls M_Mm_shrunk.1 M_Mm_shrunk.1 ∈ z_gw := z_mj8 (i := 71) rfl (by decide +kernel)
theorem d_Lw_law_705 : decode code 705 = .ok (.istore 7, 2) := zo_54 (d := 7) (zd_b zq_code_22 1 rfl rfl rfl) (zd_b zq_code_22 2 rfl rfl rfl)
theorem d_Lw_law_707 : decode code 707 = .ok (.goto 1101, 3) := zo_167 (d := 4) (e := 77) (zd_b zq_code_22 3 rfl rfl rfl) (zd_b zq_code_22 4 rfl rfl rfl) (zd_b zq_code_22 5 rfl rfl rfl) (by decide +kernel)
set_option maxHeartbeats 4000000 in
set_option maxRecDepth 100000 in
theorem LC_shrunk {g : zG} {ad : Nat → Nat} {t : zTT} {u : zNN} {w : zW} {j : Nat} (hI : IVm g ad t u w) (hR : REL t u.1 (48 * j)) {r : Nat} (hJ : 7 * j + 7 ≤ g.2.2 41) (hL : g.2.2 41 ≤ 3584) (ih : LWI g ad j r) : DW g M_Lw_law lwQ w 682 [(5, .int (nI (7 * j))), (4, .ref (ad 70)), (3, .ref (ad 69)), (2, .ref (ad 52)), (1, .ref (ad 0)), (0, .ref (g.2.2 40))] [] (100 * (r + 1)) (1000 * (r + 1)) := by
  refine y_base (cs := []) (z_I.nil w) ?_
  refine y_aload_n d_Lw_law_682 rfl 4 rfl ?_
  refine y_aload_n d_Lw_law_683 rfl 5 rfl ?_
  refine y_iload d_Lw_law_684 0 rfl ?_
  refine y_iconst d_Lw_law_686 (v := 1) (by decide) ?_
  refine y_iadd d_Lw_law_687 (v := nI ((7 * j) + 1)) (nI_add _ _) ?_
  refine y_sld (v := zs g (7 * j + 1)) d_Lw_law_688 (vp_in_nI (by omega) (by omega)) (by rw [nI_clamp (by omega)]; rfl) ?_
  refine y_aload_n d_Lw_law_689 rfl 2 rfl ?_
  refine yw_callSX (As := [.ref (ad 0), .int (zs g (7 * j + 1)), .ref (ad 69)]) (rest := []) ln_Lw_217 w_st_Lw_shrunk ok_Lw_law_Lw_shrunk d_Lw_law_690 (fun wA hA => W_shrunk (IVm.nil hA hI) _) rfl rfl (Nat.le_of_ble_eq_true rfl) (by omega) (by omega) (fun wA690 hA690 E wB690 hx => ?_) (fun wA690 hA690 v wB690 hx => ?_)
  · obtain ⟨⟨v9, e1⟩, -⟩ := hx
    cases e1
  · obtain ⟨⟨v9, e1⟩, uC, huC, hI2⟩ := hx
    cases e1
    refine yw_st (st2 := [.int v9]) rfl ?_
    have hI := hI2
    refine y_base (cs := []) (z_I.nil _) ?_
    refine y_istore (lv' := [(6, .int v9), (5, .int (nI (7 * j))), (4, .ref (ad 70)), (3, .ref (ad 69)), (2, .ref (ad 52)), (1, .ref (ad 0)), (0, .ref (g.2.2 40))]) d_Lw_law_693 (by decide) rfl ?_
    refine y_aload_n d_Lw_law_695 rfl 4 rfl ?_
    refine y_aload_n d_Lw_law_696 rfl 6 rfl ?_
    refine y_iload d_Lw_law_697 1 rfl ?_
    refine y_iconst d_Lw_law_699 (v := 1) (by decide) ?_
    refine y_iadd d_Lw_law_700 (v := nI ((7 * j) + 1)) (nI_add _ _) ?_
    refine y_sld (v := zs g (7 * j + 1)) d_Lw_law_701 (vp_in_nI (by omega) (by omega)) (by rw [nI_clamp (by omega)]; rfl) ?_
    refine yw_callVL (As := [.int (zs g (7 * j + 1))]) (rest := []) (ci := 12) rfl (fun wA hA => (IVm.nil hA hI).rm) ln_Lw_219 w_im_Mm_shrunk w_se_Mm_shrunk ok_Lw_law_Mm_shrunk d_Lw_law_702 (fun wA hA => K_Mm_shrunk (IVm.nil hA hI) _) rfl rfl (Nat.le_of_ble_eq_true rfl) (by omega) (by omega) (fun wA702 hA702 E wB702 hx => ?_) (fun wA702 hA702 v wB702 hx => ?_)
    · obtain ⟨⟨v8, e1⟩, -⟩ := hx
      cases e1
    · obtain ⟨⟨v8, e1⟩, uM, huM, hI2⟩ := hx
      cases e1
      refine yw_st (st2 := [.int v8]) rfl ?_
      have hI := hI2
      refine y_base (cs := []) (z_I.nil _) ?_
      refine y_istore (lv' := [(7, .int v8), (6, .int v9), (5, .int (nI (7 * j))), (4, .ref (ad 70)), (3, .ref (ad 69)), (2, .ref (ad 52)), (1, .ref (ad 0)), (0, .ref (g.2.2 40))]) d_Lw_law_705 (by decide) rfl ?_
      refine y_goto (tgt := 1808) d_Lw_law_707 (by decide) ?_
      refine y_lv (lv' := [(5, .int (nI (7 * j))), (4, .ref (ad 70)), (3, .ref (ad 69)), (2, .ref (ad 52)), (1, .ref (ad 0)), (0, .ref (g.2.2 40))]) [2, 3, 4, 5, 6, 7] rfl ?_
      refine y_end (fun wC hC => ?_)
      exact LC_next (IVm.nil hC hI) ((hR.n (huM.trans huC)).up (by omega)) hJ hL ih (by omega) (by omega)
theorem d_Lw_law_710 : decode code 710 = .ok (.aload_n 1, 1) := zo_43 (zd_b zq_code_22 6 rfl rfl rfl)
theorem d_Lw_law_711 : decode code 711 = .ok (.aload_n 0, 1) := zo_42 (zd_b zq_code_22 7 rfl rfl rfl)
theorem d_Lw_law_712 : decode code 712 = .ok (.iload 5, 2) := zo_21 (d := 5) (zd_b zq_code_22 8 rfl rfl rfl) (zd_b zq_code_22 9 rfl rfl rfl)
theorem d_Lw_law_714 : decode code 714 = .ok (.iconst 1, 1) := zo_4 (zd_b zq_code_22 10 rfl rfl rfl)
theorem d_Lw_law_715 : decode code 715 = .ok (.iadd, 1) := zo_96 (zd_b zq_code_22 11 rfl rfl rfl)
theorem d_Lw_law_716 : decode code 716 = .ok (.iaload, 1) := zo_46 (zd_b zq_code_22 12 rfl rfl rfl)
theorem d_Lw_law_717 : decode code 717 = .ok (.aload_n 3, 1) := zo_45 (zd_b zq_code_22 13 rfl rfl rfl)
theorem d_Lw_law_718 : decode code 718 = .ok (.invokestatic 220, 3) := zo_184 (d := 0) (e := 220) (zd_b zq_code_22 14 rfl rfl rfl) (zd_b zq_code_22 15 rfl rfl rfl) (zd_b zq_code_22 16 rfl rfl rfl)
theorem ok_Lw_law_Lw_shrunkAnew : z_okX M_Lw_law M_Lw_shrunkAnew 3 := ⟨z_mj4 (i := 131) rfl (by decide +kernel), by decide, ⟨by decide +kernel, by decide +kernel, by decide +kernel⟩, ⟨by decide, by decide⟩, z_mj1 (i := 0) rfl (by decide +kernel), rfl⟩
theorem ln_Lw_220 : Cond.methodLink "IronpourLaw" 220 M_Lw_shrunkAnew.1 ∈ z_gw := z_mj4 (i := 129) rfl (by decide +kernel)
theorem w_st_Lw_shrunkAnew : Cond.static M_Lw_shrunkAnew.1 ∈ z_gw := z_mj4 (i := 130) rfl (by decide +kernel)
theorem d_Lw_law_721 : decode code 721 = .ok (.istore 6, 2) := zo_54 (d := 6) (zd_b zq_code_22 17 rfl rfl rfl) (zd_b zq_code_22 18 rfl rfl rfl)
theorem d_Lw_law_723 : decode code 723 = .ok (.aload_n 2, 1) := zo_44 (zd_b zq_code_22 19 rfl rfl rfl)
theorem d_Lw_law_724 : decode code 724 = .ok (.aload_n 0, 1) := zo_42 (zd_b zq_code_22 20 rfl rfl rfl)
theorem d_Lw_law_725 : decode code 725 = .ok (.iload 5, 2) := zo_21 (d := 5) (zd_b zq_code_22 21 rfl rfl rfl) (zd_b zq_code_22 22 rfl rfl rfl)
theorem d_Lw_law_727 : decode code 727 = .ok (.iconst 1, 1) := zo_4 (zd_b zq_code_22 23 rfl rfl rfl)
theorem d_Lw_law_728 : decode code 728 = .ok (.iadd, 1) := zo_96 (zd_b zq_code_22 24 rfl rfl rfl)
theorem d_Lw_law_729 : decode code 729 = .ok (.iaload, 1) := zo_46 (zd_b zq_code_22 25 rfl rfl rfl)
theorem d_Lw_law_730 : decode code 730 = .ok (.invokevirtual 222, 3) := zo_182 (d := 0) (e := 222) (zd_b zq_code_22 26 rfl rfl rfl) (zd_b zq_code_22 27 rfl rfl rfl) (zd_b zq_code_22 28 rfl rfl rfl)
theorem ok_Lw_law_Mm_shrunkAnew : z_ok M_Lw_law M_Mm_shrunkAnew 1 := ⟨z_mj8 (i := 80) rfl (by decide +kernel), rfl, ⟨by decide +kernel, by decide +kernel, by decide +kernel⟩, ⟨by decide, by decide⟩, z_mj1 (i := 14) rfl (by decide +kernel), rfl⟩
theorem ln_Lw_222 : Cond.methodLink "IronpourLaw" 222 M_Mm_shrunkAnew.1 ∈ z_gw := z_mj8 (i := 77) rfl (by decide +kernel)
theorem w_im_Mm_shrunkAnew : Cond.instanceMethod M_Mm_shrunkAnew.1 ∈ z_gw := z_mj8 (i := 78) rfl (by decide +kernel)
theorem w_se_Mm_shrunkAnew : Cond.selects M_Mm_shrunkAnew.1.cls M_Mm_shrunkAnew.1 M_Mm_shrunkAnew.1 ∈ z_gw := z_mj8 (i := 79) rfl (by decide +kernel)
theorem d_Lw_law_733 : decode code 733 = .ok (.istore 7, 2) := zo_54 (d := 7) (zd_b zq_code_22 29 rfl rfl rfl) (zd_b zq_code_22 30 rfl rfl rfl)
theorem d_Lw_law_735 : decode code 735 = .ok (.goto 1073, 3) := zo_167 (d := 4) (e := 49) (zd_b zq_code_22 31 rfl rfl rfl) (zd_b zq_code_23 0 rfl rfl rfl) (zd_b zq_code_23 1 rfl rfl rfl) (by decide +kernel)
set_option maxHeartbeats 4000000 in
set_option maxRecDepth 100000 in
theorem LC_shrunkAnew {g : zG} {ad : Nat → Nat} {t : zTT} {u : zNN} {w : zW} {j : Nat} (hI : IVm g ad t u w) (hR : REL t u.1 (48 * j)) {r : Nat} (hJ : 7 * j + 7 ≤ g.2.2 41) (hL : g.2.2 41 ≤ 3584) (ih : LWI g ad j r) : DW g M_Lw_law lwQ w 710 [(5, .int (nI (7 * j))), (4, .ref (ad 70)), (3, .ref (ad 69)), (2, .ref (ad 52)), (1, .ref (ad 0)), (0, .ref (g.2.2 40))] [] (100 * (r + 1)) (1000 * (r + 1)) := by
  refine y_base (cs := []) (z_I.nil w) ?_
  refine y_aload_n d_Lw_law_710 rfl 4 rfl ?_
  refine y_aload_n d_Lw_law_711 rfl 5 rfl ?_
  refine y_iload d_Lw_law_712 0 rfl ?_
  refine y_iconst d_Lw_law_714 (v := 1) (by decide) ?_
  refine y_iadd d_Lw_law_715 (v := nI ((7 * j) + 1)) (nI_add _ _) ?_
  refine y_sld (v := zs g (7 * j + 1)) d_Lw_law_716 (vp_in_nI (by omega) (by omega)) (by rw [nI_clamp (by omega)]; rfl) ?_
  refine y_aload_n d_Lw_law_717 rfl 2 rfl ?_
  refine yw_callSX (As := [.ref (ad 0), .int (zs g (7 * j + 1)), .ref (ad 69)]) (rest := []) ln_Lw_220 w_st_Lw_shrunkAnew ok_Lw_law_Lw_shrunkAnew d_Lw_law_718 (fun wA hA => W_shrunkAnew (IVm.nil hA hI) _) rfl rfl (Nat.le_of_ble_eq_true rfl) (by omega) (by omega) (fun wA718 hA718 E wB718 hx => ?_) (fun wA718 hA718 v wB718 hx => ?_)
  · obtain ⟨⟨v9, e1⟩, -⟩ := hx
    cases e1
  · obtain ⟨⟨v9, e1⟩, uC, huC, hI2⟩ := hx
    cases e1
    refine yw_st (st2 := [.int v9]) rfl ?_
    have hI := hI2
    refine y_base (cs := []) (z_I.nil _) ?_
    refine y_istore (lv' := [(6, .int v9), (5, .int (nI (7 * j))), (4, .ref (ad 70)), (3, .ref (ad 69)), (2, .ref (ad 52)), (1, .ref (ad 0)), (0, .ref (g.2.2 40))]) d_Lw_law_721 (by decide) rfl ?_
    refine y_aload_n d_Lw_law_723 rfl 4 rfl ?_
    refine y_aload_n d_Lw_law_724 rfl 6 rfl ?_
    refine y_iload d_Lw_law_725 1 rfl ?_
    refine y_iconst d_Lw_law_727 (v := 1) (by decide) ?_
    refine y_iadd d_Lw_law_728 (v := nI ((7 * j) + 1)) (nI_add _ _) ?_
    refine y_sld (v := zs g (7 * j + 1)) d_Lw_law_729 (vp_in_nI (by omega) (by omega)) (by rw [nI_clamp (by omega)]; rfl) ?_
    refine yw_callVL (As := [.int (zs g (7 * j + 1))]) (rest := []) (ci := 12) rfl (fun wA hA => (IVm.nil hA hI).rm) ln_Lw_222 w_im_Mm_shrunkAnew w_se_Mm_shrunkAnew ok_Lw_law_Mm_shrunkAnew d_Lw_law_730 (fun wA hA => K_Mm_shrunkAnew (IVm.nil hA hI) _) rfl rfl (Nat.le_of_ble_eq_true rfl) (by omega) (by omega) (fun wA730 hA730 E wB730 hx => ?_) (fun wA730 hA730 v wB730 hx => ?_)
    · obtain ⟨⟨v8, e1⟩, -⟩ := hx
      cases e1
    · obtain ⟨⟨v8, e1⟩, uM, huM, hI2⟩ := hx
      cases e1
      refine yw_st (st2 := [.int v8]) rfl ?_
      have hI := hI2
      refine y_base (cs := []) (z_I.nil _) ?_
      refine y_istore (lv' := [(7, .int v8), (6, .int v9), (5, .int (nI (7 * j))), (4, .ref (ad 70)), (3, .ref (ad 69)), (2, .ref (ad 52)), (1, .ref (ad 0)), (0, .ref (g.2.2 40))]) d_Lw_law_733 (by decide) rfl ?_
      refine y_goto (tgt := 1808) d_Lw_law_735 (by decide) ?_
      refine y_lv (lv' := [(5, .int (nI (7 * j))), (4, .ref (ad 70)), (3, .ref (ad 69)), (2, .ref (ad 52)), (1, .ref (ad 0)), (0, .ref (g.2.2 40))]) [2, 3, 4, 5, 6, 7] rfl ?_
      refine y_end (fun wC hC => ?_)
      exact LC_next (IVm.nil hC hI) ((hR.n (huM.trans huC)).up (by omega)) hJ hL ih (by omega) (by omega)
theorem d_Lw_law_738 : decode code 738 = .ok (.aload_n 1, 1) := zo_43 (zd_b zq_code_23 2 rfl rfl rfl)
theorem d_Lw_law_739 : decode code 739 = .ok (.aload_n 0, 1) := zo_42 (zd_b zq_code_23 3 rfl rfl rfl)
theorem d_Lw_law_740 : decode code 740 = .ok (.iload 5, 2) := zo_21 (d := 5) (zd_b zq_code_23 4 rfl rfl rfl) (zd_b zq_code_23 5 rfl rfl rfl)
theorem d_Lw_law_742 : decode code 742 = .ok (.iconst 1, 1) := zo_4 (zd_b zq_code_23 6 rfl rfl rfl)
theorem d_Lw_law_743 : decode code 743 = .ok (.iadd, 1) := zo_96 (zd_b zq_code_23 7 rfl rfl rfl)
theorem d_Lw_law_744 : decode code 744 = .ok (.iaload, 1) := zo_46 (zd_b zq_code_23 8 rfl rfl rfl)
theorem d_Lw_law_745 : decode code 745 = .ok (.aload_n 3, 1) := zo_45 (zd_b zq_code_23 9 rfl rfl rfl)
theorem d_Lw_law_746 : decode code 746 = .ok (.invokestatic 223, 3) := zo_184 (d := 0) (e := 223) (zd_b zq_code_23 10 rfl rfl rfl) (zd_b zq_code_23 11 rfl rfl rfl) (zd_b zq_code_23 12 rfl rfl rfl)
theorem ok_Lw_law_Lw_lastPlace : z_okX M_Lw_law M_Lw_lastPlace 3 := ⟨z_mj4 (i := 142) rfl (by decide +kernel), by decide, ⟨by decide +kernel, by decide +kernel, by decide +kernel⟩, ⟨by decide, by decide⟩, z_mj1 (i := 0) rfl (by decide +kernel), rfl⟩
theorem ln_Lw_223 : Cond.methodLink "IronpourLaw" 223 M_Lw_lastPlace.1 ∈ z_gw := z_mj4 (i := 140) rfl (by decide +kernel)
theorem w_st_Lw_lastPlace : Cond.static M_Lw_lastPlace.1 ∈ z_gw := z_mj4 (i := 141) rfl (by decide +kernel)
theorem d_Lw_law_749 : decode code 749 = .ok (.istore 6, 2) := zo_54 (d := 6) (zd_b zq_code_23 13 rfl rfl rfl) (zd_b zq_code_23 14 rfl rfl rfl)
theorem d_Lw_law_751 : decode code 751 = .ok (.aload_n 2, 1) := zo_44 (zd_b zq_code_23 15 rfl rfl rfl)
theorem d_Lw_law_752 : decode code 752 = .ok (.aload_n 0, 1) := zo_42 (zd_b zq_code_23 16 rfl rfl rfl)
theorem d_Lw_law_753 : decode code 753 = .ok (.iload 5, 2) := zo_21 (d := 5) (zd_b zq_code_23 17 rfl rfl rfl) (zd_b zq_code_23 18 rfl rfl rfl)
theorem d_Lw_law_755 : decode code 755 = .ok (.iconst 1, 1) := zo_4 (zd_b zq_code_23 19 rfl rfl rfl)
theorem d_Lw_law_756 : decode code 756 = .ok (.iadd, 1) := zo_96 (zd_b zq_code_23 20 rfl rfl rfl)
theorem d_Lw_law_757 : decode code 757 = .ok (.iaload, 1) := zo_46 (zd_b zq_code_23 21 rfl rfl rfl)
theorem d_Lw_law_758 : decode code 758 = .ok (.invokevirtual 225, 3) := zo_182 (d := 0) (e := 225) (zd_b zq_code_23 22 rfl rfl rfl) (zd_b zq_code_23 23 rfl rfl rfl) (zd_b zq_code_23 24 rfl rfl rfl)
theorem ok_Lw_law_Mm_lastPlace : z_ok M_Lw_law M_Mm_lastPlace 1 := ⟨z_mj8 (i := 88) rfl (by decide +kernel), rfl, ⟨by decide +kernel, by decide +kernel, by decide +kernel⟩, ⟨by decide, by decide⟩, z_mj1 (i := 14) rfl (by decide +kernel), rfl⟩
theorem ln_Lw_225 : Cond.methodLink "IronpourLaw" 225 M_Mm_lastPlace.1 ∈ z_gw := z_mj8 (i := 85) rfl (by decide +kernel)
theorem w_im_Mm_lastPlace : Cond.instanceMethod M_Mm_lastPlace.1 ∈ z_gw := z_mj8 (i := 86) rfl (by decide +kernel)
theorem w_se_Mm_lastPlace : Cond.selects M_Mm_lastPlace.1.cls M_Mm_lastPlace.1 M_Mm_lastPlace.1 ∈ z_gw := z_mj8 (i := 87) rfl (by decide +kernel)
theorem d_Lw_law_761 : decode code 761 = .ok (.istore 7, 2) := zo_54 (d := 7) (zd_b zq_code_23 25 rfl rfl rfl) (zd_b zq_code_23 26 rfl rfl rfl)
theorem d_Lw_law_763 : decode code 763 = .ok (.goto 1045, 3) := zo_167 (d := 4) (e := 21) (zd_b zq_code_23 27 rfl rfl rfl) (zd_b zq_code_23 28 rfl rfl rfl) (zd_b zq_code_23 29 rfl rfl rfl) (by decide +kernel)
set_option maxHeartbeats 4000000 in
set_option maxRecDepth 100000 in
theorem LC_lastPlace {g : zG} {ad : Nat → Nat} {t : zTT} {u : zNN} {w : zW} {j : Nat} (hI : IVm g ad t u w) (hR : REL t u.1 (48 * j)) {r : Nat} (hJ : 7 * j + 7 ≤ g.2.2 41) (hL : g.2.2 41 ≤ 3584) (ih : LWI g ad j r) : DW g M_Lw_law lwQ w 738 [(5, .int (nI (7 * j))), (4, .ref (ad 70)), (3, .ref (ad 69)), (2, .ref (ad 52)), (1, .ref (ad 0)), (0, .ref (g.2.2 40))] [] (100 * (r + 1)) (1000 * (r + 1)) := by
  refine y_base (cs := []) (z_I.nil w) ?_
  refine y_aload_n d_Lw_law_738 rfl 4 rfl ?_
  refine y_aload_n d_Lw_law_739 rfl 5 rfl ?_
  refine y_iload d_Lw_law_740 0 rfl ?_
  refine y_iconst d_Lw_law_742 (v := 1) (by decide) ?_
  refine y_iadd d_Lw_law_743 (v := nI ((7 * j) + 1)) (nI_add _ _) ?_
  refine y_sld (v := zs g (7 * j + 1)) d_Lw_law_744 (vp_in_nI (by omega) (by omega)) (by rw [nI_clamp (by omega)]; rfl) ?_
  refine y_aload_n d_Lw_law_745 rfl 2 rfl ?_
  refine yw_callSX (As := [.ref (ad 0), .int (zs g (7 * j + 1)), .ref (ad 69)]) (rest := []) ln_Lw_223 w_st_Lw_lastPlace ok_Lw_law_Lw_lastPlace d_Lw_law_746 (fun wA hA => W_lastPlace (IVm.nil hA hI) _) rfl rfl (Nat.le_of_ble_eq_true rfl) (by omega) (by omega) (fun wA746 hA746 E wB746 hx => ?_) (fun wA746 hA746 v wB746 hx => ?_)
  · obtain ⟨⟨v9, e1⟩, -⟩ := hx
    cases e1
  · obtain ⟨⟨v9, e1⟩, uC, huC, hI2⟩ := hx
    cases e1
    refine yw_st (st2 := [.int v9]) rfl ?_
    have hI := hI2
    refine y_base (cs := []) (z_I.nil _) ?_
    refine y_istore (lv' := [(6, .int v9), (5, .int (nI (7 * j))), (4, .ref (ad 70)), (3, .ref (ad 69)), (2, .ref (ad 52)), (1, .ref (ad 0)), (0, .ref (g.2.2 40))]) d_Lw_law_749 (by decide) rfl ?_
    refine y_aload_n d_Lw_law_751 rfl 4 rfl ?_
    refine y_aload_n d_Lw_law_752 rfl 6 rfl ?_
    refine y_iload d_Lw_law_753 1 rfl ?_
    refine y_iconst d_Lw_law_755 (v := 1) (by decide) ?_
    refine y_iadd d_Lw_law_756 (v := nI ((7 * j) + 1)) (nI_add _ _) ?_
    refine y_sld (v := zs g (7 * j + 1)) d_Lw_law_757 (vp_in_nI (by omega) (by omega)) (by rw [nI_clamp (by omega)]; rfl) ?_
    refine yw_callVL (As := [.int (zs g (7 * j + 1))]) (rest := []) (ci := 12) rfl (fun wA hA => (IVm.nil hA hI).rm) ln_Lw_225 w_im_Mm_lastPlace w_se_Mm_lastPlace ok_Lw_law_Mm_lastPlace d_Lw_law_758 (fun wA hA => K_Mm_lastPlace (IVm.nil hA hI) _) rfl rfl (Nat.le_of_ble_eq_true rfl) (by omega) (by omega) (fun wA758 hA758 E wB758 hx => ?_) (fun wA758 hA758 v wB758 hx => ?_)
    · obtain ⟨⟨v8, e1⟩, -⟩ := hx
      cases e1
    · obtain ⟨⟨v8, e1⟩, uM, huM, hI2⟩ := hx
      cases e1
      refine yw_st (st2 := [.int v8]) rfl ?_
      have hI := hI2
      refine y_base (cs := []) (z_I.nil _) ?_
      refine y_istore (lv' := [(7, .int v8), (6, .int v9), (5, .int (nI (7 * j))), (4, .ref (ad 70)), (3, .ref (ad 69)), (2, .ref (ad 52)), (1, .ref (ad 0)), (0, .ref (g.2.2 40))]) d_Lw_law_761 (by decide) rfl ?_
      refine y_goto (tgt := 1808) d_Lw_law_763 (by decide) ?_
      refine y_lv (lv' := [(5, .int (nI (7 * j))), (4, .ref (ad 70)), (3, .ref (ad 69)), (2, .ref (ad 52)), (1, .ref (ad 0)), (0, .ref (g.2.2 40))]) [2, 3, 4, 5, 6, 7] rfl ?_
      refine y_end (fun wC hC => ?_)
      exact LC_next (IVm.nil hC hI) ((hR.n (huM.trans huC)).up (by omega)) hJ hL ih (by omega) (by omega)
theorem d_Lw_law_766 : decode code 766 = .ok (.aload_n 1, 1) := zo_43 (zd_b zq_code_23 30 rfl rfl rfl)
theorem d_Lw_law_767 : decode code 767 = .ok (.aload_n 0, 1) := zo_42 (zd_b zq_code_23 31 rfl rfl rfl)
theorem d_Lw_law_768 : decode code 768 = .ok (.iload 5, 2) := zo_21 (d := 5) (zd_b zq_code_24 0 rfl rfl rfl) (zd_b zq_code_24 1 rfl rfl rfl)
theorem d_Lw_law_770 : decode code 770 = .ok (.iconst 1, 1) := zo_4 (zd_b zq_code_24 2 rfl rfl rfl)
theorem d_Lw_law_771 : decode code 771 = .ok (.iadd, 1) := zo_96 (zd_b zq_code_24 3 rfl rfl rfl)
theorem d_Lw_law_772 : decode code 772 = .ok (.iaload, 1) := zo_46 (zd_b zq_code_24 4 rfl rfl rfl)
theorem d_Lw_law_773 : decode code 773 = .ok (.aload_n 3, 1) := zo_45 (zd_b zq_code_24 5 rfl rfl rfl)
theorem d_Lw_law_774 : decode code 774 = .ok (.invokestatic 226, 3) := zo_184 (d := 0) (e := 226) (zd_b zq_code_24 6 rfl rfl rfl) (zd_b zq_code_24 7 rfl rfl rfl) (zd_b zq_code_24 8 rfl rfl rfl)
theorem ok_Lw_law_Lw_bestFeeder : z_okX M_Lw_law M_Lw_bestFeeder 3 := ⟨z_mj4 (i := 154) rfl (by decide +kernel), by decide, ⟨by decide +kernel, by decide +kernel, by decide +kernel⟩, ⟨by decide, by decide⟩, z_mj1 (i := 0) rfl (by decide +kernel), rfl⟩
theorem ln_Lw_226 : Cond.methodLink "IronpourLaw" 226 M_Lw_bestFeeder.1 ∈ z_gw := z_mj4 (i := 152) rfl (by decide +kernel)
theorem w_st_Lw_bestFeeder : Cond.static M_Lw_bestFeeder.1 ∈ z_gw := z_mj4 (i := 153) rfl (by decide +kernel)
theorem d_Lw_law_777 : decode code 777 = .ok (.istore 6, 2) := zo_54 (d := 6) (zd_b zq_code_24 9 rfl rfl rfl) (zd_b zq_code_24 10 rfl rfl rfl)
theorem d_Lw_law_779 : decode code 779 = .ok (.aload_n 2, 1) := zo_44 (zd_b zq_code_24 11 rfl rfl rfl)
theorem d_Lw_law_780 : decode code 780 = .ok (.aload_n 0, 1) := zo_42 (zd_b zq_code_24 12 rfl rfl rfl)
theorem d_Lw_law_781 : decode code 781 = .ok (.iload 5, 2) := zo_21 (d := 5) (zd_b zq_code_24 13 rfl rfl rfl) (zd_b zq_code_24 14 rfl rfl rfl)
theorem d_Lw_law_783 : decode code 783 = .ok (.iconst 1, 1) := zo_4 (zd_b zq_code_24 15 rfl rfl rfl)
theorem d_Lw_law_784 : decode code 784 = .ok (.iadd, 1) := zo_96 (zd_b zq_code_24 16 rfl rfl rfl)
theorem d_Lw_law_785 : decode code 785 = .ok (.iaload, 1) := zo_46 (zd_b zq_code_24 17 rfl rfl rfl)
theorem d_Lw_law_786 : decode code 786 = .ok (.invokevirtual 228, 3) := zo_182 (d := 0) (e := 228) (zd_b zq_code_24 18 rfl rfl rfl) (zd_b zq_code_24 19 rfl rfl rfl) (zd_b zq_code_24 20 rfl rfl rfl)
theorem ok_Lw_law_Mm_bestFeeder : z_ok M_Lw_law M_Mm_bestFeeder 1 := ⟨z_mj8 (i := 92) rfl (by decide +kernel), rfl, ⟨by decide +kernel, by decide +kernel, by decide +kernel⟩, ⟨by decide, by decide⟩, z_mj1 (i := 14) rfl (by decide +kernel), rfl⟩
theorem ln_Lw_228 : Cond.methodLink "IronpourLaw" 228 M_Mm_bestFeeder.1 ∈ z_gw := z_mj8 (i := 89) rfl (by decide +kernel)
theorem w_im_Mm_bestFeeder : Cond.instanceMethod M_Mm_bestFeeder.1 ∈ z_gw := z_mj8 (i := 90) rfl (by decide +kernel)
theorem w_se_Mm_bestFeeder : Cond.selects M_Mm_bestFeeder.1.cls M_Mm_bestFeeder.1 M_Mm_bestFeeder.1 ∈ z_gw := z_mj8 (i := 91) rfl (by decide +kernel)
theorem d_Lw_law_789 : decode code 789 = .ok (.istore 7, 2) := zo_54 (d := 7) (zd_b zq_code_24 21 rfl rfl rfl) (zd_b zq_code_24 22 rfl rfl rfl)
theorem d_Lw_law_791 : decode code 791 = .ok (.goto 1017, 3) := zo_167 (d := 3) (e := 249) (zd_b zq_code_24 23 rfl rfl rfl) (zd_b zq_code_24 24 rfl rfl rfl) (zd_b zq_code_24 25 rfl rfl rfl) (by decide +kernel)
set_option maxHeartbeats 4000000 in
set_option maxRecDepth 100000 in
theorem LC_bestFeeder {g : zG} {ad : Nat → Nat} {t : zTT} {u : zNN} {w : zW} {j : Nat} (hI : IVm g ad t u w) (hR : REL t u.1 (48 * j)) {r : Nat} (hJ : 7 * j + 7 ≤ g.2.2 41) (hL : g.2.2 41 ≤ 3584) (ih : LWI g ad j r) : DW g M_Lw_law lwQ w 766 [(5, .int (nI (7 * j))), (4, .ref (ad 70)), (3, .ref (ad 69)), (2, .ref (ad 52)), (1, .ref (ad 0)), (0, .ref (g.2.2 40))] [] (100 * (r + 1)) (1000 * (r + 1)) := by
  refine y_base (cs := []) (z_I.nil w) ?_
  refine y_aload_n d_Lw_law_766 rfl 4 rfl ?_
  refine y_aload_n d_Lw_law_767 rfl 5 rfl ?_
  refine y_iload d_Lw_law_768 0 rfl ?_
  refine y_iconst d_Lw_law_770 (v := 1) (by decide) ?_
  refine y_iadd d_Lw_law_771 (v := nI ((7 * j) + 1)) (nI_add _ _) ?_
  refine y_sld (v := zs g (7 * j + 1)) d_Lw_law_772 (vp_in_nI (by omega) (by omega)) (by rw [nI_clamp (by omega)]; rfl) ?_
  refine y_aload_n d_Lw_law_773 rfl 2 rfl ?_
  refine yw_callSX (As := [.ref (ad 0), .int (zs g (7 * j + 1)), .ref (ad 69)]) (rest := []) ln_Lw_226 w_st_Lw_bestFeeder ok_Lw_law_Lw_bestFeeder d_Lw_law_774 (fun wA hA => W_bestFeeder (IVm.nil hA hI) _) rfl rfl (Nat.le_of_ble_eq_true rfl) (by omega) (by omega) (fun wA774 hA774 E wB774 hx => ?_) (fun wA774 hA774 v wB774 hx => ?_)
  · obtain ⟨⟨v9, e1⟩, -⟩ := hx
    cases e1
  · obtain ⟨⟨v9, e1⟩, uC, huC, hI2⟩ := hx
    cases e1
    refine yw_st (st2 := [.int v9]) rfl ?_
    have hI := hI2
    refine y_base (cs := []) (z_I.nil _) ?_
    refine y_istore (lv' := [(6, .int v9), (5, .int (nI (7 * j))), (4, .ref (ad 70)), (3, .ref (ad 69)), (2, .ref (ad 52)), (1, .ref (ad 0)), (0, .ref (g.2.2 40))]) d_Lw_law_777 (by decide) rfl ?_
    refine y_aload_n d_Lw_law_779 rfl 4 rfl ?_
    refine y_aload_n d_Lw_law_780 rfl 6 rfl ?_
    refine y_iload d_Lw_law_781 1 rfl ?_
    refine y_iconst d_Lw_law_783 (v := 1) (by decide) ?_
    refine y_iadd d_Lw_law_784 (v := nI ((7 * j) + 1)) (nI_add _ _) ?_
    refine y_sld (v := zs g (7 * j + 1)) d_Lw_law_785 (vp_in_nI (by omega) (by omega)) (by rw [nI_clamp (by omega)]; rfl) ?_
    refine yw_callVL (As := [.int (zs g (7 * j + 1))]) (rest := []) (ci := 12) rfl (fun wA hA => (IVm.nil hA hI).rm) ln_Lw_228 w_im_Mm_bestFeeder w_se_Mm_bestFeeder ok_Lw_law_Mm_bestFeeder d_Lw_law_786 (fun wA hA => K_Mm_bestFeeder (IVm.nil hA hI) _) rfl rfl (Nat.le_of_ble_eq_true rfl) (by omega) (by omega) (fun wA786 hA786 E wB786 hx => ?_) (fun wA786 hA786 v wB786 hx => ?_)
    · obtain ⟨⟨v8, e1⟩, -⟩ := hx
      cases e1
    · obtain ⟨⟨v8, e1⟩, uM, huM, hI2⟩ := hx
      cases e1
      refine yw_st (st2 := [.int v8]) rfl ?_
      have hI := hI2
      refine y_base (cs := []) (z_I.nil _) ?_
      refine y_istore (lv' := [(7, .int v8), (6, .int v9), (5, .int (nI (7 * j))), (4, .ref (ad 70)), (3, .ref (ad 69)), (2, .ref (ad 52)), (1, .ref (ad 0)), (0, .ref (g.2.2 40))]) d_Lw_law_789 (by decide) rfl ?_
      refine y_goto (tgt := 1808) d_Lw_law_791 (by decide) ?_
      refine y_lv (lv' := [(5, .int (nI (7 * j))), (4, .ref (ad 70)), (3, .ref (ad 69)), (2, .ref (ad 52)), (1, .ref (ad 0)), (0, .ref (g.2.2 40))]) [2, 3, 4, 5, 6, 7] rfl ?_
      refine y_end (fun wC hC => ?_)
      exact LC_next (IVm.nil hC hI) ((hR.n (huM.trans huC)).up (by omega)) hJ hL ih (by omega) (by omega)
