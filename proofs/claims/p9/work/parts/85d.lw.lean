theorem d_Lw_law_542 : decode code 542 = .ok (.aload_n 1, 1) := zo_43 (zd_b zq_code_16 30 rfl rfl rfl)
theorem d_Lw_law_543 : decode code 543 = .ok (.aload_n 0, 1) := zo_42 (zd_b zq_code_16 31 rfl rfl rfl)
theorem d_Lw_law_544 : decode code 544 = .ok (.iload 5, 2) := zo_21 (d := 5) (zd_b zq_code_17 0 rfl rfl rfl) (zd_b zq_code_17 1 rfl rfl rfl)
theorem d_Lw_law_546 : decode code 546 = .ok (.iconst 1, 1) := zo_4 (zd_b zq_code_17 2 rfl rfl rfl)
theorem d_Lw_law_547 : decode code 547 = .ok (.iadd, 1) := zo_96 (zd_b zq_code_17 3 rfl rfl rfl)
theorem d_Lw_law_548 : decode code 548 = .ok (.iaload, 1) := zo_46 (zd_b zq_code_17 4 rfl rfl rfl)
theorem d_Lw_law_549 : decode code 549 = .ok (.aload_n 0, 1) := zo_42 (zd_b zq_code_17 5 rfl rfl rfl)
theorem d_Lw_law_550 : decode code 550 = .ok (.iload 5, 2) := zo_21 (d := 5) (zd_b zq_code_17 6 rfl rfl rfl) (zd_b zq_code_17 7 rfl rfl rfl)
theorem d_Lw_law_552 : decode code 552 = .ok (.iconst 2, 1) := zo_5 (zd_b zq_code_17 8 rfl rfl rfl)
theorem d_Lw_law_553 : decode code 553 = .ok (.iadd, 1) := zo_96 (zd_b zq_code_17 9 rfl rfl rfl)
theorem d_Lw_law_554 : decode code 554 = .ok (.iaload, 1) := zo_46 (zd_b zq_code_17 10 rfl rfl rfl)
theorem d_Lw_law_555 : decode code 555 = .ok (.aload_n 0, 1) := zo_42 (zd_b zq_code_17 11 rfl rfl rfl)
theorem d_Lw_law_556 : decode code 556 = .ok (.iload 5, 2) := zo_21 (d := 5) (zd_b zq_code_17 12 rfl rfl rfl) (zd_b zq_code_17 13 rfl rfl rfl)
theorem d_Lw_law_558 : decode code 558 = .ok (.iconst 3, 1) := zo_6 (zd_b zq_code_17 14 rfl rfl rfl)
theorem d_Lw_law_559 : decode code 559 = .ok (.iadd, 1) := zo_96 (zd_b zq_code_17 15 rfl rfl rfl)
theorem d_Lw_law_560 : decode code 560 = .ok (.iaload, 1) := zo_46 (zd_b zq_code_17 16 rfl rfl rfl)
theorem d_Lw_law_561 : decode code 561 = .ok (.aload_n 3, 1) := zo_45 (zd_b zq_code_17 17 rfl rfl rfl)
theorem d_Lw_law_562 : decode code 562 = .ok (.invokestatic 209, 3) := zo_184 (d := 0) (e := 209) (zd_b zq_code_17 18 rfl rfl rfl) (zd_b zq_code_17 19 rfl rfl rfl) (zd_b zq_code_17 20 rfl rfl rfl)
theorem ok_Lw_law_Lw_frozenIn : z_okX M_Lw_law M_Lw_frozenIn 5 := ⟨z_mj4 (i := 87) rfl (by decide +kernel), by decide, ⟨by decide +kernel, by decide +kernel, by decide +kernel⟩, ⟨by decide, by decide⟩, z_mj1 (i := 0) rfl (by decide +kernel), rfl⟩
theorem ln_Lw_209 : Cond.methodLink "IronpourLaw" 209 M_Lw_frozenIn.1 ∈ z_gw := z_mj4 (i := 85) rfl (by decide +kernel)
theorem w_st_Lw_frozenIn : Cond.static M_Lw_frozenIn.1 ∈ z_gw := z_mj4 (i := 86) rfl (by decide +kernel)
theorem d_Lw_law_565 : decode code 565 = .ok (.istore 6, 2) := zo_54 (d := 6) (zd_b zq_code_17 21 rfl rfl rfl) (zd_b zq_code_17 22 rfl rfl rfl)
theorem d_Lw_law_567 : decode code 567 = .ok (.aload_n 2, 1) := zo_44 (zd_b zq_code_17 23 rfl rfl rfl)
theorem d_Lw_law_568 : decode code 568 = .ok (.aload_n 0, 1) := zo_42 (zd_b zq_code_17 24 rfl rfl rfl)
theorem d_Lw_law_569 : decode code 569 = .ok (.iload 5, 2) := zo_21 (d := 5) (zd_b zq_code_17 25 rfl rfl rfl) (zd_b zq_code_17 26 rfl rfl rfl)
theorem d_Lw_law_571 : decode code 571 = .ok (.iconst 1, 1) := zo_4 (zd_b zq_code_17 27 rfl rfl rfl)
theorem d_Lw_law_572 : decode code 572 = .ok (.iadd, 1) := zo_96 (zd_b zq_code_17 28 rfl rfl rfl)
theorem d_Lw_law_573 : decode code 573 = .ok (.iaload, 1) := zo_46 (zd_b zq_code_17 29 rfl rfl rfl)
theorem d_Lw_law_574 : decode code 574 = .ok (.aload_n 0, 1) := zo_42 (zd_b zq_code_17 30 rfl rfl rfl)
theorem d_Lw_law_575 : decode code 575 = .ok (.iload 5, 2) := zo_21 (d := 5) (zd_b zq_code_17 31 rfl rfl rfl) (zd_b zq_code_18 0 rfl rfl rfl)
theorem d_Lw_law_577 : decode code 577 = .ok (.iconst 2, 1) := zo_5 (zd_b zq_code_18 1 rfl rfl rfl)
theorem d_Lw_law_578 : decode code 578 = .ok (.iadd, 1) := zo_96 (zd_b zq_code_18 2 rfl rfl rfl)
theorem d_Lw_law_579 : decode code 579 = .ok (.iaload, 1) := zo_46 (zd_b zq_code_18 3 rfl rfl rfl)
theorem d_Lw_law_580 : decode code 580 = .ok (.aload_n 0, 1) := zo_42 (zd_b zq_code_18 4 rfl rfl rfl)
theorem d_Lw_law_581 : decode code 581 = .ok (.iload 5, 2) := zo_21 (d := 5) (zd_b zq_code_18 5 rfl rfl rfl) (zd_b zq_code_18 6 rfl rfl rfl)
theorem d_Lw_law_583 : decode code 583 = .ok (.iconst 3, 1) := zo_6 (zd_b zq_code_18 7 rfl rfl rfl)
theorem d_Lw_law_584 : decode code 584 = .ok (.iadd, 1) := zo_96 (zd_b zq_code_18 8 rfl rfl rfl)
theorem d_Lw_law_585 : decode code 585 = .ok (.iaload, 1) := zo_46 (zd_b zq_code_18 9 rfl rfl rfl)
theorem d_Lw_law_586 : decode code 586 = .ok (.invokevirtual 212, 3) := zo_182 (d := 0) (e := 212) (zd_b zq_code_18 10 rfl rfl rfl) (zd_b zq_code_18 11 rfl rfl rfl) (zd_b zq_code_18 12 rfl rfl rfl)
theorem ok_Lw_law_Mm_frozenIn : z_ok M_Lw_law M_Mm_frozenIn 3 := ⟨z_mj8 (i := 33) rfl (by decide +kernel), rfl, ⟨by decide +kernel, by decide +kernel, by decide +kernel⟩, ⟨by decide, by decide⟩, z_mj1 (i := 14) rfl (by decide +kernel), rfl⟩
theorem ln_Lw_212 : Cond.methodLink "IronpourLaw" 212 M_Mm_frozenIn.1 ∈ z_gw := z_mj8 (i := 30) rfl (by decide +kernel)
theorem w_im_Mm_frozenIn : Cond.instanceMethod M_Mm_frozenIn.1 ∈ z_gw := z_mj8 (i := 31) rfl (by decide +kernel)
theorem w_se_Mm_frozenIn : Cond.selects M_Mm_frozenIn.1.cls M_Mm_frozenIn.1 M_Mm_frozenIn.1 ∈ z_gw := z_mj8 (i := 32) rfl (by decide +kernel)
theorem d_Lw_law_589 : decode code 589 = .ok (.istore 7, 2) := zo_54 (d := 7) (zd_b zq_code_18 13 rfl rfl rfl) (zd_b zq_code_18 14 rfl rfl rfl)
theorem d_Lw_law_591 : decode code 591 = .ok (.goto 1217, 3) := zo_167 (d := 4) (e := 193) (zd_b zq_code_18 15 rfl rfl rfl) (zd_b zq_code_18 16 rfl rfl rfl) (zd_b zq_code_18 17 rfl rfl rfl) (by decide +kernel)
set_option maxHeartbeats 4000000 in
set_option maxRecDepth 100000 in
theorem LC_frozenIn {g : zG} {ad : Nat → Nat} {t : zTT} {u : zNN} {w : zW} {j : Nat} (hI : IVm g ad t u w) (hR : REL t u.1 (48 * j)) {r : Nat} (hJ : 7 * j + 7 ≤ g.2.2 41) (hL : g.2.2 41 ≤ 3584) (ih : LWI g ad j r) : DW g M_Lw_law lwQ w 542 [(5, .int (nI (7 * j))), (4, .ref (ad 70)), (3, .ref (ad 69)), (2, .ref (ad 52)), (1, .ref (ad 0)), (0, .ref (g.2.2 40))] [] (100 * (r + 1)) (1000 * (r + 1)) := by
  refine y_base (cs := []) (z_I.nil w) ?_
  refine y_aload_n d_Lw_law_542 rfl 4 rfl ?_
  refine y_aload_n d_Lw_law_543 rfl 5 rfl ?_
  refine y_iload d_Lw_law_544 0 rfl ?_
  refine y_iconst d_Lw_law_546 (v := 1) (by decide) ?_
  refine y_iadd d_Lw_law_547 (v := nI ((7 * j) + 1)) (nI_add _ _) ?_
  refine y_sld (v := zs g (7 * j + 1)) d_Lw_law_548 (vp_in_nI (by omega) (by omega)) (by rw [nI_clamp (by omega)]; rfl) ?_
  refine y_aload_n d_Lw_law_549 rfl 5 rfl ?_
  refine y_iload d_Lw_law_550 0 rfl ?_
  refine y_iconst d_Lw_law_552 (v := 2) (by decide) ?_
  refine y_iadd d_Lw_law_553 (v := nI ((7 * j) + 2)) (nI_add _ _) ?_
  refine y_sld (v := zs g (7 * j + 2)) d_Lw_law_554 (vp_in_nI (by omega) (by omega)) (by rw [nI_clamp (by omega)]; rfl) ?_
  refine y_aload_n d_Lw_law_555 rfl 5 rfl ?_
  refine y_iload d_Lw_law_556 0 rfl ?_
  refine y_iconst d_Lw_law_558 (v := 3) (by decide) ?_
  refine y_iadd d_Lw_law_559 (v := nI ((7 * j) + 3)) (nI_add _ _) ?_
  refine y_sld (v := zs g (7 * j + 3)) d_Lw_law_560 (vp_in_nI (by omega) (by omega)) (by rw [nI_clamp (by omega)]; rfl) ?_
  refine y_aload_n d_Lw_law_561 rfl 2 rfl ?_
  refine yw_callSX (As := [.ref (ad 0), .int (zs g (7 * j + 1)), .int (zs g (7 * j + 2)), .int (zs g (7 * j + 3)), .ref (ad 69)]) (rest := []) ln_Lw_209 w_st_Lw_frozenIn ok_Lw_law_Lw_frozenIn d_Lw_law_562 (fun wA hA => W_frozenIn (IVm.nil hA hI) _ _ _) rfl rfl (Nat.le_of_ble_eq_true rfl) (by omega) (by omega) (fun wA562 hA562 E wB562 hx => ?_) (fun wA562 hA562 v wB562 hx => ?_)
  · obtain ⟨⟨v9, e1⟩, -⟩ := hx
    cases e1
  · obtain ⟨⟨v9, e1⟩, uC, huC, hI2⟩ := hx
    cases e1
    refine yw_st (st2 := [.int v9]) rfl ?_
    have hI := hI2
    refine y_base (cs := []) (z_I.nil _) ?_
    refine y_istore (lv' := [(6, .int v9), (5, .int (nI (7 * j))), (4, .ref (ad 70)), (3, .ref (ad 69)), (2, .ref (ad 52)), (1, .ref (ad 0)), (0, .ref (g.2.2 40))]) d_Lw_law_565 (by decide) rfl ?_
    refine y_aload_n d_Lw_law_567 rfl 4 rfl ?_
    refine y_aload_n d_Lw_law_568 rfl 6 rfl ?_
    refine y_iload d_Lw_law_569 1 rfl ?_
    refine y_iconst d_Lw_law_571 (v := 1) (by decide) ?_
    refine y_iadd d_Lw_law_572 (v := nI ((7 * j) + 1)) (nI_add _ _) ?_
    refine y_sld (v := zs g (7 * j + 1)) d_Lw_law_573 (vp_in_nI (by omega) (by omega)) (by rw [nI_clamp (by omega)]; rfl) ?_
    refine y_aload_n d_Lw_law_574 rfl 6 rfl ?_
    refine y_iload d_Lw_law_575 1 rfl ?_
    refine y_iconst d_Lw_law_577 (v := 2) (by decide) ?_
    refine y_iadd d_Lw_law_578 (v := nI ((7 * j) + 2)) (nI_add _ _) ?_
    refine y_sld (v := zs g (7 * j + 2)) d_Lw_law_579 (vp_in_nI (by omega) (by omega)) (by rw [nI_clamp (by omega)]; rfl) ?_
    refine y_aload_n d_Lw_law_580 rfl 6 rfl ?_
    refine y_iload d_Lw_law_581 1 rfl ?_
    refine y_iconst d_Lw_law_583 (v := 3) (by decide) ?_
    refine y_iadd d_Lw_law_584 (v := nI ((7 * j) + 3)) (nI_add _ _) ?_
    refine y_sld (v := zs g (7 * j + 3)) d_Lw_law_585 (vp_in_nI (by omega) (by omega)) (by rw [nI_clamp (by omega)]; rfl) ?_
    refine yw_callVL (As := [.int (zs g (7 * j + 1)), .int (zs g (7 * j + 2)), .int (zs g (7 * j + 3))]) (rest := []) (ci := 12) rfl (fun wA hA => (IVm.nil hA hI).rm) ln_Lw_212 w_im_Mm_frozenIn w_se_Mm_frozenIn ok_Lw_law_Mm_frozenIn d_Lw_law_586 (fun wA hA => K_Mm_frozenIn (IVm.nil hA hI) _ _ _) rfl rfl (Nat.le_of_ble_eq_true rfl) (by omega) (by omega) (fun wA586 hA586 E wB586 hx => ?_) (fun wA586 hA586 v wB586 hx => ?_)
    · obtain ⟨⟨v8, e1⟩, -⟩ := hx
      cases e1
    · obtain ⟨⟨v8, e1⟩, uM, huM, hI2⟩ := hx
      cases e1
      refine yw_st (st2 := [.int v8]) rfl ?_
      have hI := hI2
      refine y_base (cs := []) (z_I.nil _) ?_
      refine y_istore (lv' := [(7, .int v8), (6, .int v9), (5, .int (nI (7 * j))), (4, .ref (ad 70)), (3, .ref (ad 69)), (2, .ref (ad 52)), (1, .ref (ad 0)), (0, .ref (g.2.2 40))]) d_Lw_law_589 (by decide) rfl ?_
      refine y_goto (tgt := 1808) d_Lw_law_591 (by decide) ?_
      refine y_lv (lv' := [(5, .int (nI (7 * j))), (4, .ref (ad 70)), (3, .ref (ad 69)), (2, .ref (ad 52)), (1, .ref (ad 0)), (0, .ref (g.2.2 40))]) [2, 3, 4, 5, 6, 7] rfl ?_
      refine y_end (fun wC hC => ?_)
      exact LC_next (IVm.nil hC hI) ((hR.n (huM.trans huC)).up (by omega)) hJ hL ih (by omega) (by omega)
theorem d_Lw_law_594 : decode code 594 = .ok (.aload_n 1, 1) := zo_43 (zd_b zq_code_18 18 rfl rfl rfl)
theorem d_Lw_law_595 : decode code 595 = .ok (.aload_n 0, 1) := zo_42 (zd_b zq_code_18 19 rfl rfl rfl)
theorem d_Lw_law_596 : decode code 596 = .ok (.iload 5, 2) := zo_21 (d := 5) (zd_b zq_code_18 20 rfl rfl rfl) (zd_b zq_code_18 21 rfl rfl rfl)
theorem d_Lw_law_598 : decode code 598 = .ok (.iconst 1, 1) := zo_4 (zd_b zq_code_18 22 rfl rfl rfl)
theorem d_Lw_law_599 : decode code 599 = .ok (.iadd, 1) := zo_96 (zd_b zq_code_18 23 rfl rfl rfl)
theorem d_Lw_law_600 : decode code 600 = .ok (.iaload, 1) := zo_46 (zd_b zq_code_18 24 rfl rfl rfl)
theorem d_Lw_law_601 : decode code 601 = .ok (.aload_n 0, 1) := zo_42 (zd_b zq_code_18 25 rfl rfl rfl)
theorem d_Lw_law_602 : decode code 602 = .ok (.iload 5, 2) := zo_21 (d := 5) (zd_b zq_code_18 26 rfl rfl rfl) (zd_b zq_code_18 27 rfl rfl rfl)
theorem d_Lw_law_604 : decode code 604 = .ok (.iconst 2, 1) := zo_5 (zd_b zq_code_18 28 rfl rfl rfl)
theorem d_Lw_law_605 : decode code 605 = .ok (.iadd, 1) := zo_96 (zd_b zq_code_18 29 rfl rfl rfl)
theorem d_Lw_law_606 : decode code 606 = .ok (.iaload, 1) := zo_46 (zd_b zq_code_18 30 rfl rfl rfl)
theorem d_Lw_law_607 : decode code 607 = .ok (.aload_n 0, 1) := zo_42 (zd_b zq_code_18 31 rfl rfl rfl)
theorem d_Lw_law_608 : decode code 608 = .ok (.iload 5, 2) := zo_21 (d := 5) (zd_b zq_code_19 0 rfl rfl rfl) (zd_b zq_code_19 1 rfl rfl rfl)
theorem d_Lw_law_610 : decode code 610 = .ok (.iconst 3, 1) := zo_6 (zd_b zq_code_19 2 rfl rfl rfl)
theorem d_Lw_law_611 : decode code 611 = .ok (.iadd, 1) := zo_96 (zd_b zq_code_19 3 rfl rfl rfl)
theorem d_Lw_law_612 : decode code 612 = .ok (.iaload, 1) := zo_46 (zd_b zq_code_19 4 rfl rfl rfl)
theorem d_Lw_law_613 : decode code 613 = .ok (.aload_n 0, 1) := zo_42 (zd_b zq_code_19 5 rfl rfl rfl)
theorem d_Lw_law_614 : decode code 614 = .ok (.iload 5, 2) := zo_21 (d := 5) (zd_b zq_code_19 6 rfl rfl rfl) (zd_b zq_code_19 7 rfl rfl rfl)
theorem d_Lw_law_616 : decode code 616 = .ok (.iconst 4, 1) := zo_7 (zd_b zq_code_19 8 rfl rfl rfl)
theorem d_Lw_law_617 : decode code 617 = .ok (.iadd, 1) := zo_96 (zd_b zq_code_19 9 rfl rfl rfl)
theorem d_Lw_law_618 : decode code 618 = .ok (.iaload, 1) := zo_46 (zd_b zq_code_19 10 rfl rfl rfl)
theorem d_Lw_law_619 : decode code 619 = .ok (.aload_n 3, 1) := zo_45 (zd_b zq_code_19 11 rfl rfl rfl)
theorem d_Lw_law_620 : decode code 620 = .ok (.invokestatic 213, 3) := zo_184 (d := 0) (e := 213) (zd_b zq_code_19 12 rfl rfl rfl) (zd_b zq_code_19 13 rfl rfl rfl) (zd_b zq_code_19 14 rfl rfl rfl)
theorem ok_Lw_law_Lw_heatAt : z_okX M_Lw_law M_Lw_heatAt 6 := ⟨z_mj4 (i := 101) rfl (by decide +kernel), by decide, ⟨by decide +kernel, by decide +kernel, by decide +kernel⟩, ⟨by decide, by decide⟩, z_mj1 (i := 0) rfl (by decide +kernel), rfl⟩
theorem ln_Lw_213 : Cond.methodLink "IronpourLaw" 213 M_Lw_heatAt.1 ∈ z_gw := z_mj4 (i := 99) rfl (by decide +kernel)
theorem w_st_Lw_heatAt : Cond.static M_Lw_heatAt.1 ∈ z_gw := z_mj4 (i := 100) rfl (by decide +kernel)
theorem d_Lw_law_623 : decode code 623 = .ok (.istore 6, 2) := zo_54 (d := 6) (zd_b zq_code_19 15 rfl rfl rfl) (zd_b zq_code_19 16 rfl rfl rfl)
theorem d_Lw_law_625 : decode code 625 = .ok (.aload_n 2, 1) := zo_44 (zd_b zq_code_19 17 rfl rfl rfl)
theorem d_Lw_law_626 : decode code 626 = .ok (.aload_n 0, 1) := zo_42 (zd_b zq_code_19 18 rfl rfl rfl)
theorem d_Lw_law_627 : decode code 627 = .ok (.iload 5, 2) := zo_21 (d := 5) (zd_b zq_code_19 19 rfl rfl rfl) (zd_b zq_code_19 20 rfl rfl rfl)
theorem d_Lw_law_629 : decode code 629 = .ok (.iconst 1, 1) := zo_4 (zd_b zq_code_19 21 rfl rfl rfl)
theorem d_Lw_law_630 : decode code 630 = .ok (.iadd, 1) := zo_96 (zd_b zq_code_19 22 rfl rfl rfl)
theorem d_Lw_law_631 : decode code 631 = .ok (.iaload, 1) := zo_46 (zd_b zq_code_19 23 rfl rfl rfl)
theorem d_Lw_law_632 : decode code 632 = .ok (.aload_n 0, 1) := zo_42 (zd_b zq_code_19 24 rfl rfl rfl)
theorem d_Lw_law_633 : decode code 633 = .ok (.iload 5, 2) := zo_21 (d := 5) (zd_b zq_code_19 25 rfl rfl rfl) (zd_b zq_code_19 26 rfl rfl rfl)
theorem d_Lw_law_635 : decode code 635 = .ok (.iconst 2, 1) := zo_5 (zd_b zq_code_19 27 rfl rfl rfl)
theorem d_Lw_law_636 : decode code 636 = .ok (.iadd, 1) := zo_96 (zd_b zq_code_19 28 rfl rfl rfl)
theorem d_Lw_law_637 : decode code 637 = .ok (.iaload, 1) := zo_46 (zd_b zq_code_19 29 rfl rfl rfl)
theorem d_Lw_law_638 : decode code 638 = .ok (.aload_n 0, 1) := zo_42 (zd_b zq_code_19 30 rfl rfl rfl)
theorem d_Lw_law_639 : decode code 639 = .ok (.iload 5, 2) := zo_21 (d := 5) (zd_b zq_code_19 31 rfl rfl rfl) (zd_b zq_code_20 0 rfl rfl rfl)
theorem d_Lw_law_641 : decode code 641 = .ok (.iconst 3, 1) := zo_6 (zd_b zq_code_20 1 rfl rfl rfl)
theorem d_Lw_law_642 : decode code 642 = .ok (.iadd, 1) := zo_96 (zd_b zq_code_20 2 rfl rfl rfl)
theorem d_Lw_law_643 : decode code 643 = .ok (.iaload, 1) := zo_46 (zd_b zq_code_20 3 rfl rfl rfl)
theorem d_Lw_law_644 : decode code 644 = .ok (.aload_n 0, 1) := zo_42 (zd_b zq_code_20 4 rfl rfl rfl)
theorem d_Lw_law_645 : decode code 645 = .ok (.iload 5, 2) := zo_21 (d := 5) (zd_b zq_code_20 5 rfl rfl rfl) (zd_b zq_code_20 6 rfl rfl rfl)
theorem d_Lw_law_647 : decode code 647 = .ok (.iconst 4, 1) := zo_7 (zd_b zq_code_20 7 rfl rfl rfl)
theorem d_Lw_law_648 : decode code 648 = .ok (.iadd, 1) := zo_96 (zd_b zq_code_20 8 rfl rfl rfl)
theorem d_Lw_law_649 : decode code 649 = .ok (.iaload, 1) := zo_46 (zd_b zq_code_20 9 rfl rfl rfl)
theorem d_Lw_law_650 : decode code 650 = .ok (.invokevirtual 216, 3) := zo_182 (d := 0) (e := 216) (zd_b zq_code_20 10 rfl rfl rfl) (zd_b zq_code_20 11 rfl rfl rfl) (zd_b zq_code_20 12 rfl rfl rfl)
theorem ok_Lw_law_Mm_heatAt : z_ok M_Lw_law M_Mm_heatAt 4 := ⟨z_mj8 (i := 60) rfl (by decide +kernel), rfl, ⟨by decide +kernel, by decide +kernel, by decide +kernel⟩, ⟨by decide, by decide⟩, z_mj1 (i := 14) rfl (by decide +kernel), rfl⟩
theorem ln_Lw_216 : Cond.methodLink "IronpourLaw" 216 M_Mm_heatAt.1 ∈ z_gw := z_mj8 (i := 57) rfl (by decide +kernel)
theorem w_im_Mm_heatAt : Cond.instanceMethod M_Mm_heatAt.1 ∈ z_gw := z_mj8 (i := 58) rfl (by decide +kernel)
theorem w_se_Mm_heatAt : Cond.selects M_Mm_heatAt.1.cls M_Mm_heatAt.1 M_Mm_heatAt.1 ∈ z_gw := z_mj8 (i := 59) rfl (by decide +kernel)
theorem d_Lw_law_653 : decode code 653 = .ok (.istore 7, 2) := zo_54 (d := 7) (zd_b zq_code_20 13 rfl rfl rfl) (zd_b zq_code_20 14 rfl rfl rfl)
theorem d_Lw_law_655 : decode code 655 = .ok (.goto 1153, 3) := zo_167 (d := 4) (e := 129) (zd_b zq_code_20 15 rfl rfl rfl) (zd_b zq_code_20 16 rfl rfl rfl) (zd_b zq_code_20 17 rfl rfl rfl) (by decide +kernel)
set_option maxHeartbeats 4000000 in
set_option maxRecDepth 100000 in
theorem LC_heatAt {g : zG} {ad : Nat → Nat} {t : zTT} {u : zNN} {w : zW} {j : Nat} (hI : IVm g ad t u w) (hR : REL t u.1 (48 * j)) {r : Nat} (hJ : 7 * j + 7 ≤ g.2.2 41) (hL : g.2.2 41 ≤ 3584) (ih : LWI g ad j r) : DW g M_Lw_law lwQ w 594 [(5, .int (nI (7 * j))), (4, .ref (ad 70)), (3, .ref (ad 69)), (2, .ref (ad 52)), (1, .ref (ad 0)), (0, .ref (g.2.2 40))] [] (100 * (r + 1)) (1000 * (r + 1)) := by
  refine y_base (cs := []) (z_I.nil w) ?_
  refine y_aload_n d_Lw_law_594 rfl 4 rfl ?_
  refine y_aload_n d_Lw_law_595 rfl 5 rfl ?_
  refine y_iload d_Lw_law_596 0 rfl ?_
  refine y_iconst d_Lw_law_598 (v := 1) (by decide) ?_
  refine y_iadd d_Lw_law_599 (v := nI ((7 * j) + 1)) (nI_add _ _) ?_
  refine y_sld (v := zs g (7 * j + 1)) d_Lw_law_600 (vp_in_nI (by omega) (by omega)) (by rw [nI_clamp (by omega)]; rfl) ?_
  refine y_aload_n d_Lw_law_601 rfl 5 rfl ?_
  refine y_iload d_Lw_law_602 0 rfl ?_
  refine y_iconst d_Lw_law_604 (v := 2) (by decide) ?_
  refine y_iadd d_Lw_law_605 (v := nI ((7 * j) + 2)) (nI_add _ _) ?_
  refine y_sld (v := zs g (7 * j + 2)) d_Lw_law_606 (vp_in_nI (by omega) (by omega)) (by rw [nI_clamp (by omega)]; rfl) ?_
  refine y_aload_n d_Lw_law_607 rfl 5 rfl ?_
  refine y_iload d_Lw_law_608 0 rfl ?_
  refine y_iconst d_Lw_law_610 (v := 3) (by decide) ?_
  refine y_iadd d_Lw_law_611 (v := nI ((7 * j) + 3)) (nI_add _ _) ?_
  refine y_sld (v := zs g (7 * j + 3)) d_Lw_law_612 (vp_in_nI (by omega) (by omega)) (by rw [nI_clamp (by omega)]; rfl) ?_
  refine y_aload_n d_Lw_law_613 rfl 5 rfl ?_
  refine y_iload d_Lw_law_614 0 rfl ?_
  refine y_iconst d_Lw_law_616 (v := 4) (by decide) ?_
  refine y_iadd d_Lw_law_617 (v := nI ((7 * j) + 4)) (nI_add _ _) ?_
  refine y_sld (v := zs g (7 * j + 4)) d_Lw_law_618 (vp_in_nI (by omega) (by omega)) (by rw [nI_clamp (by omega)]; rfl) ?_
  refine y_aload_n d_Lw_law_619 rfl 2 rfl ?_
  refine yw_callSX (As := [.ref (ad 0), .int (zs g (7 * j + 1)), .int (zs g (7 * j + 2)), .int (zs g (7 * j + 3)), .int (zs g (7 * j + 4)), .ref (ad 69)]) (rest := []) ln_Lw_213 w_st_Lw_heatAt ok_Lw_law_Lw_heatAt d_Lw_law_620 (fun wA hA => W_heatAt (IVm.nil hA hI) _ _ _ _) rfl rfl (Nat.le_of_ble_eq_true rfl) (by omega) (by omega) (fun wA620 hA620 E wB620 hx => ?_) (fun wA620 hA620 v wB620 hx => ?_)
  · obtain ⟨⟨v9, e1⟩, -⟩ := hx
    cases e1
  · obtain ⟨⟨v9, e1⟩, uC, huC, hI2⟩ := hx
    cases e1
    refine yw_st (st2 := [.int v9]) rfl ?_
    have hI := hI2
    refine y_base (cs := []) (z_I.nil _) ?_
    refine y_istore (lv' := [(6, .int v9), (5, .int (nI (7 * j))), (4, .ref (ad 70)), (3, .ref (ad 69)), (2, .ref (ad 52)), (1, .ref (ad 0)), (0, .ref (g.2.2 40))]) d_Lw_law_623 (by decide) rfl ?_
    refine y_aload_n d_Lw_law_625 rfl 4 rfl ?_
    refine y_aload_n d_Lw_law_626 rfl 6 rfl ?_
    refine y_iload d_Lw_law_627 1 rfl ?_
    refine y_iconst d_Lw_law_629 (v := 1) (by decide) ?_
    refine y_iadd d_Lw_law_630 (v := nI ((7 * j) + 1)) (nI_add _ _) ?_
    refine y_sld (v := zs g (7 * j + 1)) d_Lw_law_631 (vp_in_nI (by omega) (by omega)) (by rw [nI_clamp (by omega)]; rfl) ?_
    refine y_aload_n d_Lw_law_632 rfl 6 rfl ?_
    refine y_iload d_Lw_law_633 1 rfl ?_
    refine y_iconst d_Lw_law_635 (v := 2) (by decide) ?_
    refine y_iadd d_Lw_law_636 (v := nI ((7 * j) + 2)) (nI_add _ _) ?_
    refine y_sld (v := zs g (7 * j + 2)) d_Lw_law_637 (vp_in_nI (by omega) (by omega)) (by rw [nI_clamp (by omega)]; rfl) ?_
    refine y_aload_n d_Lw_law_638 rfl 6 rfl ?_
    refine y_iload d_Lw_law_639 1 rfl ?_
    refine y_iconst d_Lw_law_641 (v := 3) (by decide) ?_
    refine y_iadd d_Lw_law_642 (v := nI ((7 * j) + 3)) (nI_add _ _) ?_
    refine y_sld (v := zs g (7 * j + 3)) d_Lw_law_643 (vp_in_nI (by omega) (by omega)) (by rw [nI_clamp (by omega)]; rfl) ?_
    refine y_aload_n d_Lw_law_644 rfl 6 rfl ?_
    refine y_iload d_Lw_law_645 1 rfl ?_
    refine y_iconst d_Lw_law_647 (v := 4) (by decide) ?_
    refine y_iadd d_Lw_law_648 (v := nI ((7 * j) + 4)) (nI_add _ _) ?_
    refine y_sld (v := zs g (7 * j + 4)) d_Lw_law_649 (vp_in_nI (by omega) (by omega)) (by rw [nI_clamp (by omega)]; rfl) ?_
    refine yw_callVL (As := [.int (zs g (7 * j + 1)), .int (zs g (7 * j + 2)), .int (zs g (7 * j + 3)), .int (zs g (7 * j + 4))]) (rest := []) (ci := 12) rfl (fun wA hA => (IVm.nil hA hI).rm) ln_Lw_216 w_im_Mm_heatAt w_se_Mm_heatAt ok_Lw_law_Mm_heatAt d_Lw_law_650 (fun wA hA => K_Mm_heatAt (IVm.nil hA hI) _ _ _ _) rfl rfl (Nat.le_of_ble_eq_true rfl) (by omega) (by omega) (fun wA650 hA650 E wB650 hx => ?_) (fun wA650 hA650 v wB650 hx => ?_)
    · obtain ⟨⟨v8, e1⟩, -⟩ := hx
      cases e1
    · obtain ⟨⟨v8, e1⟩, uM, huM, hI2⟩ := hx
      cases e1
      refine yw_st (st2 := [.int v8]) rfl ?_
      have hI := hI2
      refine y_base (cs := []) (z_I.nil _) ?_
      refine y_istore (lv' := [(7, .int v8), (6, .int v9), (5, .int (nI (7 * j))), (4, .ref (ad 70)), (3, .ref (ad 69)), (2, .ref (ad 52)), (1, .ref (ad 0)), (0, .ref (g.2.2 40))]) d_Lw_law_653 (by decide) rfl ?_
      refine y_goto (tgt := 1808) d_Lw_law_655 (by decide) ?_
      refine y_lv (lv' := [(5, .int (nI (7 * j))), (4, .ref (ad 70)), (3, .ref (ad 69)), (2, .ref (ad 52)), (1, .ref (ad 0)), (0, .ref (g.2.2 40))]) [2, 3, 4, 5, 6, 7] rfl ?_
      refine y_end (fun wC hC => ?_)
      exact LC_next (IVm.nil hC hI) ((hR.n (huM.trans huC)).up (by omega)) hJ hL ih (by omega) (by omega)
theorem d_Lw_law_658 : decode code 658 = .ok (.aload_n 1, 1) := zo_43 (zd_b zq_code_20 18 rfl rfl rfl)
theorem d_Lw_law_659 : decode code 659 = .ok (.aload_n 0, 1) := zo_42 (zd_b zq_code_20 19 rfl rfl rfl)
theorem d_Lw_law_660 : decode code 660 = .ok (.iload 5, 2) := zo_21 (d := 5) (zd_b zq_code_20 20 rfl rfl rfl) (zd_b zq_code_20 21 rfl rfl rfl)
theorem d_Lw_law_662 : decode code 662 = .ok (.iconst 1, 1) := zo_4 (zd_b zq_code_20 22 rfl rfl rfl)
theorem d_Lw_law_663 : decode code 663 = .ok (.iadd, 1) := zo_96 (zd_b zq_code_20 23 rfl rfl rfl)
theorem d_Lw_law_664 : decode code 664 = .ok (.iaload, 1) := zo_46 (zd_b zq_code_20 24 rfl rfl rfl)
theorem d_Lw_law_665 : decode code 665 = .ok (.aload_n 0, 1) := zo_42 (zd_b zq_code_20 25 rfl rfl rfl)
theorem d_Lw_law_666 : decode code 666 = .ok (.iload 5, 2) := zo_21 (d := 5) (zd_b zq_code_20 26 rfl rfl rfl) (zd_b zq_code_20 27 rfl rfl rfl)
theorem d_Lw_law_668 : decode code 668 = .ok (.iconst 2, 1) := zo_5 (zd_b zq_code_20 28 rfl rfl rfl)
theorem d_Lw_law_669 : decode code 669 = .ok (.iadd, 1) := zo_96 (zd_b zq_code_20 29 rfl rfl rfl)
theorem d_Lw_law_670 : decode code 670 = .ok (.iaload, 1) := zo_46 (zd_b zq_code_20 30 rfl rfl rfl)
theorem d_Lw_law_671 : decode code 671 = .ok (.aload_n 0, 1) := zo_42 (zd_b zq_code_20 31 rfl rfl rfl)
theorem d_Lw_law_672 : decode code 672 = .ok (.iload 5, 2) := zo_21 (d := 5) (zd_b zq_code_21 0 rfl rfl rfl) (zd_b zq_code_21 1 rfl rfl rfl)
theorem d_Lw_law_674 : decode code 674 = .ok (.iconst 3, 1) := zo_6 (zd_b zq_code_21 2 rfl rfl rfl)
theorem d_Lw_law_675 : decode code 675 = .ok (.iadd, 1) := zo_96 (zd_b zq_code_21 3 rfl rfl rfl)
theorem d_Lw_law_676 : decode code 676 = .ok (.iaload, 1) := zo_46 (zd_b zq_code_21 4 rfl rfl rfl)
theorem d_Lw_law_677 : decode code 677 = .ok (.aload_n 3, 1) := zo_45 (zd_b zq_code_21 5 rfl rfl rfl)
theorem d_Lw_law_678 : decode code 678 = .ok (.invokestatic 217, 3) := zo_184 (d := 0) (e := 217) (zd_b zq_code_21 6 rfl rfl rfl) (zd_b zq_code_21 7 rfl rfl rfl) (zd_b zq_code_21 8 rfl rfl rfl)
theorem ok_Lw_law_Lw_isFed : z_okX M_Lw_law M_Lw_isFed 5 := ⟨z_mj4 (i := 113) rfl (by decide +kernel), by decide, ⟨by decide +kernel, by decide +kernel, by decide +kernel⟩, ⟨by decide, by decide⟩, z_mj1 (i := 0) rfl (by decide +kernel), rfl⟩
theorem ln_Lw_217 : Cond.methodLink "IronpourLaw" 217 M_Lw_isFed.1 ∈ z_gw := z_mj4 (i := 111) rfl (by decide +kernel)
theorem w_st_Lw_isFed : Cond.static M_Lw_isFed.1 ∈ z_gw := z_mj4 (i := 112) rfl (by decide +kernel)
theorem d_Lw_law_681 : decode code 681 = .ok (.istore 6, 2) := zo_54 (d := 6) (zd_b zq_code_21 9 rfl rfl rfl) (zd_b zq_code_21 10 rfl rfl rfl)
theorem d_Lw_law_683 : decode code 683 = .ok (.aload_n 2, 1) := zo_44 (zd_b zq_code_21 11 rfl rfl rfl)
theorem d_Lw_law_684 : decode code 684 = .ok (.aload_n 0, 1) := zo_42 (zd_b zq_code_21 12 rfl rfl rfl)
theorem d_Lw_law_685 : decode code 685 = .ok (.iload 5, 2) := zo_21 (d := 5) (zd_b zq_code_21 13 rfl rfl rfl) (zd_b zq_code_21 14 rfl rfl rfl)
theorem d_Lw_law_687 : decode code 687 = .ok (.iconst 1, 1) := zo_4 (zd_b zq_code_21 15 rfl rfl rfl)
theorem d_Lw_law_688 : decode code 688 = .ok (.iadd, 1) := zo_96 (zd_b zq_code_21 16 rfl rfl rfl)
theorem d_Lw_law_689 : decode code 689 = .ok (.iaload, 1) := zo_46 (zd_b zq_code_21 17 rfl rfl rfl)
theorem d_Lw_law_690 : decode code 690 = .ok (.aload_n 0, 1) := zo_42 (zd_b zq_code_21 18 rfl rfl rfl)
theorem d_Lw_law_691 : decode code 691 = .ok (.iload 5, 2) := zo_21 (d := 5) (zd_b zq_code_21 19 rfl rfl rfl) (zd_b zq_code_21 20 rfl rfl rfl)
theorem d_Lw_law_693 : decode code 693 = .ok (.iconst 2, 1) := zo_5 (zd_b zq_code_21 21 rfl rfl rfl)
theorem d_Lw_law_694 : decode code 694 = .ok (.iadd, 1) := zo_96 (zd_b zq_code_21 22 rfl rfl rfl)
theorem d_Lw_law_695 : decode code 695 = .ok (.iaload, 1) := zo_46 (zd_b zq_code_21 23 rfl rfl rfl)
theorem d_Lw_law_696 : decode code 696 = .ok (.aload_n 0, 1) := zo_42 (zd_b zq_code_21 24 rfl rfl rfl)
theorem d_Lw_law_697 : decode code 697 = .ok (.iload 5, 2) := zo_21 (d := 5) (zd_b zq_code_21 25 rfl rfl rfl) (zd_b zq_code_21 26 rfl rfl rfl)
theorem d_Lw_law_699 : decode code 699 = .ok (.iconst 3, 1) := zo_6 (zd_b zq_code_21 27 rfl rfl rfl)
theorem d_Lw_law_700 : decode code 700 = .ok (.iadd, 1) := zo_96 (zd_b zq_code_21 28 rfl rfl rfl)
theorem d_Lw_law_701 : decode code 701 = .ok (.iaload, 1) := zo_46 (zd_b zq_code_21 29 rfl rfl rfl)
theorem d_Lw_law_702 : decode code 702 = .ok (.invokevirtual 219, 3) := zo_182 (d := 0) (e := 219) (zd_b zq_code_21 30 rfl rfl rfl) (zd_b zq_code_21 31 rfl rfl rfl) (zd_b zq_code_22 0 rfl rfl rfl)
theorem ok_Lw_law_Mm_isFed : z_ok M_Lw_law M_Mm_isFed 3 := ⟨z_mj8 (i := 64) rfl (by decide +kernel), rfl, ⟨by decide +kernel, by decide +kernel, by decide +kernel⟩, ⟨by decide, by decide⟩, z_mj1 (i := 14) rfl (by decide +kernel), rfl⟩
theorem ln_Lw_219 : Cond.methodLink "IronpourLaw" 219 M_Mm_isFed.1 ∈ z_gw := z_mj8 (i := 61) rfl (by decide +kernel)
theorem w_im_Mm_isFed : Cond.instanceMethod M_Mm_isFed.1 ∈ z_gw := z_mj8 (i := 62) rfl (by decide +kernel)
theorem w_se_Mm_isFed : Cond.selects M_Mm_isFed.1.cls M_Mm_isFed.1 M_Mm_isFed.1 ∈ z_gw := z_mj8 (i := 63) rfl (by decide +kernel)
theorem d_Lw_law_705 : decode code 705 = .ok (.istore 7, 2) := zo_54 (d := 7) (zd_b zq_code_22 1 rfl rfl rfl) (zd_b zq_code_22 2 rfl rfl rfl)
theorem d_Lw_law_707 : decode code 707 = .ok (.goto 1101, 3) := zo_167 (d := 4) (e := 77) (zd_b zq_code_22 3 rfl rfl rfl) (zd_b zq_code_22 4 rfl rfl rfl) (zd_b zq_code_22 5 rfl rfl rfl) (by decide +kernel)
set_option maxHeartbeats 4000000 in
set_option maxRecDepth 100000 in
theorem LC_isFed {g : zG} {ad : Nat → Nat} {t : zTT} {u : zNN} {w : zW} {j : Nat} (hI : IVm g ad t u w) (hR : REL t u.1 (48 * j)) {r : Nat} (hJ : 7 * j + 7 ≤ g.2.2 41) (hL : g.2.2 41 ≤ 3584) (ih : LWI g ad j r) : DW g M_Lw_law lwQ w 658 [(5, .int (nI (7 * j))), (4, .ref (ad 70)), (3, .ref (ad 69)), (2, .ref (ad 52)), (1, .ref (ad 0)), (0, .ref (g.2.2 40))] [] (100 * (r + 1)) (1000 * (r + 1)) := by
  refine y_base (cs := []) (z_I.nil w) ?_
  refine y_aload_n d_Lw_law_658 rfl 4 rfl ?_
  refine y_aload_n d_Lw_law_659 rfl 5 rfl ?_
  refine y_iload d_Lw_law_660 0 rfl ?_
  refine y_iconst d_Lw_law_662 (v := 1) (by decide) ?_
  refine y_iadd d_Lw_law_663 (v := nI ((7 * j) + 1)) (nI_add _ _) ?_
  refine y_sld (v := zs g (7 * j + 1)) d_Lw_law_664 (vp_in_nI (by omega) (by omega)) (by rw [nI_clamp (by omega)]; rfl) ?_
  refine y_aload_n d_Lw_law_665 rfl 5 rfl ?_
  refine y_iload d_Lw_law_666 0 rfl ?_
  refine y_iconst d_Lw_law_668 (v := 2) (by decide) ?_
  refine y_iadd d_Lw_law_669 (v := nI ((7 * j) + 2)) (nI_add _ _) ?_
  refine y_sld (v := zs g (7 * j + 2)) d_Lw_law_670 (vp_in_nI (by omega) (by omega)) (by rw [nI_clamp (by omega)]; rfl) ?_
  refine y_aload_n d_Lw_law_671 rfl 5 rfl ?_
  refine y_iload d_Lw_law_672 0 rfl ?_
  refine y_iconst d_Lw_law_674 (v := 3) (by decide) ?_
  refine y_iadd d_Lw_law_675 (v := nI ((7 * j) + 3)) (nI_add _ _) ?_
  refine y_sld (v := zs g (7 * j + 3)) d_Lw_law_676 (vp_in_nI (by omega) (by omega)) (by rw [nI_clamp (by omega)]; rfl) ?_
  refine y_aload_n d_Lw_law_677 rfl 2 rfl ?_
  refine yw_callSX (As := [.ref (ad 0), .int (zs g (7 * j + 1)), .int (zs g (7 * j + 2)), .int (zs g (7 * j + 3)), .ref (ad 69)]) (rest := []) ln_Lw_217 w_st_Lw_isFed ok_Lw_law_Lw_isFed d_Lw_law_678 (fun wA hA => W_isFed (IVm.nil hA hI) _ _ _) rfl rfl (Nat.le_of_ble_eq_true rfl) (by omega) (by omega) (fun wA678 hA678 E wB678 hx => ?_) (fun wA678 hA678 v wB678 hx => ?_)
  · obtain ⟨⟨v9, e1⟩, -⟩ := hx
    cases e1
  · obtain ⟨⟨v9, e1⟩, uC, huC, hI2⟩ := hx
    cases e1
    refine yw_st (st2 := [.int v9]) rfl ?_
    have hI := hI2
    refine y_base (cs := []) (z_I.nil _) ?_
    refine y_istore (lv' := [(6, .int v9), (5, .int (nI (7 * j))), (4, .ref (ad 70)), (3, .ref (ad 69)), (2, .ref (ad 52)), (1, .ref (ad 0)), (0, .ref (g.2.2 40))]) d_Lw_law_681 (by decide) rfl ?_
    refine y_aload_n d_Lw_law_683 rfl 4 rfl ?_
    refine y_aload_n d_Lw_law_684 rfl 6 rfl ?_
    refine y_iload d_Lw_law_685 1 rfl ?_
    refine y_iconst d_Lw_law_687 (v := 1) (by decide) ?_
    refine y_iadd d_Lw_law_688 (v := nI ((7 * j) + 1)) (nI_add _ _) ?_
    refine y_sld (v := zs g (7 * j + 1)) d_Lw_law_689 (vp_in_nI (by omega) (by omega)) (by rw [nI_clamp (by omega)]; rfl) ?_
    refine y_aload_n d_Lw_law_690 rfl 6 rfl ?_
    refine y_iload d_Lw_law_691 1 rfl ?_
    refine y_iconst d_Lw_law_693 (v := 2) (by decide) ?_
    refine y_iadd d_Lw_law_694 (v := nI ((7 * j) + 2)) (nI_add _ _) ?_
    refine y_sld (v := zs g (7 * j + 2)) d_Lw_law_695 (vp_in_nI (by omega) (by omega)) (by rw [nI_clamp (by omega)]; rfl) ?_
    refine y_aload_n d_Lw_law_696 rfl 6 rfl ?_
    refine y_iload d_Lw_law_697 1 rfl ?_
    refine y_iconst d_Lw_law_699 (v := 3) (by decide) ?_
    refine y_iadd d_Lw_law_700 (v := nI ((7 * j) + 3)) (nI_add _ _) ?_
    refine y_sld (v := zs g (7 * j + 3)) d_Lw_law_701 (vp_in_nI (by omega) (by omega)) (by rw [nI_clamp (by omega)]; rfl) ?_
    refine yw_callVL (As := [.int (zs g (7 * j + 1)), .int (zs g (7 * j + 2)), .int (zs g (7 * j + 3))]) (rest := []) (ci := 12) rfl (fun wA hA => (IVm.nil hA hI).rm) ln_Lw_219 w_im_Mm_isFed w_se_Mm_isFed ok_Lw_law_Mm_isFed d_Lw_law_702 (fun wA hA => K_Mm_isFed (IVm.nil hA hI) _ _ _) rfl rfl (Nat.le_of_ble_eq_true rfl) (by omega) (by omega) (fun wA702 hA702 E wB702 hx => ?_) (fun wA702 hA702 v wB702 hx => ?_)
    · obtain ⟨⟨v8, e1⟩, -⟩ := hx
      cases e1
    · obtain ⟨⟨v8, e1⟩, uM, huM, hI2⟩ := hx
      cases e1
      refine yw_st (st2 := [.int v8]) rfl ?_
      have hI := hI2
      refine y_base (cs := []) (z_I.nil _) ?_
      refine y_istore (lv' := [(7, .int v8), (6, .int v9), (5, .int (nI (7 * j))), (4, .ref (ad 70)), (3, .ref (ad 69)), (2, .ref (ad 52)), (1, .ref (ad 0)), (0, .ref (g.2.2 40))]) d_Lw_law_705 (by decide) rfl ?_
      refine y_goto (tgt := 1808) d_Lw_law_707 (by decide) ?_
      refine y_lv (lv' := [(5, .int (nI (7 * j))), (4, .ref (ad 70)), (3, .ref (ad 69)), (2, .ref (ad 52)), (1, .ref (ad 0)), (0, .ref (g.2.2 40))]) [2, 3, 4, 5, 6, 7] rfl ?_
      refine y_end (fun wC hC => ?_)
      exact LC_next (IVm.nil hC hI) ((hR.n (huM.trans huC)).up (by omega)) hJ hL ih (by omega) (by omega)
theorem d_Lw_law_710 : decode code 710 = .ok (.aload_n 1, 1) := zo_43 (zd_b zq_code_22 6 rfl rfl rfl)
theorem d_Lw_law_711 : decode code 711 = .ok (.aload_n 0, 1) := zo_42 (zd_b zq_code_22 7 rfl rfl rfl)
theorem d_Lw_law_712 : decode code 712 = .ok (.iload 5, 2) := zo_21 (d := 5) (zd_b zq_code_22 8 rfl rfl rfl) (zd_b zq_code_22 9 rfl rfl rfl)
theorem d_Lw_law_714 : decode code 714 = .ok (.iconst 1, 1) := zo_4 (zd_b zq_code_22 10 rfl rfl rfl)
theorem d_Lw_law_715 : decode code 715 = .ok (.iadd, 1) := zo_96 (zd_b zq_code_22 11 rfl rfl rfl)
theorem d_Lw_law_716 : decode code 716 = .ok (.iaload, 1) := zo_46 (zd_b zq_code_22 12 rfl rfl rfl)
theorem d_Lw_law_717 : decode code 717 = .ok (.aload_n 3, 1) := zo_45 (zd_b zq_code_22 13 rfl rfl rfl)
theorem d_Lw_law_718 : decode code 718 = .ok (.invokestatic 220, 3) := zo_184 (d := 0) (e := 220) (zd_b zq_code_22 14 rfl rfl rfl) (zd_b zq_code_22 15 rfl rfl rfl) (zd_b zq_code_22 16 rfl rfl rfl)
theorem ok_Lw_law_Lw_shrunk : z_okX M_Lw_law M_Lw_shrunk 3 := ⟨z_mj4 (i := 120) rfl (by decide +kernel), by decide, ⟨by decide +kernel, by decide +kernel, by decide +kernel⟩, ⟨by decide, by decide⟩, z_mj1 (i := 0) rfl (by decide +kernel), rfl⟩
theorem ln_Lw_220 : Cond.methodLink "IronpourLaw" 220 M_Lw_shrunk.1 ∈ z_gw := z_mj4 (i := 118) rfl (by decide +kernel)
theorem w_st_Lw_shrunk : Cond.static M_Lw_shrunk.1 ∈ z_gw := z_mj4 (i := 119) rfl (by decide +kernel)
theorem d_Lw_law_721 : decode code 721 = .ok (.istore 6, 2) := zo_54 (d := 6) (zd_b zq_code_22 17 rfl rfl rfl) (zd_b zq_code_22 18 rfl rfl rfl)
theorem d_Lw_law_723 : decode code 723 = .ok (.aload_n 2, 1) := zo_44 (zd_b zq_code_22 19 rfl rfl rfl)
theorem d_Lw_law_724 : decode code 724 = .ok (.aload_n 0, 1) := zo_42 (zd_b zq_code_22 20 rfl rfl rfl)
theorem d_Lw_law_725 : decode code 725 = .ok (.iload 5, 2) := zo_21 (d := 5) (zd_b zq_code_22 21 rfl rfl rfl) (zd_b zq_code_22 22 rfl rfl rfl)
theorem d_Lw_law_727 : decode code 727 = .ok (.iconst 1, 1) := zo_4 (zd_b zq_code_22 23 rfl rfl rfl)
theorem d_Lw_law_728 : decode code 728 = .ok (.iadd, 1) := zo_96 (zd_b zq_code_22 24 rfl rfl rfl)
theorem d_Lw_law_729 : decode code 729 = .ok (.iaload, 1) := zo_46 (zd_b zq_code_22 25 rfl rfl rfl)
theorem d_Lw_law_730 : decode code 730 = .ok (.invokevirtual 222, 3) := zo_182 (d := 0) (e := 222) (zd_b zq_code_22 26 rfl rfl rfl) (zd_b zq_code_22 27 rfl rfl rfl) (zd_b zq_code_22 28 rfl rfl rfl)
theorem ok_Lw_law_Mm_shrunk : z_ok M_Lw_law M_Mm_shrunk 1 := ⟨z_mj8 (i := 72) rfl (by decide +kernel), rfl, ⟨by decide +kernel, by decide +kernel, by decide +kernel⟩, ⟨by decide, by decide⟩, z_mj1 (i := 14) rfl (by decide +kernel), rfl⟩
theorem ln_Lw_222 : Cond.methodLink "IronpourLaw" 222 M_Mm_shrunk.1 ∈ z_gw := z_mj8 (i := 69) rfl (by decide +kernel)
theorem w_im_Mm_shrunk : Cond.instanceMethod M_Mm_shrunk.1 ∈ z_gw := z_mj8 (i := 70) rfl (by decide +kernel)
theorem w_se_Mm_shrunk : Cond.selects M_Mm_shrunk.1.cls M_Mm_shrunk.1 M_Mm_shrunk.1 ∈ z_gw := z_mj8 (i := 71) rfl (by decide +kernel)
theorem d_Lw_law_733 : decode code 733 = .ok (.istore 7, 2) := zo_54 (d := 7) (zd_b zq_code_22 29 rfl rfl rfl) (zd_b zq_code_22 30 rfl rfl rfl)
theorem d_Lw_law_735 : decode code 735 = .ok (.goto 1073, 3) := zo_167 (d := 4) (e := 49) (zd_b zq_code_22 31 rfl rfl rfl) (zd_b zq_code_23 0 rfl rfl rfl) (zd_b zq_code_23 1 rfl rfl rfl) (by decide +kernel)
set_option maxHeartbeats 4000000 in
set_option maxRecDepth 100000 in
theorem LC_shrunk {g : zG} {ad : Nat → Nat} {t : zTT} {u : zNN} {w : zW} {j : Nat} (hI : IVm g ad t u w) (hR : REL t u.1 (48 * j)) {r : Nat} (hJ : 7 * j + 7 ≤ g.2.2 41) (hL : g.2.2 41 ≤ 3584) (ih : LWI g ad j r) : DW g M_Lw_law lwQ w 710 [(5, .int (nI (7 * j))), (4, .ref (ad 70)), (3, .ref (ad 69)), (2, .ref (ad 52)), (1, .ref (ad 0)), (0, .ref (g.2.2 40))] [] (100 * (r + 1)) (1000 * (r + 1)) := by
  refine y_base (cs := []) (z_I.nil w) ?_
  refine y_aload_n d_Lw_law_710 rfl 4 rfl ?_
  refine y_aload_n d_Lw_law_711 rfl 5 rfl ?_
  refine y_iload d_Lw_law_712 0 rfl ?_
  refine y_iconst d_Lw_law_714 (v := 1) (by decide) ?_
  refine y_iadd d_Lw_law_715 (v := nI ((7 * j) + 1)) (nI_add _ _) ?_
  refine y_sld (v := zs g (7 * j + 1)) d_Lw_law_716 (vp_in_nI (by omega) (by omega)) (by rw [nI_clamp (by omega)]; rfl) ?_
  refine y_aload_n d_Lw_law_717 rfl 2 rfl ?_
  refine yw_callSX (As := [.ref (ad 0), .int (zs g (7 * j + 1)), .ref (ad 69)]) (rest := []) ln_Lw_220 w_st_Lw_shrunk ok_Lw_law_Lw_shrunk d_Lw_law_718 (fun wA hA => W_shrunk (IVm.nil hA hI) _) rfl rfl (Nat.le_of_ble_eq_true rfl) (by omega) (by omega) (fun wA718 hA718 E wB718 hx => ?_) (fun wA718 hA718 v wB718 hx => ?_)
  · obtain ⟨⟨v9, e1⟩, -⟩ := hx
    cases e1
  · obtain ⟨⟨v9, e1⟩, uC, huC, hI2⟩ := hx
    cases e1
    refine yw_st (st2 := [.int v9]) rfl ?_
    have hI := hI2
    refine y_base (cs := []) (z_I.nil _) ?_
    refine y_istore (lv' := [(6, .int v9), (5, .int (nI (7 * j))), (4, .ref (ad 70)), (3, .ref (ad 69)), (2, .ref (ad 52)), (1, .ref (ad 0)), (0, .ref (g.2.2 40))]) d_Lw_law_721 (by decide) rfl ?_
    refine y_aload_n d_Lw_law_723 rfl 4 rfl ?_
    refine y_aload_n d_Lw_law_724 rfl 6 rfl ?_
    refine y_iload d_Lw_law_725 1 rfl ?_
    refine y_iconst d_Lw_law_727 (v := 1) (by decide) ?_
    refine y_iadd d_Lw_law_728 (v := nI ((7 * j) + 1)) (nI_add _ _) ?_
    refine y_sld (v := zs g (7 * j + 1)) d_Lw_law_729 (vp_in_nI (by omega) (by omega)) (by rw [nI_clamp (by omega)]; rfl) ?_
    refine yw_callVL (As := [.int (zs g (7 * j + 1))]) (rest := []) (ci := 12) rfl (fun wA hA => (IVm.nil hA hI).rm) ln_Lw_222 w_im_Mm_shrunk w_se_Mm_shrunk ok_Lw_law_Mm_shrunk d_Lw_law_730 (fun wA hA => K_Mm_shrunk (IVm.nil hA hI) _) rfl rfl (Nat.le_of_ble_eq_true rfl) (by omega) (by omega) (fun wA730 hA730 E wB730 hx => ?_) (fun wA730 hA730 v wB730 hx => ?_)
    · obtain ⟨⟨v8, e1⟩, -⟩ := hx
      cases e1
    · obtain ⟨⟨v8, e1⟩, uM, huM, hI2⟩ := hx
      cases e1
      refine yw_st (st2 := [.int v8]) rfl ?_
      have hI := hI2
      refine y_base (cs := []) (z_I.nil _) ?_
      refine y_istore (lv' := [(7, .int v8), (6, .int v9), (5, .int (nI (7 * j))), (4, .ref (ad 70)), (3, .ref (ad 69)), (2, .ref (ad 52)), (1, .ref (ad 0)), (0, .ref (g.2.2 40))]) d_Lw_law_733 (by decide) rfl ?_
      refine y_goto (tgt := 1808) d_Lw_law_735 (by decide) ?_
      refine y_lv (lv' := [(5, .int (nI (7 * j))), (4, .ref (ad 70)), (3, .ref (ad 69)), (2, .ref (ad 52)), (1, .ref (ad 0)), (0, .ref (g.2.2 40))]) [2, 3, 4, 5, 6, 7] rfl ?_
      refine y_end (fun wC hC => ?_)
      exact LC_next (IVm.nil hC hI) ((hR.n (huM.trans huC)).up (by omega)) hJ hL ih (by omega) (by omega)
theorem d_Lw_law_738 : decode code 738 = .ok (.aload_n 1, 1) := zo_43 (zd_b zq_code_23 2 rfl rfl rfl)
theorem d_Lw_law_739 : decode code 739 = .ok (.aload_n 0, 1) := zo_42 (zd_b zq_code_23 3 rfl rfl rfl)
theorem d_Lw_law_740 : decode code 740 = .ok (.iload 5, 2) := zo_21 (d := 5) (zd_b zq_code_23 4 rfl rfl rfl) (zd_b zq_code_23 5 rfl rfl rfl)
theorem d_Lw_law_742 : decode code 742 = .ok (.iconst 1, 1) := zo_4 (zd_b zq_code_23 6 rfl rfl rfl)
theorem d_Lw_law_743 : decode code 743 = .ok (.iadd, 1) := zo_96 (zd_b zq_code_23 7 rfl rfl rfl)
theorem d_Lw_law_744 : decode code 744 = .ok (.iaload, 1) := zo_46 (zd_b zq_code_23 8 rfl rfl rfl)
theorem d_Lw_law_745 : decode code 745 = .ok (.aload_n 3, 1) := zo_45 (zd_b zq_code_23 9 rfl rfl rfl)
theorem d_Lw_law_746 : decode code 746 = .ok (.invokestatic 223, 3) := zo_184 (d := 0) (e := 223) (zd_b zq_code_23 10 rfl rfl rfl) (zd_b zq_code_23 11 rfl rfl rfl) (zd_b zq_code_23 12 rfl rfl rfl)
theorem ok_Lw_law_Lw_shrunkAnew : z_okX M_Lw_law M_Lw_shrunkAnew 3 := ⟨z_mj4 (i := 131) rfl (by decide +kernel), by decide, ⟨by decide +kernel, by decide +kernel, by decide +kernel⟩, ⟨by decide, by decide⟩, z_mj1 (i := 0) rfl (by decide +kernel), rfl⟩
theorem ln_Lw_223 : Cond.methodLink "IronpourLaw" 223 M_Lw_shrunkAnew.1 ∈ z_gw := z_mj4 (i := 129) rfl (by decide +kernel)
theorem w_st_Lw_shrunkAnew : Cond.static M_Lw_shrunkAnew.1 ∈ z_gw := z_mj4 (i := 130) rfl (by decide +kernel)
theorem d_Lw_law_749 : decode code 749 = .ok (.istore 6, 2) := zo_54 (d := 6) (zd_b zq_code_23 13 rfl rfl rfl) (zd_b zq_code_23 14 rfl rfl rfl)
theorem d_Lw_law_751 : decode code 751 = .ok (.aload_n 2, 1) := zo_44 (zd_b zq_code_23 15 rfl rfl rfl)
theorem d_Lw_law_752 : decode code 752 = .ok (.aload_n 0, 1) := zo_42 (zd_b zq_code_23 16 rfl rfl rfl)
theorem d_Lw_law_753 : decode code 753 = .ok (.iload 5, 2) := zo_21 (d := 5) (zd_b zq_code_23 17 rfl rfl rfl) (zd_b zq_code_23 18 rfl rfl rfl)
theorem d_Lw_law_755 : decode code 755 = .ok (.iconst 1, 1) := zo_4 (zd_b zq_code_23 19 rfl rfl rfl)
theorem d_Lw_law_756 : decode code 756 = .ok (.iadd, 1) := zo_96 (zd_b zq_code_23 20 rfl rfl rfl)
theorem d_Lw_law_757 : decode code 757 = .ok (.iaload, 1) := zo_46 (zd_b zq_code_23 21 rfl rfl rfl)
theorem d_Lw_law_758 : decode code 758 = .ok (.invokevirtual 225, 3) := zo_182 (d := 0) (e := 225) (zd_b zq_code_23 22 rfl rfl rfl) (zd_b zq_code_23 23 rfl rfl rfl) (zd_b zq_code_23 24 rfl rfl rfl)
theorem ok_Lw_law_Mm_shrunkAnew : z_ok M_Lw_law M_Mm_shrunkAnew 1 := ⟨z_mj8 (i := 80) rfl (by decide +kernel), rfl, ⟨by decide +kernel, by decide +kernel, by decide +kernel⟩, ⟨by decide, by decide⟩, z_mj1 (i := 14) rfl (by decide +kernel), rfl⟩
theorem ln_Lw_225 : Cond.methodLink "IronpourLaw" 225 M_Mm_shrunkAnew.1 ∈ z_gw := z_mj8 (i := 77) rfl (by decide +kernel)
theorem w_im_Mm_shrunkAnew : Cond.instanceMethod M_Mm_shrunkAnew.1 ∈ z_gw := z_mj8 (i := 78) rfl (by decide +kernel)
theorem w_se_Mm_shrunkAnew : Cond.selects M_Mm_shrunkAnew.1.cls M_Mm_shrunkAnew.1 M_Mm_shrunkAnew.1 ∈ z_gw := z_mj8 (i := 79) rfl (by decide +kernel)
theorem d_Lw_law_761 : decode code 761 = .ok (.istore 7, 2) := zo_54 (d := 7) (zd_b zq_code_23 25 rfl rfl rfl) (zd_b zq_code_23 26 rfl rfl rfl)
theorem d_Lw_law_763 : decode code 763 = .ok (.goto 1045, 3) := zo_167 (d := 4) (e := 21) (zd_b zq_code_23 27 rfl rfl rfl) (zd_b zq_code_23 28 rfl rfl rfl) (zd_b zq_code_23 29 rfl rfl rfl) (by decide +kernel)
set_option maxHeartbeats 4000000 in
set_option maxRecDepth 100000 in
theorem LC_shrunkAnew {g : zG} {ad : Nat → Nat} {t : zTT} {u : zNN} {w : zW} {j : Nat} (hI : IVm g ad t u w) (hR : REL t u.1 (48 * j)) {r : Nat} (hJ : 7 * j + 7 ≤ g.2.2 41) (hL : g.2.2 41 ≤ 3584) (ih : LWI g ad j r) : DW g M_Lw_law lwQ w 738 [(5, .int (nI (7 * j))), (4, .ref (ad 70)), (3, .ref (ad 69)), (2, .ref (ad 52)), (1, .ref (ad 0)), (0, .ref (g.2.2 40))] [] (100 * (r + 1)) (1000 * (r + 1)) := by
  refine y_base (cs := []) (z_I.nil w) ?_
  refine y_aload_n d_Lw_law_738 rfl 4 rfl ?_
  refine y_aload_n d_Lw_law_739 rfl 5 rfl ?_
  refine y_iload d_Lw_law_740 0 rfl ?_
  refine y_iconst d_Lw_law_742 (v := 1) (by decide) ?_
  refine y_iadd d_Lw_law_743 (v := nI ((7 * j) + 1)) (nI_add _ _) ?_
  refine y_sld (v := zs g (7 * j + 1)) d_Lw_law_744 (vp_in_nI (by omega) (by omega)) (by rw [nI_clamp (by omega)]; rfl) ?_
  refine y_aload_n d_Lw_law_745 rfl 2 rfl ?_
  refine yw_callSX (As := [.ref (ad 0), .int (zs g (7 * j + 1)), .ref (ad 69)]) (rest := []) ln_Lw_223 w_st_Lw_shrunkAnew ok_Lw_law_Lw_shrunkAnew d_Lw_law_746 (fun wA hA => W_shrunkAnew (IVm.nil hA hI) _) rfl rfl (Nat.le_of_ble_eq_true rfl) (by omega) (by omega) (fun wA746 hA746 E wB746 hx => ?_) (fun wA746 hA746 v wB746 hx => ?_)
  · obtain ⟨⟨v9, e1⟩, -⟩ := hx
    cases e1
  · obtain ⟨⟨v9, e1⟩, uC, huC, hI2⟩ := hx
    cases e1
    refine yw_st (st2 := [.int v9]) rfl ?_
    have hI := hI2
    refine y_base (cs := []) (z_I.nil _) ?_
    refine y_istore (lv' := [(6, .int v9), (5, .int (nI (7 * j))), (4, .ref (ad 70)), (3, .ref (ad 69)), (2, .ref (ad 52)), (1, .ref (ad 0)), (0, .ref (g.2.2 40))]) d_Lw_law_749 (by decide) rfl ?_
    refine y_aload_n d_Lw_law_751 rfl 4 rfl ?_
    refine y_aload_n d_Lw_law_752 rfl 6 rfl ?_
    refine y_iload d_Lw_law_753 1 rfl ?_
    refine y_iconst d_Lw_law_755 (v := 1) (by decide) ?_
    refine y_iadd d_Lw_law_756 (v := nI ((7 * j) + 1)) (nI_add _ _) ?_
    refine y_sld (v := zs g (7 * j + 1)) d_Lw_law_757 (vp_in_nI (by omega) (by omega)) (by rw [nI_clamp (by omega)]; rfl) ?_
    refine yw_callVL (As := [.int (zs g (7 * j + 1))]) (rest := []) (ci := 12) rfl (fun wA hA => (IVm.nil hA hI).rm) ln_Lw_225 w_im_Mm_shrunkAnew w_se_Mm_shrunkAnew ok_Lw_law_Mm_shrunkAnew d_Lw_law_758 (fun wA hA => K_Mm_shrunkAnew (IVm.nil hA hI) _) rfl rfl (Nat.le_of_ble_eq_true rfl) (by omega) (by omega) (fun wA758 hA758 E wB758 hx => ?_) (fun wA758 hA758 v wB758 hx => ?_)
    · obtain ⟨⟨v8, e1⟩, -⟩ := hx
      cases e1
    · obtain ⟨⟨v8, e1⟩, uM, huM, hI2⟩ := hx
      cases e1
      refine yw_st (st2 := [.int v8]) rfl ?_
      have hI := hI2
      refine y_base (cs := []) (z_I.nil _) ?_
      refine y_istore (lv' := [(7, .int v8), (6, .int v9), (5, .int (nI (7 * j))), (4, .ref (ad 70)), (3, .ref (ad 69)), (2, .ref (ad 52)), (1, .ref (ad 0)), (0, .ref (g.2.2 40))]) d_Lw_law_761 (by decide) rfl ?_
      refine y_goto (tgt := 1808) d_Lw_law_763 (by decide) ?_
      refine y_lv (lv' := [(5, .int (nI (7 * j))), (4, .ref (ad 70)), (3, .ref (ad 69)), (2, .ref (ad 52)), (1, .ref (ad 0)), (0, .ref (g.2.2 40))]) [2, 3, 4, 5, 6, 7] rfl ?_
      refine y_end (fun wC hC => ?_)
      exact LC_next (IVm.nil hC hI) ((hR.n (huM.trans huC)).up (by omega)) hJ hL ih (by omega) (by omega)
theorem d_Lw_law_766 : decode code 766 = .ok (.aload_n 1, 1) := zo_43 (zd_b zq_code_23 30 rfl rfl rfl)
theorem d_Lw_law_767 : decode code 767 = .ok (.aload_n 0, 1) := zo_42 (zd_b zq_code_23 31 rfl rfl rfl)
theorem d_Lw_law_768 : decode code 768 = .ok (.iload 5, 2) := zo_21 (d := 5) (zd_b zq_code_24 0 rfl rfl rfl) (zd_b zq_code_24 1 rfl rfl rfl)
theorem d_Lw_law_770 : decode code 770 = .ok (.iconst 1, 1) := zo_4 (zd_b zq_code_24 2 rfl rfl rfl)
theorem d_Lw_law_771 : decode code 771 = .ok (.iadd, 1) := zo_96 (zd_b zq_code_24 3 rfl rfl rfl)
theorem d_Lw_law_772 : decode code 772 = .ok (.iaload, 1) := zo_46 (zd_b zq_code_24 4 rfl rfl rfl)
theorem d_Lw_law_773 : decode code 773 = .ok (.aload_n 3, 1) := zo_45 (zd_b zq_code_24 5 rfl rfl rfl)
theorem d_Lw_law_774 : decode code 774 = .ok (.invokestatic 226, 3) := zo_184 (d := 0) (e := 226) (zd_b zq_code_24 6 rfl rfl rfl) (zd_b zq_code_24 7 rfl rfl rfl) (zd_b zq_code_24 8 rfl rfl rfl)
theorem ok_Lw_law_Lw_lastPlace : z_okX M_Lw_law M_Lw_lastPlace 3 := ⟨z_mj4 (i := 142) rfl (by decide +kernel), by decide, ⟨by decide +kernel, by decide +kernel, by decide +kernel⟩, ⟨by decide, by decide⟩, z_mj1 (i := 0) rfl (by decide +kernel), rfl⟩
theorem ln_Lw_226 : Cond.methodLink "IronpourLaw" 226 M_Lw_lastPlace.1 ∈ z_gw := z_mj4 (i := 140) rfl (by decide +kernel)
theorem w_st_Lw_lastPlace : Cond.static M_Lw_lastPlace.1 ∈ z_gw := z_mj4 (i := 141) rfl (by decide +kernel)
theorem d_Lw_law_777 : decode code 777 = .ok (.istore 6, 2) := zo_54 (d := 6) (zd_b zq_code_24 9 rfl rfl rfl) (zd_b zq_code_24 10 rfl rfl rfl)
theorem d_Lw_law_779 : decode code 779 = .ok (.aload_n 2, 1) := zo_44 (zd_b zq_code_24 11 rfl rfl rfl)
theorem d_Lw_law_780 : decode code 780 = .ok (.aload_n 0, 1) := zo_42 (zd_b zq_code_24 12 rfl rfl rfl)
theorem d_Lw_law_781 : decode code 781 = .ok (.iload 5, 2) := zo_21 (d := 5) (zd_b zq_code_24 13 rfl rfl rfl) (zd_b zq_code_24 14 rfl rfl rfl)
theorem d_Lw_law_783 : decode code 783 = .ok (.iconst 1, 1) := zo_4 (zd_b zq_code_24 15 rfl rfl rfl)
theorem d_Lw_law_784 : decode code 784 = .ok (.iadd, 1) := zo_96 (zd_b zq_code_24 16 rfl rfl rfl)
theorem d_Lw_law_785 : decode code 785 = .ok (.iaload, 1) := zo_46 (zd_b zq_code_24 17 rfl rfl rfl)
theorem d_Lw_law_786 : decode code 786 = .ok (.invokevirtual 228, 3) := zo_182 (d := 0) (e := 228) (zd_b zq_code_24 18 rfl rfl rfl) (zd_b zq_code_24 19 rfl rfl rfl) (zd_b zq_code_24 20 rfl rfl rfl)
theorem ok_Lw_law_Mm_lastPlace : z_ok M_Lw_law M_Mm_lastPlace 1 := ⟨z_mj8 (i := 88) rfl (by decide +kernel), rfl, ⟨by decide +kernel, by decide +kernel, by decide +kernel⟩, ⟨by decide, by decide⟩, z_mj1 (i := 14) rfl (by decide +kernel), rfl⟩
theorem ln_Lw_228 : Cond.methodLink "IronpourLaw" 228 M_Mm_lastPlace.1 ∈ z_gw := z_mj8 (i := 85) rfl (by decide +kernel)
theorem w_im_Mm_lastPlace : Cond.instanceMethod M_Mm_lastPlace.1 ∈ z_gw := z_mj8 (i := 86) rfl (by decide +kernel)
theorem w_se_Mm_lastPlace : Cond.selects M_Mm_lastPlace.1.cls M_Mm_lastPlace.1 M_Mm_lastPlace.1 ∈ z_gw := z_mj8 (i := 87) rfl (by decide +kernel)
theorem d_Lw_law_789 : decode code 789 = .ok (.istore 7, 2) := zo_54 (d := 7) (zd_b zq_code_24 21 rfl rfl rfl) (zd_b zq_code_24 22 rfl rfl rfl)
theorem d_Lw_law_791 : decode code 791 = .ok (.goto 1017, 3) := zo_167 (d := 3) (e := 249) (zd_b zq_code_24 23 rfl rfl rfl) (zd_b zq_code_24 24 rfl rfl rfl) (zd_b zq_code_24 25 rfl rfl rfl) (by decide +kernel)
set_option maxHeartbeats 4000000 in
set_option maxRecDepth 100000 in
theorem LC_lastPlace {g : zG} {ad : Nat → Nat} {t : zTT} {u : zNN} {w : zW} {j : Nat} (hI : IVm g ad t u w) (hR : REL t u.1 (48 * j)) {r : Nat} (hJ : 7 * j + 7 ≤ g.2.2 41) (hL : g.2.2 41 ≤ 3584) (ih : LWI g ad j r) : DW g M_Lw_law lwQ w 766 [(5, .int (nI (7 * j))), (4, .ref (ad 70)), (3, .ref (ad 69)), (2, .ref (ad 52)), (1, .ref (ad 0)), (0, .ref (g.2.2 40))] [] (100 * (r + 1)) (1000 * (r + 1)) := by
  refine y_base (cs := []) (z_I.nil w) ?_
  refine y_aload_n d_Lw_law_766 rfl 4 rfl ?_
  refine y_aload_n d_Lw_law_767 rfl 5 rfl ?_
  refine y_iload d_Lw_law_768 0 rfl ?_
  refine y_iconst d_Lw_law_770 (v := 1) (by decide) ?_
  refine y_iadd d_Lw_law_771 (v := nI ((7 * j) + 1)) (nI_add _ _) ?_
  refine y_sld (v := zs g (7 * j + 1)) d_Lw_law_772 (vp_in_nI (by omega) (by omega)) (by rw [nI_clamp (by omega)]; rfl) ?_
  refine y_aload_n d_Lw_law_773 rfl 2 rfl ?_
  refine yw_callSX (As := [.ref (ad 0), .int (zs g (7 * j + 1)), .ref (ad 69)]) (rest := []) ln_Lw_226 w_st_Lw_lastPlace ok_Lw_law_Lw_lastPlace d_Lw_law_774 (fun wA hA => W_lastPlace (IVm.nil hA hI) _) rfl rfl (Nat.le_of_ble_eq_true rfl) (by omega) (by omega) (fun wA774 hA774 E wB774 hx => ?_) (fun wA774 hA774 v wB774 hx => ?_)
  · obtain ⟨⟨v9, e1⟩, -⟩ := hx
    cases e1
  · obtain ⟨⟨v9, e1⟩, uC, huC, hI2⟩ := hx
    cases e1
    refine yw_st (st2 := [.int v9]) rfl ?_
    have hI := hI2
    refine y_base (cs := []) (z_I.nil _) ?_
    refine y_istore (lv' := [(6, .int v9), (5, .int (nI (7 * j))), (4, .ref (ad 70)), (3, .ref (ad 69)), (2, .ref (ad 52)), (1, .ref (ad 0)), (0, .ref (g.2.2 40))]) d_Lw_law_777 (by decide) rfl ?_
    refine y_aload_n d_Lw_law_779 rfl 4 rfl ?_
    refine y_aload_n d_Lw_law_780 rfl 6 rfl ?_
    refine y_iload d_Lw_law_781 1 rfl ?_
    refine y_iconst d_Lw_law_783 (v := 1) (by decide) ?_
    refine y_iadd d_Lw_law_784 (v := nI ((7 * j) + 1)) (nI_add _ _) ?_
    refine y_sld (v := zs g (7 * j + 1)) d_Lw_law_785 (vp_in_nI (by omega) (by omega)) (by rw [nI_clamp (by omega)]; rfl) ?_
    refine yw_callVL (As := [.int (zs g (7 * j + 1))]) (rest := []) (ci := 12) rfl (fun wA hA => (IVm.nil hA hI).rm) ln_Lw_228 w_im_Mm_lastPlace w_se_Mm_lastPlace ok_Lw_law_Mm_lastPlace d_Lw_law_786 (fun wA hA => K_Mm_lastPlace (IVm.nil hA hI) _) rfl rfl (Nat.le_of_ble_eq_true rfl) (by omega) (by omega) (fun wA786 hA786 E wB786 hx => ?_) (fun wA786 hA786 v wB786 hx => ?_)
    · obtain ⟨⟨v8, e1⟩, -⟩ := hx
      cases e1
    · obtain ⟨⟨v8, e1⟩, uM, huM, hI2⟩ := hx
      cases e1
      refine yw_st (st2 := [.int v8]) rfl ?_
      have hI := hI2
      refine y_base (cs := []) (z_I.nil _) ?_
      refine y_istore (lv' := [(7, .int v8), (6, .int v9), (5, .int (nI (7 * j))), (4, .ref (ad 70)), (3, .ref (ad 69)), (2, .ref (ad 52)), (1, .ref (ad 0)), (0, .ref (g.2.2 40))]) d_Lw_law_789 (by decide) rfl ?_
      refine y_goto (tgt := 1808) d_Lw_law_791 (by decide) ?_
      refine y_lv (lv' := [(5, .int (nI (7 * j))), (4, .ref (ad 70)), (3, .ref (ad 69)), (2, .ref (ad 52)), (1, .ref (ad 0)), (0, .ref (g.2.2 40))]) [2, 3, 4, 5, 6, 7] rfl ?_
      refine y_end (fun wC hC => ?_)
      exact LC_next (IVm.nil hC hI) ((hR.n (huM.trans huC)).up (by omega)) hJ hL ih (by omega) (by omega)
theorem d_Lw_law_794 : decode code 794 = .ok (.aload_n 1, 1) := zo_43 (zd_b zq_code_24 26 rfl rfl rfl)
theorem d_Lw_law_795 : decode code 795 = .ok (.aload_n 0, 1) := zo_42 (zd_b zq_code_24 27 rfl rfl rfl)
theorem d_Lw_law_796 : decode code 796 = .ok (.iload 5, 2) := zo_21 (d := 5) (zd_b zq_code_24 28 rfl rfl rfl) (zd_b zq_code_24 29 rfl rfl rfl)
theorem d_Lw_law_798 : decode code 798 = .ok (.iconst 1, 1) := zo_4 (zd_b zq_code_24 30 rfl rfl rfl)
theorem d_Lw_law_799 : decode code 799 = .ok (.iadd, 1) := zo_96 (zd_b zq_code_24 31 rfl rfl rfl)
theorem d_Lw_law_800 : decode code 800 = .ok (.iaload, 1) := zo_46 (zd_b zq_code_25 0 rfl rfl rfl)
theorem d_Lw_law_801 : decode code 801 = .ok (.aload_n 3, 1) := zo_45 (zd_b zq_code_25 1 rfl rfl rfl)
theorem d_Lw_law_802 : decode code 802 = .ok (.invokestatic 229, 3) := zo_184 (d := 0) (e := 229) (zd_b zq_code_25 2 rfl rfl rfl) (zd_b zq_code_25 3 rfl rfl rfl) (zd_b zq_code_25 4 rfl rfl rfl)
theorem ok_Lw_law_Lw_bestFeeder : z_okX M_Lw_law M_Lw_bestFeeder 3 := ⟨z_mj4 (i := 154) rfl (by decide +kernel), by decide, ⟨by decide +kernel, by decide +kernel, by decide +kernel⟩, ⟨by decide, by decide⟩, z_mj1 (i := 0) rfl (by decide +kernel), rfl⟩
theorem ln_Lw_229 : Cond.methodLink "IronpourLaw" 229 M_Lw_bestFeeder.1 ∈ z_gw := z_mj4 (i := 152) rfl (by decide +kernel)
theorem w_st_Lw_bestFeeder : Cond.static M_Lw_bestFeeder.1 ∈ z_gw := z_mj4 (i := 153) rfl (by decide +kernel)
theorem d_Lw_law_805 : decode code 805 = .ok (.istore 6, 2) := zo_54 (d := 6) (zd_b zq_code_25 5 rfl rfl rfl) (zd_b zq_code_25 6 rfl rfl rfl)
theorem d_Lw_law_807 : decode code 807 = .ok (.aload_n 2, 1) := zo_44 (zd_b zq_code_25 7 rfl rfl rfl)
theorem d_Lw_law_808 : decode code 808 = .ok (.aload_n 0, 1) := zo_42 (zd_b zq_code_25 8 rfl rfl rfl)
theorem d_Lw_law_809 : decode code 809 = .ok (.iload 5, 2) := zo_21 (d := 5) (zd_b zq_code_25 9 rfl rfl rfl) (zd_b zq_code_25 10 rfl rfl rfl)
theorem d_Lw_law_811 : decode code 811 = .ok (.iconst 1, 1) := zo_4 (zd_b zq_code_25 11 rfl rfl rfl)
theorem d_Lw_law_812 : decode code 812 = .ok (.iadd, 1) := zo_96 (zd_b zq_code_25 12 rfl rfl rfl)
theorem d_Lw_law_813 : decode code 813 = .ok (.iaload, 1) := zo_46 (zd_b zq_code_25 13 rfl rfl rfl)
theorem d_Lw_law_814 : decode code 814 = .ok (.invokevirtual 231, 3) := zo_182 (d := 0) (e := 231) (zd_b zq_code_25 14 rfl rfl rfl) (zd_b zq_code_25 15 rfl rfl rfl) (zd_b zq_code_25 16 rfl rfl rfl)
theorem ok_Lw_law_Mm_bestFeeder : z_ok M_Lw_law M_Mm_bestFeeder 1 := ⟨z_mj8 (i := 92) rfl (by decide +kernel), rfl, ⟨by decide +kernel, by decide +kernel, by decide +kernel⟩, ⟨by decide, by decide⟩, z_mj1 (i := 14) rfl (by decide +kernel), rfl⟩
theorem ln_Lw_231 : Cond.methodLink "IronpourLaw" 231 M_Mm_bestFeeder.1 ∈ z_gw := z_mj8 (i := 89) rfl (by decide +kernel)
theorem w_im_Mm_bestFeeder : Cond.instanceMethod M_Mm_bestFeeder.1 ∈ z_gw := z_mj8 (i := 90) rfl (by decide +kernel)
theorem w_se_Mm_bestFeeder : Cond.selects M_Mm_bestFeeder.1.cls M_Mm_bestFeeder.1 M_Mm_bestFeeder.1 ∈ z_gw := z_mj8 (i := 91) rfl (by decide +kernel)
theorem d_Lw_law_817 : decode code 817 = .ok (.istore 7, 2) := zo_54 (d := 7) (zd_b zq_code_25 17 rfl rfl rfl) (zd_b zq_code_25 18 rfl rfl rfl)
theorem d_Lw_law_819 : decode code 819 = .ok (.goto 989, 3) := zo_167 (d := 3) (e := 221) (zd_b zq_code_25 19 rfl rfl rfl) (zd_b zq_code_25 20 rfl rfl rfl) (zd_b zq_code_25 21 rfl rfl rfl) (by decide +kernel)
set_option maxHeartbeats 4000000 in
set_option maxRecDepth 100000 in
theorem LC_bestFeeder {g : zG} {ad : Nat → Nat} {t : zTT} {u : zNN} {w : zW} {j : Nat} (hI : IVm g ad t u w) (hR : REL t u.1 (48 * j)) {r : Nat} (hJ : 7 * j + 7 ≤ g.2.2 41) (hL : g.2.2 41 ≤ 3584) (ih : LWI g ad j r) : DW g M_Lw_law lwQ w 794 [(5, .int (nI (7 * j))), (4, .ref (ad 70)), (3, .ref (ad 69)), (2, .ref (ad 52)), (1, .ref (ad 0)), (0, .ref (g.2.2 40))] [] (100 * (r + 1)) (1000 * (r + 1)) := by
  refine y_base (cs := []) (z_I.nil w) ?_
  refine y_aload_n d_Lw_law_794 rfl 4 rfl ?_
  refine y_aload_n d_Lw_law_795 rfl 5 rfl ?_
  refine y_iload d_Lw_law_796 0 rfl ?_
  refine y_iconst d_Lw_law_798 (v := 1) (by decide) ?_
  refine y_iadd d_Lw_law_799 (v := nI ((7 * j) + 1)) (nI_add _ _) ?_
  refine y_sld (v := zs g (7 * j + 1)) d_Lw_law_800 (vp_in_nI (by omega) (by omega)) (by rw [nI_clamp (by omega)]; rfl) ?_
  refine y_aload_n d_Lw_law_801 rfl 2 rfl ?_
  refine yw_callSX (As := [.ref (ad 0), .int (zs g (7 * j + 1)), .ref (ad 69)]) (rest := []) ln_Lw_229 w_st_Lw_bestFeeder ok_Lw_law_Lw_bestFeeder d_Lw_law_802 (fun wA hA => W_bestFeeder (IVm.nil hA hI) _) rfl rfl (Nat.le_of_ble_eq_true rfl) (by omega) (by omega) (fun wA802 hA802 E wB802 hx => ?_) (fun wA802 hA802 v wB802 hx => ?_)
  · obtain ⟨⟨v9, e1⟩, -⟩ := hx
    cases e1
  · obtain ⟨⟨v9, e1⟩, uC, huC, hI2⟩ := hx
    cases e1
    refine yw_st (st2 := [.int v9]) rfl ?_
    have hI := hI2
    refine y_base (cs := []) (z_I.nil _) ?_
    refine y_istore (lv' := [(6, .int v9), (5, .int (nI (7 * j))), (4, .ref (ad 70)), (3, .ref (ad 69)), (2, .ref (ad 52)), (1, .ref (ad 0)), (0, .ref (g.2.2 40))]) d_Lw_law_805 (by decide) rfl ?_
    refine y_aload_n d_Lw_law_807 rfl 4 rfl ?_
    refine y_aload_n d_Lw_law_808 rfl 6 rfl ?_
    refine y_iload d_Lw_law_809 1 rfl ?_
    refine y_iconst d_Lw_law_811 (v := 1) (by decide) ?_
    refine y_iadd d_Lw_law_812 (v := nI ((7 * j) + 1)) (nI_add _ _) ?_
    refine y_sld (v := zs g (7 * j + 1)) d_Lw_law_813 (vp_in_nI (by omega) (by omega)) (by rw [nI_clamp (by omega)]; rfl) ?_
    refine yw_callVL (As := [.int (zs g (7 * j + 1))]) (rest := []) (ci := 12) rfl (fun wA hA => (IVm.nil hA hI).rm) ln_Lw_231 w_im_Mm_bestFeeder w_se_Mm_bestFeeder ok_Lw_law_Mm_bestFeeder d_Lw_law_814 (fun wA hA => K_Mm_bestFeeder (IVm.nil hA hI) _) rfl rfl (Nat.le_of_ble_eq_true rfl) (by omega) (by omega) (fun wA814 hA814 E wB814 hx => ?_) (fun wA814 hA814 v wB814 hx => ?_)
    · obtain ⟨⟨v8, e1⟩, -⟩ := hx
      cases e1
    · obtain ⟨⟨v8, e1⟩, uM, huM, hI2⟩ := hx
      cases e1
      refine yw_st (st2 := [.int v8]) rfl ?_
      have hI := hI2
      refine y_base (cs := []) (z_I.nil _) ?_
      refine y_istore (lv' := [(7, .int v8), (6, .int v9), (5, .int (nI (7 * j))), (4, .ref (ad 70)), (3, .ref (ad 69)), (2, .ref (ad 52)), (1, .ref (ad 0)), (0, .ref (g.2.2 40))]) d_Lw_law_817 (by decide) rfl ?_
      refine y_goto (tgt := 1808) d_Lw_law_819 (by decide) ?_
      refine y_lv (lv' := [(5, .int (nI (7 * j))), (4, .ref (ad 70)), (3, .ref (ad 69)), (2, .ref (ad 52)), (1, .ref (ad 0)), (0, .ref (g.2.2 40))]) [2, 3, 4, 5, 6, 7] rfl ?_
      refine y_end (fun wC hC => ?_)
      exact LC_next (IVm.nil hC hI) ((hR.n (huM.trans huC)).up (by omega)) hJ hL ih (by omega) (by omega)
theorem d_Lw_law_822 : decode code 822 = .ok (.aload_n 1, 1) := zo_43 (zd_b zq_code_25 22 rfl rfl rfl)
theorem d_Lw_law_823 : decode code 823 = .ok (.aload_n 0, 1) := zo_42 (zd_b zq_code_25 23 rfl rfl rfl)
theorem d_Lw_law_824 : decode code 824 = .ok (.iload 5, 2) := zo_21 (d := 5) (zd_b zq_code_25 24 rfl rfl rfl) (zd_b zq_code_25 25 rfl rfl rfl)
theorem d_Lw_law_826 : decode code 826 = .ok (.iconst 1, 1) := zo_4 (zd_b zq_code_25 26 rfl rfl rfl)
theorem d_Lw_law_827 : decode code 827 = .ok (.iadd, 1) := zo_96 (zd_b zq_code_25 27 rfl rfl rfl)
theorem d_Lw_law_828 : decode code 828 = .ok (.iaload, 1) := zo_46 (zd_b zq_code_25 28 rfl rfl rfl)
theorem d_Lw_law_829 : decode code 829 = .ok (.aload_n 0, 1) := zo_42 (zd_b zq_code_25 29 rfl rfl rfl)
theorem d_Lw_law_830 : decode code 830 = .ok (.iload 5, 2) := zo_21 (d := 5) (zd_b zq_code_25 30 rfl rfl rfl) (zd_b zq_code_25 31 rfl rfl rfl)
theorem d_Lw_law_832 : decode code 832 = .ok (.iconst 2, 1) := zo_5 (zd_b zq_code_26 0 rfl rfl rfl)
theorem d_Lw_law_833 : decode code 833 = .ok (.iadd, 1) := zo_96 (zd_b zq_code_26 1 rfl rfl rfl)
theorem d_Lw_law_834 : decode code 834 = .ok (.iaload, 1) := zo_46 (zd_b zq_code_26 2 rfl rfl rfl)
theorem d_Lw_law_835 : decode code 835 = .ok (.aload_n 0, 1) := zo_42 (zd_b zq_code_26 3 rfl rfl rfl)
theorem d_Lw_law_836 : decode code 836 = .ok (.iload 5, 2) := zo_21 (d := 5) (zd_b zq_code_26 4 rfl rfl rfl) (zd_b zq_code_26 5 rfl rfl rfl)
theorem d_Lw_law_838 : decode code 838 = .ok (.iconst 3, 1) := zo_6 (zd_b zq_code_26 6 rfl rfl rfl)
theorem d_Lw_law_839 : decode code 839 = .ok (.iadd, 1) := zo_96 (zd_b zq_code_26 7 rfl rfl rfl)
theorem d_Lw_law_840 : decode code 840 = .ok (.iaload, 1) := zo_46 (zd_b zq_code_26 8 rfl rfl rfl)
theorem d_Lw_law_841 : decode code 841 = .ok (.aload_n 0, 1) := zo_42 (zd_b zq_code_26 9 rfl rfl rfl)
theorem d_Lw_law_842 : decode code 842 = .ok (.iload 5, 2) := zo_21 (d := 5) (zd_b zq_code_26 10 rfl rfl rfl) (zd_b zq_code_26 11 rfl rfl rfl)
theorem d_Lw_law_844 : decode code 844 = .ok (.iconst 4, 1) := zo_7 (zd_b zq_code_26 12 rfl rfl rfl)
theorem d_Lw_law_845 : decode code 845 = .ok (.iadd, 1) := zo_96 (zd_b zq_code_26 13 rfl rfl rfl)
theorem d_Lw_law_846 : decode code 846 = .ok (.iaload, 1) := zo_46 (zd_b zq_code_26 14 rfl rfl rfl)
theorem d_Lw_law_847 : decode code 847 = .ok (.aload_n 3, 1) := zo_45 (zd_b zq_code_26 15 rfl rfl rfl)
theorem d_Lw_law_848 : decode code 848 = .ok (.invokestatic 232, 3) := zo_184 (d := 0) (e := 232) (zd_b zq_code_26 16 rfl rfl rfl) (zd_b zq_code_26 17 rfl rfl rfl) (zd_b zq_code_26 18 rfl rfl rfl)
theorem ok_Lw_law_Lw_mill : z_okX M_Lw_law M_Lw_mill 6 := ⟨z_mj4 (i := 170) rfl (by decide +kernel), by decide, ⟨by decide +kernel, by decide +kernel, by decide +kernel⟩, ⟨by decide, by decide⟩, z_mj1 (i := 0) rfl (by decide +kernel), rfl⟩
theorem ln_Lw_232 : Cond.methodLink "IronpourLaw" 232 M_Lw_mill.1 ∈ z_gw := z_mj4 (i := 168) rfl (by decide +kernel)
theorem w_st_Lw_mill : Cond.static M_Lw_mill.1 ∈ z_gw := z_mj4 (i := 169) rfl (by decide +kernel)
theorem d_Lw_law_851 : decode code 851 = .ok (.istore 6, 2) := zo_54 (d := 6) (zd_b zq_code_26 19 rfl rfl rfl) (zd_b zq_code_26 20 rfl rfl rfl)
theorem d_Lw_law_853 : decode code 853 = .ok (.aload_n 2, 1) := zo_44 (zd_b zq_code_26 21 rfl rfl rfl)
theorem d_Lw_law_854 : decode code 854 = .ok (.aload_n 0, 1) := zo_42 (zd_b zq_code_26 22 rfl rfl rfl)
theorem d_Lw_law_855 : decode code 855 = .ok (.iload 5, 2) := zo_21 (d := 5) (zd_b zq_code_26 23 rfl rfl rfl) (zd_b zq_code_26 24 rfl rfl rfl)
theorem d_Lw_law_857 : decode code 857 = .ok (.iconst 1, 1) := zo_4 (zd_b zq_code_26 25 rfl rfl rfl)
theorem d_Lw_law_858 : decode code 858 = .ok (.iadd, 1) := zo_96 (zd_b zq_code_26 26 rfl rfl rfl)
theorem d_Lw_law_859 : decode code 859 = .ok (.iaload, 1) := zo_46 (zd_b zq_code_26 27 rfl rfl rfl)
theorem d_Lw_law_860 : decode code 860 = .ok (.aload_n 0, 1) := zo_42 (zd_b zq_code_26 28 rfl rfl rfl)
theorem d_Lw_law_861 : decode code 861 = .ok (.iload 5, 2) := zo_21 (d := 5) (zd_b zq_code_26 29 rfl rfl rfl) (zd_b zq_code_26 30 rfl rfl rfl)
theorem d_Lw_law_863 : decode code 863 = .ok (.iconst 2, 1) := zo_5 (zd_b zq_code_26 31 rfl rfl rfl)
theorem d_Lw_law_864 : decode code 864 = .ok (.iadd, 1) := zo_96 (zd_b zq_code_27 0 rfl rfl rfl)
theorem d_Lw_law_865 : decode code 865 = .ok (.iaload, 1) := zo_46 (zd_b zq_code_27 1 rfl rfl rfl)
theorem d_Lw_law_866 : decode code 866 = .ok (.aload_n 0, 1) := zo_42 (zd_b zq_code_27 2 rfl rfl rfl)
theorem d_Lw_law_867 : decode code 867 = .ok (.iload 5, 2) := zo_21 (d := 5) (zd_b zq_code_27 3 rfl rfl rfl) (zd_b zq_code_27 4 rfl rfl rfl)
theorem d_Lw_law_869 : decode code 869 = .ok (.iconst 3, 1) := zo_6 (zd_b zq_code_27 5 rfl rfl rfl)
theorem d_Lw_law_870 : decode code 870 = .ok (.iadd, 1) := zo_96 (zd_b zq_code_27 6 rfl rfl rfl)
theorem d_Lw_law_871 : decode code 871 = .ok (.iaload, 1) := zo_46 (zd_b zq_code_27 7 rfl rfl rfl)
theorem d_Lw_law_872 : decode code 872 = .ok (.aload_n 0, 1) := zo_42 (zd_b zq_code_27 8 rfl rfl rfl)
theorem d_Lw_law_873 : decode code 873 = .ok (.iload 5, 2) := zo_21 (d := 5) (zd_b zq_code_27 9 rfl rfl rfl) (zd_b zq_code_27 10 rfl rfl rfl)
theorem d_Lw_law_875 : decode code 875 = .ok (.iconst 4, 1) := zo_7 (zd_b zq_code_27 11 rfl rfl rfl)
theorem d_Lw_law_876 : decode code 876 = .ok (.iadd, 1) := zo_96 (zd_b zq_code_27 12 rfl rfl rfl)
theorem d_Lw_law_877 : decode code 877 = .ok (.iaload, 1) := zo_46 (zd_b zq_code_27 13 rfl rfl rfl)
theorem d_Lw_law_878 : decode code 878 = .ok (.invokevirtual 234, 3) := zo_182 (d := 0) (e := 234) (zd_b zq_code_27 14 rfl rfl rfl) (zd_b zq_code_27 15 rfl rfl rfl) (zd_b zq_code_27 16 rfl rfl rfl)
theorem ok_Lw_law_Mm_mill : z_ok M_Lw_law M_Mm_mill 4 := ⟨z_mj8 (i := 101) rfl (by decide +kernel), rfl, ⟨by decide +kernel, by decide +kernel, by decide +kernel⟩, ⟨by decide, by decide⟩, z_mj1 (i := 14) rfl (by decide +kernel), rfl⟩
theorem ln_Lw_234 : Cond.methodLink "IronpourLaw" 234 M_Mm_mill.1 ∈ z_gw := z_mj8 (i := 98) rfl (by decide +kernel)
theorem w_im_Mm_mill : Cond.instanceMethod M_Mm_mill.1 ∈ z_gw := z_mj8 (i := 99) rfl (by decide +kernel)
theorem w_se_Mm_mill : Cond.selects M_Mm_mill.1.cls M_Mm_mill.1 M_Mm_mill.1 ∈ z_gw := z_mj8 (i := 100) rfl (by decide +kernel)
theorem d_Lw_law_881 : decode code 881 = .ok (.istore 7, 2) := zo_54 (d := 7) (zd_b zq_code_27 17 rfl rfl rfl) (zd_b zq_code_27 18 rfl rfl rfl)
theorem d_Lw_law_883 : decode code 883 = .ok (.goto 925, 3) := zo_167 (d := 3) (e := 157) (zd_b zq_code_27 19 rfl rfl rfl) (zd_b zq_code_27 20 rfl rfl rfl) (zd_b zq_code_27 21 rfl rfl rfl) (by decide +kernel)
set_option maxHeartbeats 4000000 in
set_option maxRecDepth 100000 in
theorem LC_mill {g : zG} {ad : Nat → Nat} {t : zTT} {u : zNN} {w : zW} {j : Nat} (hI : IVm g ad t u w) (hR : REL t u.1 (48 * j)) {r : Nat} (hJ : 7 * j + 7 ≤ g.2.2 41) (hL : g.2.2 41 ≤ 3584) (ih : LWI g ad j r) : DW g M_Lw_law lwQ w 822 [(5, .int (nI (7 * j))), (4, .ref (ad 70)), (3, .ref (ad 69)), (2, .ref (ad 52)), (1, .ref (ad 0)), (0, .ref (g.2.2 40))] [] (100 * (r + 1)) (1000 * (r + 1)) := by
  refine y_base (cs := []) (z_I.nil w) ?_
  refine y_aload_n d_Lw_law_822 rfl 4 rfl ?_
  refine y_aload_n d_Lw_law_823 rfl 5 rfl ?_
  refine y_iload d_Lw_law_824 0 rfl ?_
  refine y_iconst d_Lw_law_826 (v := 1) (by decide) ?_
  refine y_iadd d_Lw_law_827 (v := nI ((7 * j) + 1)) (nI_add _ _) ?_
  refine y_sld (v := zs g (7 * j + 1)) d_Lw_law_828 (vp_in_nI (by omega) (by omega)) (by rw [nI_clamp (by omega)]; rfl) ?_
  refine y_aload_n d_Lw_law_829 rfl 5 rfl ?_
  refine y_iload d_Lw_law_830 0 rfl ?_
  refine y_iconst d_Lw_law_832 (v := 2) (by decide) ?_
  refine y_iadd d_Lw_law_833 (v := nI ((7 * j) + 2)) (nI_add _ _) ?_
  refine y_sld (v := zs g (7 * j + 2)) d_Lw_law_834 (vp_in_nI (by omega) (by omega)) (by rw [nI_clamp (by omega)]; rfl) ?_
  refine y_aload_n d_Lw_law_835 rfl 5 rfl ?_
  refine y_iload d_Lw_law_836 0 rfl ?_
  refine y_iconst d_Lw_law_838 (v := 3) (by decide) ?_
  refine y_iadd d_Lw_law_839 (v := nI ((7 * j) + 3)) (nI_add _ _) ?_
  refine y_sld (v := zs g (7 * j + 3)) d_Lw_law_840 (vp_in_nI (by omega) (by omega)) (by rw [nI_clamp (by omega)]; rfl) ?_
  refine y_aload_n d_Lw_law_841 rfl 5 rfl ?_
  refine y_iload d_Lw_law_842 0 rfl ?_
  refine y_iconst d_Lw_law_844 (v := 4) (by decide) ?_
  refine y_iadd d_Lw_law_845 (v := nI ((7 * j) + 4)) (nI_add _ _) ?_
  refine y_sld (v := zs g (7 * j + 4)) d_Lw_law_846 (vp_in_nI (by omega) (by omega)) (by rw [nI_clamp (by omega)]; rfl) ?_
  refine y_aload_n d_Lw_law_847 rfl 2 rfl ?_
  refine yw_callSX (As := [.ref (ad 0), .int (zs g (7 * j + 1)), .int (zs g (7 * j + 2)), .int (zs g (7 * j + 3)), .int (zs g (7 * j + 4)), .ref (ad 69)]) (rest := []) ln_Lw_232 w_st_Lw_mill ok_Lw_law_Lw_mill d_Lw_law_848 (fun wA hA => W_mill (IVm.nil hA hI) _ _ _ _) rfl rfl (Nat.le_of_ble_eq_true rfl) (by omega) (by omega) (fun wA848 hA848 E wB848 hx => ?_) (fun wA848 hA848 v wB848 hx => ?_)
  · obtain ⟨⟨v9, e1⟩, -⟩ := hx
    cases e1
  · obtain ⟨⟨v9, e1⟩, uC, huC, hI2⟩ := hx
    cases e1
    refine yw_st (st2 := [.int v9]) rfl ?_
    have hI := hI2
    refine y_base (cs := []) (z_I.nil _) ?_
    refine y_istore (lv' := [(6, .int v9), (5, .int (nI (7 * j))), (4, .ref (ad 70)), (3, .ref (ad 69)), (2, .ref (ad 52)), (1, .ref (ad 0)), (0, .ref (g.2.2 40))]) d_Lw_law_851 (by decide) rfl ?_
    refine y_aload_n d_Lw_law_853 rfl 4 rfl ?_
    refine y_aload_n d_Lw_law_854 rfl 6 rfl ?_
    refine y_iload d_Lw_law_855 1 rfl ?_
    refine y_iconst d_Lw_law_857 (v := 1) (by decide) ?_
    refine y_iadd d_Lw_law_858 (v := nI ((7 * j) + 1)) (nI_add _ _) ?_
    refine y_sld (v := zs g (7 * j + 1)) d_Lw_law_859 (vp_in_nI (by omega) (by omega)) (by rw [nI_clamp (by omega)]; rfl) ?_
    refine y_aload_n d_Lw_law_860 rfl 6 rfl ?_
    refine y_iload d_Lw_law_861 1 rfl ?_
    refine y_iconst d_Lw_law_863 (v := 2) (by decide) ?_
    refine y_iadd d_Lw_law_864 (v := nI ((7 * j) + 2)) (nI_add _ _) ?_
    refine y_sld (v := zs g (7 * j + 2)) d_Lw_law_865 (vp_in_nI (by omega) (by omega)) (by rw [nI_clamp (by omega)]; rfl) ?_
    refine y_aload_n d_Lw_law_866 rfl 6 rfl ?_
    refine y_iload d_Lw_law_867 1 rfl ?_
    refine y_iconst d_Lw_law_869 (v := 3) (by decide) ?_
    refine y_iadd d_Lw_law_870 (v := nI ((7 * j) + 3)) (nI_add _ _) ?_
    refine y_sld (v := zs g (7 * j + 3)) d_Lw_law_871 (vp_in_nI (by omega) (by omega)) (by rw [nI_clamp (by omega)]; rfl) ?_
    refine y_aload_n d_Lw_law_872 rfl 6 rfl ?_
    refine y_iload d_Lw_law_873 1 rfl ?_
    refine y_iconst d_Lw_law_875 (v := 4) (by decide) ?_
    refine y_iadd d_Lw_law_876 (v := nI ((7 * j) + 4)) (nI_add _ _) ?_
    refine y_sld (v := zs g (7 * j + 4)) d_Lw_law_877 (vp_in_nI (by omega) (by omega)) (by rw [nI_clamp (by omega)]; rfl) ?_
    refine yw_callVL (As := [.int (zs g (7 * j + 1)), .int (zs g (7 * j + 2)), .int (zs g (7 * j + 3)), .int (zs g (7 * j + 4))]) (rest := []) (ci := 12) rfl (fun wA hA => (IVm.nil hA hI).rm) ln_Lw_234 w_im_Mm_mill w_se_Mm_mill ok_Lw_law_Mm_mill d_Lw_law_878 (fun wA hA => K_Mm_mill (IVm.nil hA hI) _ _ _ _) rfl rfl (Nat.le_of_ble_eq_true rfl) (by omega) (by omega) (fun wA878 hA878 E wB878 hx => ?_) (fun wA878 hA878 v wB878 hx => ?_)
    · obtain ⟨⟨v8, e1⟩, -⟩ := hx
      cases e1
    · obtain ⟨⟨v8, e1⟩, uM, huM, hI2⟩ := hx
      cases e1
      refine yw_st (st2 := [.int v8]) rfl ?_
      have hI := hI2
      refine y_base (cs := []) (z_I.nil _) ?_
      refine y_istore (lv' := [(7, .int v8), (6, .int v9), (5, .int (nI (7 * j))), (4, .ref (ad 70)), (3, .ref (ad 69)), (2, .ref (ad 52)), (1, .ref (ad 0)), (0, .ref (g.2.2 40))]) d_Lw_law_881 (by decide) rfl ?_
      refine y_goto (tgt := 1808) d_Lw_law_883 (by decide) ?_
      refine y_lv (lv' := [(5, .int (nI (7 * j))), (4, .ref (ad 70)), (3, .ref (ad 69)), (2, .ref (ad 52)), (1, .ref (ad 0)), (0, .ref (g.2.2 40))]) [2, 3, 4, 5, 6, 7] rfl ?_
      refine y_end (fun wC hC => ?_)
      exact LC_next (IVm.nil hC hI) ((R_mill _ _ _ _ hR huC huM).up (by omega)) hJ hL ih (by omega) (by omega)
