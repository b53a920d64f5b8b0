set_option maxHeartbeats 4000000 in
set_option maxRecDepth 100000 in
theorem LW_charge100F (g : zG) (a pa pa1 pa2 pa3 ta ta1 ta2 taz taz1 taz2 taz3 taz4 taz5 taz6 ta4 ta5 ta6 sa sa1 sa2 saz saz1 saz2 saz3 saz4 saz5 saz6 sa4 sa5 sa6 gs co co1 co2 co3 fu fub fubg fut1 fut2 fut3 la lab labg gy gyg du dug re wm ac m mp mf mh mn mt mz mc_ mq mgr ml mi mr mm mu mk mx o1 o2 : Nat) (hL : g.2.2 41 = 7) (e1 : zc g 1 = 100) (hw : (1 ≤ (zs g 2) ∧ (zs g 2) ≤ 1000)) (hf9 : 0 < (zs g 2)) (w0 : zW) (n : Nat) : DV g M_Lw_law (lwP) w0 n 1424 [(5, .int 0), (4, .ref o2), (3, .ref o1), (2, .ref m), (1, .ref a), (0, .ref (g.2.2 40))] [] (lwCS g a pa pa1 pa2 pa3 ta ta1 ta2 taz taz1 taz2 taz3 taz4 taz5 taz6 ta4 ta5 ta6 sa sa1 sa2 saz saz1 saz2 saz3 saz4 saz5 saz6 sa4 sa5 sa6 gs co co1 co2 co3 fu fub fubg fut1 fut2 fut3 la lab labg gy gyg du dug re wm ac m mp mf mh mn mt mz mc_ mq mgr ml mi mr mm mu mk mx o1 o2) 100 1000 := by
  refine r_aload_n d_Lw_law_1424 rfl 4 rfl ?_
  refine r_aload_n d_Lw_law_1425 rfl 5 rfl ?_
  refine r_iload d_Lw_law_1426 0 rfl ?_
  refine r_iconst d_Lw_law_1428 (v := 1) (by decide) ?_
  refine r_iadd d_Lw_law_1429 (v := 1) rfl ?_
  refine r_sld (v := zs g 1) d_Lw_law_1430 (by rw [hL]; exact fun q => q.elim (by decide) (by decide)) rfl ?_
  refine r_i2c d_Lw_law_1431 (v := 100) e1 ?_
  refine r_aload_n d_Lw_law_1432 rfl 5 rfl ?_
  refine r_iload d_Lw_law_1433 0 rfl ?_
  refine r_iconst d_Lw_law_1435 (v := 2) (by decide) ?_
  refine r_iadd d_Lw_law_1436 (v := 2) rfl ?_
  refine r_sld (v := zs g 2) d_Lw_law_1437 (by rw [hL]; exact fun q => q.elim (by decide) (by decide)) rfl ?_
  refine r_aload_n d_Lw_law_1438 rfl 2 rfl ?_
  refine r_callSX (As := [.ref a, .int 100, .int (zs g 2), .ref o1]) (rest := []) (csC := [(a, .inr (11, [.ref pa, .ref ta, .ref sa, .ref gs, .ref co, .ref fu, .ref la, .ref gy, .ref du, .ref re, .ref wm, .ref ac])), (fu, .inr (3, [.ref fub, .ref fut1, .ref fut2, .ref fut3, .long 0])), (fub, .inr (6, [.ref fubg, .int 0])), (fubg, .inl (3, 4, .inr (.inl (fun _ => 0)))), (fut1, .inl (3, 4, .inr (.inl (fun _ => 0)))), (fut2, .inl (3, 4, .inr (.inl (fun _ => 0)))), (fut3, .inl (3, 4, .inr (.inl (fun _ => 0)))), (gy, .inr (6, [.ref gyg, .int 0])), (gyg, .inl (3, 4, .inr (.inl (fun _ => 0)))), (du, .inr (6, [.ref dug, .int 0])), (dug, .inl (3, 4, .inr (.inl (fun _ => 0)))), (o1, .inl (3, 1, .inr (.inl (fun _ => 0))))]) (is := [0, 36, 37, 38, 39, 40, 41, 45, 46, 47, 48, 69]) ln_Lw_249 w_st_Lw_charge ok_Lw_law_Lw_charge d_Lw_law_1439 (C_Lw_charge100F g a pa ta sa gs co fu la gy du re wm ac lab labg gyg dug fub fubg fut1 fut2 fut3 (fun _ => 0) (fun _ => 0) (fun _ => 0) (fun _ => 0) (fun _ => 0) (fun _ => 0) 0 0 0 0 (zs g 2) hw hf9 o1 (fun _ => 0)) rfl rfl (Nat.le_of_ble_eq_true rfl) rfl (by decide) (by omega) (by omega) (fun E cs1 hx => ?_) (fun v cs1 hx => ?_)
  · exact absurd hx.1 (by simp)
  · obtain ⟨e1, rfl⟩ := hx
    cases e1
    refine ⟨rfl, ?_⟩
    refine r_st (st2 := [.int 2]) rfl ?_
    refine r_istore (lv' := [(6, .int 2), (5, .int 0), (4, .ref o2), (3, .ref o1), (2, .ref m), (1, .ref a), (0, .ref (g.2.2 40))]) d_Lw_law_1442 (by decide) rfl ?_
    refine r_aload_n d_Lw_law_1444 rfl 4 rfl ?_
    refine r_aload_n d_Lw_law_1445 rfl 6 rfl ?_
    refine r_iload d_Lw_law_1446 1 rfl ?_
    refine r_iconst d_Lw_law_1448 (v := 1) (by decide) ?_
    refine r_iadd d_Lw_law_1449 (v := 1) rfl ?_
    refine r_sld (v := zs g 1) d_Lw_law_1450 (by rw [hL]; exact fun q => q.elim (by decide) (by decide)) rfl ?_
    refine r_i2c d_Lw_law_1451 (v := 100) e1 ?_
    refine r_aload_n d_Lw_law_1452 rfl 6 rfl ?_
    refine r_iload d_Lw_law_1453 1 rfl ?_
    refine r_iconst d_Lw_law_1455 (v := 2) (by decide) ?_
    refine r_iadd d_Lw_law_1456 (v := 2) rfl ?_
    refine r_sld (v := zs g 2) d_Lw_law_1457 (by rw [hL]; exact fun q => q.elim (by decide) (by decide)) rfl ?_
    refine r_callV (As := [.int 100, .int (zs g 2)]) (rest := []) (csC := [(m, .inr (12, [.int 0, .ref mp, .int 4, .ref mf, .ref mh, .ref mn, .ref mt, .ref mz, .ref mc_, .ref mq, .ref mgr, .int 80, .int 35, .int 30, .int 50, .int 0, .int 0, .ref ml, .ref mi, .ref mr, .int 0, .int 0, .int 0, .int (-1), .int 0, .ref mm, .ref mu, .ref mk, .ref mx, .long 0, .long 0])), (mi, .inl (0, 4, .inl (fun _ => 0)))]) (is := [52, 63]) (q0 := 52) rfl rfl ln_Lw_252 w_im_Mm_charge w_se_Mm_charge ok_Lw_law_Mm_charge d_Lw_law_1458 (C_Mm_charge100F g m mp mf mh mn mt mz mc_ mq mgr ml mi mr mm mu mk mx 0 4 80 35 30 50 0 0 0 0 0 (-1) 0 0 0 (fun _ => 0) (zs g 2) hw hf9) rfl rfl (Nat.le_of_ble_eq_true rfl) rfl (by decide) (by omega) (by omega) (fun E cs1 hx => ?_) (fun v cs1 hx => ?_)
    · exact absurd hx.1 (by simp)
    · obtain ⟨e1, rfl⟩ := hx
      cases e1
      refine ⟨rfl, ?_⟩
      refine r_st (st2 := [.int 0]) rfl ?_
      refine r_istore (lv' := [(7, .int 0), (6, .int 2), (5, .int 0), (4, .ref o2), (3, .ref o1), (2, .ref m), (1, .ref a), (0, .ref (g.2.2 40))]) d_Lw_law_1461 (by decide) rfl ?_
      refine r_aload_n d_Lw_law_1463 rfl 5 rfl ?_
      refine r_callV (As := []) (rest := []) (csC := [(m, .inr (12, [.int 2, .ref mp, .int 4, .ref mf, .ref mh, .ref mn, .ref mt, .ref mz, .ref mc_, .ref mq, .ref mgr, .int 80, .int 35, .int 30, .int 50, .int 0, .int 0, .ref ml, .ref mi, .ref mr, .int 0, .int 0, .int 0, .int (-1), .int 0, .ref mm, .ref mu, .ref mk, .ref mx, .long 0, .long 0]))]) (is := [52]) (q0 := 52) rfl rfl ln_Lw_175 w_im_Mm_thrown w_se_Mm_thrown ok_Lw_law_Mm_thrown d_Lw_law_1464 (C_Mm_thrown g m mp mf mh mn mt mz mc_ mq mgr ml mi mr mm mu mk mx 2 4 80 35 30 50 0 0 0 0 0 (-1) 0 0 0) rfl rfl (Nat.le_of_ble_eq_true rfl) rfl (by decide) (by omega) (by omega) (fun E cs1 hx => ?_) (fun v cs1 hx => ?_)
      · exact absurd hx.1 (by simp)
      · obtain ⟨e1, rfl⟩ := hx
        cases e1
        refine ⟨rfl, ?_⟩
        refine r_st (st2 := [.int 2]) rfl ?_
        refine r_iload d_Lw_law_1467 1 rfl ?_
        refine r_icmp_eq (tgt := 1474) d_Lw_law_1469 (by decide) (fun c_1469 => ?_) (fun c_1469 => ?_)
        · refine r_iload d_Lw_law_1474 1 rfl ?_
          refine r_if_ne (tgt := 1491) d_Lw_law_1476 (by decide) (fun c_1476 => ?_) (fun c_1476 => ?_)
          · refine r_goto (tgt := 3019) d_Lw_law_1491 (by decide) ?_
            refine r_lv (lv' := [(5, .int 0), (0, .ref (g.2.2 40))]) [2, 7] rfl ?_
            exact LW_tail g _ hL _ _ w0 n
          · exact absurd c_1476 (by decide)
        · exact absurd c_1469 (by decide)
theorem d_Lw_law_1479 : decode code 1479 = .ok (.aload_n 3, 1) := by decide +kernel
theorem d_Lw_law_1480 : decode code 1480 = .ok (.iconst 0, 1) := by decide +kernel
theorem d_Lw_law_1481 : decode code 1481 = .ok (.laload, 1) := by decide +kernel
theorem d_Lw_law_1482 : decode code 1482 = .ok (.iload 7, 2) := by decide +kernel
theorem d_Lw_law_1484 : decode code 1484 = .ok (.i2l, 1) := by decide +kernel
theorem d_Lw_law_1485 : decode code 1485 = .ok (.lcmp, 1) := by decide +kernel
theorem d_Lw_law_1486 : decode code 1486 = .ok (.ifCond .eq 5, 3) := by decide +kernel
set_option maxHeartbeats 4000000 in
set_option maxRecDepth 100000 in
theorem LW_charge112N (g : zG) (a pa pa1 pa2 pa3 ta ta1 ta2 taz taz1 taz2 taz3 taz4 taz5 taz6 ta4 ta5 ta6 sa sa1 sa2 saz saz1 saz2 saz3 saz4 saz5 saz6 sa4 sa5 sa6 gs co co1 co2 co3 fu fub fubg fut1 fut2 fut3 la lab labg gy gyg du dug re wm ac m mp mf mh mn mt mz mc_ mq mgr ml mi mr mm mu mk mx o1 o2 : Nat) (hL : g.2.2 41 = 7) (e1 : zc g 1 = 112) (hw : (1 ≤ (zs g 2) ∧ (zs g 2) ≤ 1000)) (hg9 : ¬ 3000 < 0 + (zs g 2)) (w0 : zW) (n : Nat) : DV g M_Lw_law (lwP) w0 n 1424 [(5, .int 0), (4, .ref o2), (3, .ref o1), (2, .ref m), (1, .ref a), (0, .ref (g.2.2 40))] [] (lwCS g a pa pa1 pa2 pa3 ta ta1 ta2 taz taz1 taz2 taz3 taz4 taz5 taz6 ta4 ta5 ta6 sa sa1 sa2 saz saz1 saz2 saz3 saz4 saz5 saz6 sa4 sa5 sa6 gs co co1 co2 co3 fu fub fubg fut1 fut2 fut3 la lab labg gy gyg du dug re wm ac m mp mf mh mn mt mz mc_ mq mgr ml mi mr mm mu mk mx o1 o2) 100 1000 := by
  refine r_aload_n d_Lw_law_1424 rfl 4 rfl ?_
  refine r_aload_n d_Lw_law_1425 rfl 5 rfl ?_
  refine r_iload d_Lw_law_1426 0 rfl ?_
  refine r_iconst d_Lw_law_1428 (v := 1) (by decide) ?_
  refine r_iadd d_Lw_law_1429 (v := 1) rfl ?_
  refine r_sld (v := zs g 1) d_Lw_law_1430 (by rw [hL]; exact fun q => q.elim (by decide) (by decide)) rfl ?_
  refine r_i2c d_Lw_law_1431 (v := 112) e1 ?_
  refine r_aload_n d_Lw_law_1432 rfl 5 rfl ?_
  refine r_iload d_Lw_law_1433 0 rfl ?_
  refine r_iconst d_Lw_law_1435 (v := 2) (by decide) ?_
  refine r_iadd d_Lw_law_1436 (v := 2) rfl ?_
  refine r_sld (v := zs g 2) d_Lw_law_1437 (by rw [hL]; exact fun q => q.elim (by decide) (by decide)) rfl ?_
  refine r_aload_n d_Lw_law_1438 rfl 2 rfl ?_
  refine r_callSX (As := [.ref a, .int 112, .int (zs g 2), .ref o1]) (rest := []) (csC := [(a, .inr (11, [.ref pa, .ref ta, .ref sa, .ref gs, .ref co, .ref fu, .ref la, .ref gy, .ref du, .ref re, .ref wm, .ref ac])), (fu, .inr (3, [.ref fub, .ref fut1, .ref fut2, .ref fut3, .long 0])), (fub, .inr (6, [.ref fubg, .int 0])), (fubg, .inl (3, 4, .inr (.inl (fun _ => 0)))), (fut1, .inl (3, 4, .inr (.inl (fun _ => 0)))), (fut2, .inl (3, 4, .inr (.inl (fun _ => 0)))), (fut3, .inl (3, 4, .inr (.inl (fun _ => 0)))), (gy, .inr (6, [.ref gyg, .int 0])), (gyg, .inl (3, 4, .inr (.inl (fun _ => 0)))), (du, .inr (6, [.ref dug, .int 0])), (dug, .inl (3, 4, .inr (.inl (fun _ => 0)))), (o1, .inl (3, 1, .inr (.inl (fun _ => 0))))]) (is := [0, 36, 37, 38, 39, 40, 41, 45, 46, 47, 48, 69]) ln_Lw_249 w_st_Lw_charge ok_Lw_law_Lw_charge d_Lw_law_1439 (C_Lw_charge112N g a pa ta sa gs co fu la gy du re wm ac lab labg gyg dug fub fubg fut1 fut2 fut3 (fun _ => 0) (fun _ => 0) (fun _ => 0) (fun _ => 0) (fun _ => 0) (fun _ => 0) 0 0 0 0 (zs g 2) hw hg9 o1 (fun _ => 0)) rfl rfl (Nat.le_of_ble_eq_true rfl) rfl (by decide) (by omega) (by omega) (fun E cs1 hx => ?_) (fun v cs1 hx => ?_)
  · exact absurd hx.1 (by simp)
  · obtain ⟨e1, rfl⟩ := hx
    cases e1
    refine ⟨rfl, ?_⟩
    refine r_st (st2 := [.int 0]) rfl ?_
    refine r_istore (lv' := [(6, .int 0), (5, .int 0), (4, .ref o2), (3, .ref o1), (2, .ref m), (1, .ref a), (0, .ref (g.2.2 40))]) d_Lw_law_1442 (by decide) rfl ?_
    refine r_aload_n d_Lw_law_1444 rfl 4 rfl ?_
    refine r_aload_n d_Lw_law_1445 rfl 6 rfl ?_
    refine r_iload d_Lw_law_1446 1 rfl ?_
    refine r_iconst d_Lw_law_1448 (v := 1) (by decide) ?_
    refine r_iadd d_Lw_law_1449 (v := 1) rfl ?_
    refine r_sld (v := zs g 1) d_Lw_law_1450 (by rw [hL]; exact fun q => q.elim (by decide) (by decide)) rfl ?_
    refine r_i2c d_Lw_law_1451 (v := 112) e1 ?_
    refine r_aload_n d_Lw_law_1452 rfl 6 rfl ?_
    refine r_iload d_Lw_law_1453 1 rfl ?_
    refine r_iconst d_Lw_law_1455 (v := 2) (by decide) ?_
    refine r_iadd d_Lw_law_1456 (v := 2) rfl ?_
    refine r_sld (v := zs g 2) d_Lw_law_1457 (by rw [hL]; exact fun q => q.elim (by decide) (by decide)) rfl ?_
    refine r_callV (As := [.int 112, .int (zs g 2)]) (rest := []) (csC := [(m, .inr (12, [.int 0, .ref mp, .int 4, .ref mf, .ref mh, .ref mn, .ref mt, .ref mz, .ref mc_, .ref mq, .ref mgr, .int 80, .int 35, .int 30, .int 50, .int 0, .int 0, .ref ml, .ref mi, .ref mr, .int 0, .int 0, .int 0, .int (-1), .int 0, .ref mm, .ref mu, .ref mk, .ref mx, .long 0, .long 0])), (mi, .inl (0, 4, .inl (fun _ => 0))), (mr, .inl (3, 16, .inr (.inl (fun _ => 0))))]) (is := [52, 63, 64]) (q0 := 52) rfl rfl ln_Lw_252 w_im_Mm_charge w_se_Mm_charge ok_Lw_law_Mm_charge d_Lw_law_1458 (C_Mm_charge112N g m mp mf mh mn mt mz mc_ mq mgr ml mi mr mm mu mk mx 0 4 80 35 30 50 0 0 0 0 0 (-1) 0 0 0 (fun _ => 0) (fun _ => 0) (zs g 2) hw hg9) rfl rfl (Nat.le_of_ble_eq_true rfl) rfl (by decide) (by omega) (by omega) (fun E cs1 hx => ?_) (fun v cs1 hx => ?_)
    · exact absurd hx.1 (by simp)
    · obtain ⟨e1, rfl⟩ := hx
      cases e1
      refine ⟨rfl, ?_⟩
      refine r_st (st2 := [.int ((fun _ => 0) 0 + (zs g 2))]) rfl ?_
      refine r_istore (lv' := [(7, .int ((fun _ => 0) 0 + (zs g 2))), (6, .int 0), (5, .int 0), (4, .ref o2), (3, .ref o1), (2, .ref m), (1, .ref a), (0, .ref (g.2.2 40))]) d_Lw_law_1461 (by decide) rfl ?_
      refine r_aload_n d_Lw_law_1463 rfl 5 rfl ?_
      refine r_callV (As := []) (rest := []) (csC := [(m, .inr (12, [.int 0, .ref mp, .int 4, .ref mf, .ref mh, .ref mn, .ref mt, .ref mz, .ref mc_, .ref mq, .ref mgr, .int 80, .int 35, .int 30, .int 50, .int 0, .int 0, .ref ml, .ref mi, .ref mr, .int 0, .int 0, .int 0, .int (-1), .int 0, .ref mm, .ref mu, .ref mk, .ref mx, .long 0, .long 0]))]) (is := [52]) (q0 := 52) rfl rfl ln_Lw_175 w_im_Mm_thrown w_se_Mm_thrown ok_Lw_law_Mm_thrown d_Lw_law_1464 (C_Mm_thrown g m mp mf mh mn mt mz mc_ mq mgr ml mi mr mm mu mk mx 0 4 80 35 30 50 0 0 0 0 0 (-1) 0 0 0) rfl rfl (Nat.le_of_ble_eq_true rfl) rfl (by decide) (by omega) (by omega) (fun E cs1 hx => ?_) (fun v cs1 hx => ?_)
      · exact absurd hx.1 (by simp)
      · obtain ⟨e1, rfl⟩ := hx
        cases e1
        refine ⟨rfl, ?_⟩
        refine r_st (st2 := [.int 0]) rfl ?_
        refine r_iload d_Lw_law_1467 1 rfl ?_
        refine r_icmp_eq (tgt := 1474) d_Lw_law_1469 (by decide) (fun c_1469 => ?_) (fun c_1469 => ?_)
        · refine r_iload d_Lw_law_1474 1 rfl ?_
          refine r_if_ne (tgt := 1491) d_Lw_law_1476 (by decide) (fun c_1476 => ?_) (fun c_1476 => ?_)
          · exact absurd c_1476 (by decide)
          · refine r_aload_n d_Lw_law_1479 rfl 4 rfl ?_
            refine r_iconst d_Lw_law_1480 (v := 0) (by decide) ?_
            refine r_lald d_Lw_law_1481 (q0 := 69) rfl (fun q => q.elim (by decide) (by decide)) (v := (vp_updL (fun _ => 0) 0 ((0 + (zs g 2))).toInt64) 0) rfl ?_
            refine r_iload d_Lw_law_1482 0 rfl ?_
            refine r_i2l d_Lw_law_1484 (v := ((fun _ => 0) 0 + (zs g 2)).toInt64) rfl ?_
            refine r_lcmp d_Lw_law_1485 (v := 0) (zl_cmp (rfl)) ?_
            refine r_if_eq (tgt := 1491) d_Lw_law_1486 (by decide) (fun c_1486 => ?_) (fun c_1486 => ?_)
            · refine r_goto (tgt := 3019) d_Lw_law_1491 (by decide) ?_
              refine r_lv (lv' := [(5, .int 0), (0, .ref (g.2.2 40))]) [2, 7] rfl ?_
              exact LW_tail g _ hL _ _ w0 n
            · exact absurd c_1486 (by decide)
        · exact absurd c_1469 (by decide)
set_option maxHeartbeats 4000000 in
set_option maxRecDepth 100000 in
theorem LW_charge115N (g : zG) (a pa pa1 pa2 pa3 ta ta1 ta2 taz taz1 taz2 taz3 taz4 taz5 taz6 ta4 ta5 ta6 sa sa1 sa2 saz saz1 saz2 saz3 saz4 saz5 saz6 sa4 sa5 sa6 gs co co1 co2 co3 fu fub fubg fut1 fut2 fut3 la lab labg gy gyg du dug re wm ac m mp mf mh mn mt mz mc_ mq mgr ml mi mr mm mu mk mx o1 o2 : Nat) (hL : g.2.2 41 = 7) (e1 : zc g 1 = 115) (hw : (1 ≤ (zs g 2) ∧ (zs g 2) ≤ 1000)) (hg9 : ¬ 3000 < 0 + (zs g 2)) (w0 : zW) (n : Nat) : DV g M_Lw_law (lwP) w0 n 1424 [(5, .int 0), (4, .ref o2), (3, .ref o1), (2, .ref m), (1, .ref a), (0, .ref (g.2.2 40))] [] (lwCS g a pa pa1 pa2 pa3 ta ta1 ta2 taz taz1 taz2 taz3 taz4 taz5 taz6 ta4 ta5 ta6 sa sa1 sa2 saz saz1 saz2 saz3 saz4 saz5 saz6 sa4 sa5 sa6 gs co co1 co2 co3 fu fub fubg fut1 fut2 fut3 la lab labg gy gyg du dug re wm ac m mp mf mh mn mt mz mc_ mq mgr ml mi mr mm mu mk mx o1 o2) 100 1000 := by
  refine r_aload_n d_Lw_law_1424 rfl 4 rfl ?_
  refine r_aload_n d_Lw_law_1425 rfl 5 rfl ?_
  refine r_iload d_Lw_law_1426 0 rfl ?_
  refine r_iconst d_Lw_law_1428 (v := 1) (by decide) ?_
  refine r_iadd d_Lw_law_1429 (v := 1) rfl ?_
  refine r_sld (v := zs g 1) d_Lw_law_1430 (by rw [hL]; exact fun q => q.elim (by decide) (by decide)) rfl ?_
  refine r_i2c d_Lw_law_1431 (v := 115) e1 ?_
  refine r_aload_n d_Lw_law_1432 rfl 5 rfl ?_
  refine r_iload d_Lw_law_1433 0 rfl ?_
  refine r_iconst d_Lw_law_1435 (v := 2) (by decide) ?_
  refine r_iadd d_Lw_law_1436 (v := 2) rfl ?_
  refine r_sld (v := zs g 2) d_Lw_law_1437 (by rw [hL]; exact fun q => q.elim (by decide) (by decide)) rfl ?_
  refine r_aload_n d_Lw_law_1438 rfl 2 rfl ?_
  refine r_callSX (As := [.ref a, .int 115, .int (zs g 2), .ref o1]) (rest := []) (csC := [(a, .inr (11, [.ref pa, .ref ta, .ref sa, .ref gs, .ref co, .ref fu, .ref la, .ref gy, .ref du, .ref re, .ref wm, .ref ac])), (fu, .inr (3, [.ref fub, .ref fut1, .ref fut2, .ref fut3, .long 0])), (fub, .inr (6, [.ref fubg, .int 0])), (fubg, .inl (3, 4, .inr (.inl (fun _ => 0)))), (fut1, .inl (3, 4, .inr (.inl (fun _ => 0)))), (fut2, .inl (3, 4, .inr (.inl (fun _ => 0)))), (fut3, .inl (3, 4, .inr (.inl (fun _ => 0)))), (gy, .inr (6, [.ref gyg, .int 0])), (gyg, .inl (3, 4, .inr (.inl (fun _ => 0)))), (du, .inr (6, [.ref dug, .int 0])), (dug, .inl (3, 4, .inr (.inl (fun _ => 0)))), (o1, .inl (3, 1, .inr (.inl (fun _ => 0))))]) (is := [0, 36, 37, 38, 39, 40, 41, 45, 46, 47, 48, 69]) ln_Lw_249 w_st_Lw_charge ok_Lw_law_Lw_charge d_Lw_law_1439 (C_Lw_charge115N g a pa ta sa gs co fu la gy du re wm ac lab labg gyg dug fub fubg fut1 fut2 fut3 (fun _ => 0) (fun _ => 0) (fun _ => 0) (fun _ => 0) (fun _ => 0) (fun _ => 0) 0 0 0 0 (zs g 2) hw hg9 o1 (fun _ => 0)) rfl rfl (Nat.le_of_ble_eq_true rfl) rfl (by decide) (by omega) (by omega) (fun E cs1 hx => ?_) (fun v cs1 hx => ?_)
  · exact absurd hx.1 (by simp)
  · obtain ⟨e1, rfl⟩ := hx
    cases e1
    refine ⟨rfl, ?_⟩
    refine r_st (st2 := [.int 0]) rfl ?_
    refine r_istore (lv' := [(6, .int 0), (5, .int 0), (4, .ref o2), (3, .ref o1), (2, .ref m), (1, .ref a), (0, .ref (g.2.2 40))]) d_Lw_law_1442 (by decide) rfl ?_
    refine r_aload_n d_Lw_law_1444 rfl 4 rfl ?_
    refine r_aload_n d_Lw_law_1445 rfl 6 rfl ?_
    refine r_iload d_Lw_law_1446 1 rfl ?_
    refine r_iconst d_Lw_law_1448 (v := 1) (by decide) ?_
    refine r_iadd d_Lw_law_1449 (v := 1) rfl ?_
    refine r_sld (v := zs g 1) d_Lw_law_1450 (by rw [hL]; exact fun q => q.elim (by decide) (by decide)) rfl ?_
    refine r_i2c d_Lw_law_1451 (v := 115) e1 ?_
    refine r_aload_n d_Lw_law_1452 rfl 6 rfl ?_
    refine r_iload d_Lw_law_1453 1 rfl ?_
    refine r_iconst d_Lw_law_1455 (v := 2) (by decide) ?_
    refine r_iadd d_Lw_law_1456 (v := 2) rfl ?_
    refine r_sld (v := zs g 2) d_Lw_law_1457 (by rw [hL]; exact fun q => q.elim (by decide) (by decide)) rfl ?_
    refine r_callV (As := [.int 115, .int (zs g 2)]) (rest := []) (csC := [(m, .inr (12, [.int 0, .ref mp, .int 4, .ref mf, .ref mh, .ref mn, .ref mt, .ref mz, .ref mc_, .ref mq, .ref mgr, .int 80, .int 35, .int 30, .int 50, .int 0, .int 0, .ref ml, .ref mi, .ref mr, .int 0, .int 0, .int 0, .int (-1), .int 0, .ref mm, .ref mu, .ref mk, .ref mx, .long 0, .long 0])), (mi, .inl (0, 4, .inl (fun _ => 0))), (mr, .inl (3, 16, .inr (.inl (fun _ => 0))))]) (is := [52, 63, 64]) (q0 := 52) rfl rfl ln_Lw_252 w_im_Mm_charge w_se_Mm_charge ok_Lw_law_Mm_charge d_Lw_law_1458 (C_Mm_charge115N g m mp mf mh mn mt mz mc_ mq mgr ml mi mr mm mu mk mx 0 4 80 35 30 50 0 0 0 0 0 (-1) 0 0 0 (fun _ => 0) (fun _ => 0) (zs g 2) hw hg9) rfl rfl (Nat.le_of_ble_eq_true rfl) rfl (by decide) (by omega) (by omega) (fun E cs1 hx => ?_) (fun v cs1 hx => ?_)
    · exact absurd hx.1 (by simp)
    · obtain ⟨e1, rfl⟩ := hx
      cases e1
      refine ⟨rfl, ?_⟩
      refine r_st (st2 := [.int ((fun _ => 0) 0 + (zs g 2))]) rfl ?_
      refine r_istore (lv' := [(7, .int ((fun _ => 0) 0 + (zs g 2))), (6, .int 0), (5, .int 0), (4, .ref o2), (3, .ref o1), (2, .ref m), (1, .ref a), (0, .ref (g.2.2 40))]) d_Lw_law_1461 (by decide) rfl ?_
      refine r_aload_n d_Lw_law_1463 rfl 5 rfl ?_
      refine r_callV (As := []) (rest := []) (csC := [(m, .inr (12, [.int 0, .ref mp, .int 4, .ref mf, .ref mh, .ref mn, .ref mt, .ref mz, .ref mc_, .ref mq, .ref mgr, .int 80, .int 35, .int 30, .int 50, .int 0, .int 0, .ref ml, .ref mi, .ref mr, .int 0, .int 0, .int 0, .int (-1), .int 0, .ref mm, .ref mu, .ref mk, .ref mx, .long 0, .long 0]))]) (is := [52]) (q0 := 52) rfl rfl ln_Lw_175 w_im_Mm_thrown w_se_Mm_thrown ok_Lw_law_Mm_thrown d_Lw_law_1464 (C_Mm_thrown g m mp mf mh mn mt mz mc_ mq mgr ml mi mr mm mu mk mx 0 4 80 35 30 50 0 0 0 0 0 (-1) 0 0 0) rfl rfl (Nat.le_of_ble_eq_true rfl) rfl (by decide) (by omega) (by omega) (fun E cs1 hx => ?_) (fun v cs1 hx => ?_)
      · exact absurd hx.1 (by simp)
      · obtain ⟨e1, rfl⟩ := hx
        cases e1
        refine ⟨rfl, ?_⟩
        refine r_st (st2 := [.int 0]) rfl ?_
        refine r_iload d_Lw_law_1467 1 rfl ?_
        refine r_icmp_eq (tgt := 1474) d_Lw_law_1469 (by decide) (fun c_1469 => ?_) (fun c_1469 => ?_)
        · refine r_iload d_Lw_law_1474 1 rfl ?_
          refine r_if_ne (tgt := 1491) d_Lw_law_1476 (by decide) (fun c_1476 => ?_) (fun c_1476 => ?_)
          · exact absurd c_1476 (by decide)
          · refine r_aload_n d_Lw_law_1479 rfl 4 rfl ?_
            refine r_iconst d_Lw_law_1480 (v := 0) (by decide) ?_
            refine r_lald d_Lw_law_1481 (q0 := 69) rfl (fun q => q.elim (by decide) (by decide)) (v := (vp_updL (fun _ => 0) 0 ((0 + (zs g 2))).toInt64) 0) rfl ?_
            refine r_iload d_Lw_law_1482 0 rfl ?_
            refine r_i2l d_Lw_law_1484 (v := ((fun _ => 0) 0 + (zs g 2)).toInt64) rfl ?_
            refine r_lcmp d_Lw_law_1485 (v := 0) (zl_cmp (rfl)) ?_
            refine r_if_eq (tgt := 1491) d_Lw_law_1486 (by decide) (fun c_1486 => ?_) (fun c_1486 => ?_)
            · refine r_goto (tgt := 3019) d_Lw_law_1491 (by decide) ?_
              refine r_lv (lv' := [(5, .int 0), (0, .ref (g.2.2 40))]) [2, 7] rfl ?_
              exact LW_tail g _ hL _ _ w0 n
            · exact absurd c_1486 (by decide)
        · exact absurd c_1469 (by decide)
set_option maxHeartbeats 4000000 in
set_option maxRecDepth 100000 in
theorem LW_charge102N (g : zG) (a pa pa1 pa2 pa3 ta ta1 ta2 taz taz1 taz2 taz3 taz4 taz5 taz6 ta4 ta5 ta6 sa sa1 sa2 saz saz1 saz2 saz3 saz4 saz5 saz6 sa4 sa5 sa6 gs co co1 co2 co3 fu fub fubg fut1 fut2 fut3 la lab labg gy gyg du dug re wm ac m mp mf mh mn mt mz mc_ mq mgr ml mi mr mm mu mk mx o1 o2 : Nat) (hL : g.2.2 41 = 7) (e1 : zc g 1 = 102) (hw : (1 ≤ (zs g 2) ∧ (zs g 2) ≤ 1000)) (hg9 : ¬ 3000 < 0 + (zs g 2)) (w0 : zW) (n : Nat) : DV g M_Lw_law (lwP) w0 n 1424 [(5, .int 0), (4, .ref o2), (3, .ref o1), (2, .ref m), (1, .ref a), (0, .ref (g.2.2 40))] [] (lwCS g a pa pa1 pa2 pa3 ta ta1 ta2 taz taz1 taz2 taz3 taz4 taz5 taz6 ta4 ta5 ta6 sa sa1 sa2 saz saz1 saz2 saz3 saz4 saz5 saz6 sa4 sa5 sa6 gs co co1 co2 co3 fu fub fubg fut1 fut2 fut3 la lab labg gy gyg du dug re wm ac m mp mf mh mn mt mz mc_ mq mgr ml mi mr mm mu mk mx o1 o2) 100 1000 := by
  refine r_aload_n d_Lw_law_1424 rfl 4 rfl ?_
  refine r_aload_n d_Lw_law_1425 rfl 5 rfl ?_
  refine r_iload d_Lw_law_1426 0 rfl ?_
  refine r_iconst d_Lw_law_1428 (v := 1) (by decide) ?_
  refine r_iadd d_Lw_law_1429 (v := 1) rfl ?_
  refine r_sld (v := zs g 1) d_Lw_law_1430 (by rw [hL]; exact fun q => q.elim (by decide) (by decide)) rfl ?_
  refine r_i2c d_Lw_law_1431 (v := 102) e1 ?_
  refine r_aload_n d_Lw_law_1432 rfl 5 rfl ?_
  refine r_iload d_Lw_law_1433 0 rfl ?_
  refine r_iconst d_Lw_law_1435 (v := 2) (by decide) ?_
  refine r_iadd d_Lw_law_1436 (v := 2) rfl ?_
  refine r_sld (v := zs g 2) d_Lw_law_1437 (by rw [hL]; exact fun q => q.elim (by decide) (by decide)) rfl ?_
  refine r_aload_n d_Lw_law_1438 rfl 2 rfl ?_
  refine r_callSX (As := [.ref a, .int 102, .int (zs g 2), .ref o1]) (rest := []) (csC := [(a, .inr (11, [.ref pa, .ref ta, .ref sa, .ref gs, .ref co, .ref fu, .ref la, .ref gy, .ref du, .ref re, .ref wm, .ref ac])), (fu, .inr (3, [.ref fub, .ref fut1, .ref fut2, .ref fut3, .long 0])), (fub, .inr (6, [.ref fubg, .int 0])), (fubg, .inl (3, 4, .inr (.inl (fun _ => 0)))), (fut1, .inl (3, 4, .inr (.inl (fun _ => 0)))), (fut2, .inl (3, 4, .inr (.inl (fun _ => 0)))), (fut3, .inl (3, 4, .inr (.inl (fun _ => 0)))), (gy, .inr (6, [.ref gyg, .int 0])), (gyg, .inl (3, 4, .inr (.inl (fun _ => 0)))), (du, .inr (6, [.ref dug, .int 0])), (dug, .inl (3, 4, .inr (.inl (fun _ => 0)))), (o1, .inl (3, 1, .inr (.inl (fun _ => 0))))]) (is := [0, 36, 37, 38, 39, 40, 41, 45, 46, 47, 48, 69]) ln_Lw_249 w_st_Lw_charge ok_Lw_law_Lw_charge d_Lw_law_1439 (C_Lw_charge102N g a pa ta sa gs co fu la gy du re wm ac lab labg gyg dug fub fubg fut1 fut2 fut3 (fun _ => 0) (fun _ => 0) (fun _ => 0) (fun _ => 0) (fun _ => 0) (fun _ => 0) 0 0 0 0 (zs g 2) hw hg9 o1 (fun _ => 0)) rfl rfl (Nat.le_of_ble_eq_true rfl) rfl (by decide) (by omega) (by omega) (fun E cs1 hx => ?_) (fun v cs1 hx => ?_)
  · exact absurd hx.1 (by simp)
  · obtain ⟨e1, rfl⟩ := hx
    cases e1
    refine ⟨rfl, ?_⟩
    refine r_st (st2 := [.int 0]) rfl ?_
    refine r_istore (lv' := [(6, .int 0), (5, .int 0), (4, .ref o2), (3, .ref o1), (2, .ref m), (1, .ref a), (0, .ref (g.2.2 40))]) d_Lw_law_1442 (by decide) rfl ?_
    refine r_aload_n d_Lw_law_1444 rfl 4 rfl ?_
    refine r_aload_n d_Lw_law_1445 rfl 6 rfl ?_
    refine r_iload d_Lw_law_1446 1 rfl ?_
    refine r_iconst d_Lw_law_1448 (v := 1) (by decide) ?_
    refine r_iadd d_Lw_law_1449 (v := 1) rfl ?_
    refine r_sld (v := zs g 1) d_Lw_law_1450 (by rw [hL]; exact fun q => q.elim (by decide) (by decide)) rfl ?_
    refine r_i2c d_Lw_law_1451 (v := 102) e1 ?_
    refine r_aload_n d_Lw_law_1452 rfl 6 rfl ?_
    refine r_iload d_Lw_law_1453 1 rfl ?_
    refine r_iconst d_Lw_law_1455 (v := 2) (by decide) ?_
    refine r_iadd d_Lw_law_1456 (v := 2) rfl ?_
    refine r_sld (v := zs g 2) d_Lw_law_1457 (by rw [hL]; exact fun q => q.elim (by decide) (by decide)) rfl ?_
    refine r_callV (As := [.int 102, .int (zs g 2)]) (rest := []) (csC := [(m, .inr (12, [.int 0, .ref mp, .int 4, .ref mf, .ref mh, .ref mn, .ref mt, .ref mz, .ref mc_, .ref mq, .ref mgr, .int 80, .int 35, .int 30, .int 50, .int 0, .int 0, .ref ml, .ref mi, .ref mr, .int 0, .int 0, .int 0, .int (-1), .int 0, .ref mm, .ref mu, .ref mk, .ref mx, .long 0, .long 0])), (mi, .inl (0, 4, .inl (fun _ => 0))), (mr, .inl (3, 16, .inr (.inl (fun _ => 0))))]) (is := [52, 63, 64]) (q0 := 52) rfl rfl ln_Lw_252 w_im_Mm_charge w_se_Mm_charge ok_Lw_law_Mm_charge d_Lw_law_1458 (C_Mm_charge102N g m mp mf mh mn mt mz mc_ mq mgr ml mi mr mm mu mk mx 0 4 80 35 30 50 0 0 0 0 0 (-1) 0 0 0 (fun _ => 0) (fun _ => 0) (zs g 2) hw hg9) rfl rfl (Nat.le_of_ble_eq_true rfl) rfl (by decide) (by omega) (by omega) (fun E cs1 hx => ?_) (fun v cs1 hx => ?_)
    · exact absurd hx.1 (by simp)
    · obtain ⟨e1, rfl⟩ := hx
      cases e1
      refine ⟨rfl, ?_⟩
      refine r_st (st2 := [.int ((fun _ => 0) 0 + (zs g 2))]) rfl ?_
      refine r_istore (lv' := [(7, .int ((fun _ => 0) 0 + (zs g 2))), (6, .int 0), (5, .int 0), (4, .ref o2), (3, .ref o1), (2, .ref m), (1, .ref a), (0, .ref (g.2.2 40))]) d_Lw_law_1461 (by decide) rfl ?_
      refine r_aload_n d_Lw_law_1463 rfl 5 rfl ?_
      refine r_callV (As := []) (rest := []) (csC := [(m, .inr (12, [.int 0, .ref mp, .int 4, .ref mf, .ref mh, .ref mn, .ref mt, .ref mz, .ref mc_, .ref mq, .ref mgr, .int 80, .int 35, .int 30, .int 50, .int 0, .int 0, .ref ml, .ref mi, .ref mr, .int 0, .int 0, .int 0, .int (-1), .int 0, .ref mm, .ref mu, .ref mk, .ref mx, .long 0, .long 0]))]) (is := [52]) (q0 := 52) rfl rfl ln_Lw_175 w_im_Mm_thrown w_se_Mm_thrown ok_Lw_law_Mm_thrown d_Lw_law_1464 (C_Mm_thrown g m mp mf mh mn mt mz mc_ mq mgr ml mi mr mm mu mk mx 0 4 80 35 30 50 0 0 0 0 0 (-1) 0 0 0) rfl rfl (Nat.le_of_ble_eq_true rfl) rfl (by decide) (by omega) (by omega) (fun E cs1 hx => ?_) (fun v cs1 hx => ?_)
      · exact absurd hx.1 (by simp)
      · obtain ⟨e1, rfl⟩ := hx
        cases e1
        refine ⟨rfl, ?_⟩
        refine r_st (st2 := [.int 0]) rfl ?_
        refine r_iload d_Lw_law_1467 1 rfl ?_
        refine r_icmp_eq (tgt := 1474) d_Lw_law_1469 (by decide) (fun c_1469 => ?_) (fun c_1469 => ?_)
        · refine r_iload d_Lw_law_1474 1 rfl ?_
          refine r_if_ne (tgt := 1491) d_Lw_law_1476 (by decide) (fun c_1476 => ?_) (fun c_1476 => ?_)
          · exact absurd c_1476 (by decide)
          · refine r_aload_n d_Lw_law_1479 rfl 4 rfl ?_
            refine r_iconst d_Lw_law_1480 (v := 0) (by decide) ?_
            refine r_lald d_Lw_law_1481 (q0 := 69) rfl (fun q => q.elim (by decide) (by decide)) (v := (vp_updL (fun _ => 0) 0 ((0 + (zs g 2))).toInt64) 0) rfl ?_
            refine r_iload d_Lw_law_1482 0 rfl ?_
            refine r_i2l d_Lw_law_1484 (v := ((fun _ => 0) 0 + (zs g 2)).toInt64) rfl ?_
            refine r_lcmp d_Lw_law_1485 (v := 0) (zl_cmp (rfl)) ?_
            refine r_if_eq (tgt := 1491) d_Lw_law_1486 (by decide) (fun c_1486 => ?_) (fun c_1486 => ?_)
            · refine r_goto (tgt := 3019) d_Lw_law_1491 (by decide) ?_
              refine r_lv (lv' := [(5, .int 0), (0, .ref (g.2.2 40))]) [2, 7] rfl ?_
              exact LW_tail g _ hL _ _ w0 n
            · exact absurd c_1486 (by decide)
        · exact absurd c_1469 (by decide)
set_option maxHeartbeats 4000000 in
set_option maxRecDepth 100000 in
theorem LW_charge107N (g : zG) (a pa pa1 pa2 pa3 ta ta1 ta2 taz taz1 taz2 taz3 taz4 taz5 taz6 ta4 ta5 ta6 sa sa1 sa2 saz saz1 saz2 saz3 saz4 saz5 saz6 sa4 sa5 sa6 gs co co1 co2 co3 fu fub fubg fut1 fut2 fut3 la lab labg gy gyg du dug re wm ac m mp mf mh mn mt mz mc_ mq mgr ml mi mr mm mu mk mx o1 o2 : Nat) (hL : g.2.2 41 = 7) (e1 : zc g 1 = 107) (hw : (1 ≤ (zs g 2) ∧ (zs g 2) ≤ 1000)) (w0 : zW) (n : Nat) : DV g M_Lw_law (lwP) w0 n 1424 [(5, .int 0), (4, .ref o2), (3, .ref o1), (2, .ref m), (1, .ref a), (0, .ref (g.2.2 40))] [] (lwCS g a pa pa1 pa2 pa3 ta ta1 ta2 taz taz1 taz2 taz3 taz4 taz5 taz6 ta4 ta5 ta6 sa sa1 sa2 saz saz1 saz2 saz3 saz4 saz5 saz6 sa4 sa5 sa6 gs co co1 co2 co3 fu fub fubg fut1 fut2 fut3 la lab labg gy gyg du dug re wm ac m mp mf mh mn mt mz mc_ mq mgr ml mi mr mm mu mk mx o1 o2) 100 1000 := by
  refine r_aload_n d_Lw_law_1424 rfl 4 rfl ?_
  refine r_aload_n d_Lw_law_1425 rfl 5 rfl ?_
  refine r_iload d_Lw_law_1426 0 rfl ?_
  refine r_iconst d_Lw_law_1428 (v := 1) (by decide) ?_
  refine r_iadd d_Lw_law_1429 (v := 1) rfl ?_
  refine r_sld (v := zs g 1) d_Lw_law_1430 (by rw [hL]; exact fun q => q.elim (by decide) (by decide)) rfl ?_
  refine r_i2c d_Lw_law_1431 (v := 107) e1 ?_
  refine r_aload_n d_Lw_law_1432 rfl 5 rfl ?_
  refine r_iload d_Lw_law_1433 0 rfl ?_
  refine r_iconst d_Lw_law_1435 (v := 2) (by decide) ?_
  refine r_iadd d_Lw_law_1436 (v := 2) rfl ?_
  refine r_sld (v := zs g 2) d_Lw_law_1437 (by rw [hL]; exact fun q => q.elim (by decide) (by decide)) rfl ?_
  refine r_aload_n d_Lw_law_1438 rfl 2 rfl ?_
  refine r_callSX (As := [.ref a, .int 107, .int (zs g 2), .ref o1]) (rest := []) (csC := [(a, .inr (11, [.ref pa, .ref ta, .ref sa, .ref gs, .ref co, .ref fu, .ref la, .ref gy, .ref du, .ref re, .ref wm, .ref ac])), (fu, .inr (3, [.ref fub, .ref fut1, .ref fut2, .ref fut3, .long 0])), (fub, .inr (6, [.ref fubg, .int 0])), (fubg, .inl (3, 4, .inr (.inl (fun _ => 0)))), (fut1, .inl (3, 4, .inr (.inl (fun _ => 0)))), (fut2, .inl (3, 4, .inr (.inl (fun _ => 0)))), (fut3, .inl (3, 4, .inr (.inl (fun _ => 0)))), (gy, .inr (6, [.ref gyg, .int 0])), (gyg, .inl (3, 4, .inr (.inl (fun _ => 0)))), (du, .inr (6, [.ref dug, .int 0])), (dug, .inl (3, 4, .inr (.inl (fun _ => 0)))), (o1, .inl (3, 1, .inr (.inl (fun _ => 0))))]) (is := [0, 36, 37, 38, 39, 40, 41, 45, 46, 47, 48, 69]) ln_Lw_249 w_st_Lw_charge ok_Lw_law_Lw_charge d_Lw_law_1439 (C_Lw_charge107N g a pa ta sa gs co fu la gy du re wm ac lab labg gyg dug fub fubg fut1 fut2 fut3 (fun _ => 0) (fun _ => 0) (fun _ => 0) (fun _ => 0) (fun _ => 0) (fun _ => 0) 0 0 0 0 (zs g 2) hw (by decide) o1 (fun _ => 0)) rfl rfl (Nat.le_of_ble_eq_true rfl) rfl (by decide) (by omega) (by omega) (fun E cs1 hx => ?_) (fun v cs1 hx => ?_)
  · exact absurd hx.1 (by simp)
  · obtain ⟨e1, rfl⟩ := hx
    cases e1
    refine ⟨rfl, ?_⟩
    refine r_st (st2 := [.int 0]) rfl ?_
    refine r_istore (lv' := [(6, .int 0), (5, .int 0), (4, .ref o2), (3, .ref o1), (2, .ref m), (1, .ref a), (0, .ref (g.2.2 40))]) d_Lw_law_1442 (by decide) rfl ?_
    refine r_aload_n d_Lw_law_1444 rfl 4 rfl ?_
    refine r_aload_n d_Lw_law_1445 rfl 6 rfl ?_
    refine r_iload d_Lw_law_1446 1 rfl ?_
    refine r_iconst d_Lw_law_1448 (v := 1) (by decide) ?_
    refine r_iadd d_Lw_law_1449 (v := 1) rfl ?_
    refine r_sld (v := zs g 1) d_Lw_law_1450 (by rw [hL]; exact fun q => q.elim (by decide) (by decide)) rfl ?_
    refine r_i2c d_Lw_law_1451 (v := 107) e1 ?_
    refine r_aload_n d_Lw_law_1452 rfl 6 rfl ?_
    refine r_iload d_Lw_law_1453 1 rfl ?_
    refine r_iconst d_Lw_law_1455 (v := 2) (by decide) ?_
    refine r_iadd d_Lw_law_1456 (v := 2) rfl ?_
    refine r_sld (v := zs g 2) d_Lw_law_1457 (by rw [hL]; exact fun q => q.elim (by decide) (by decide)) rfl ?_
    refine r_callV (As := [.int 107, .int (zs g 2)]) (rest := []) (csC := [(m, .inr (12, [.int 0, .ref mp, .int 4, .ref mf, .ref mh, .ref mn, .ref mt, .ref mz, .ref mc_, .ref mq, .ref mgr, .int 80, .int 35, .int 30, .int 50, .int 0, .int 0, .ref ml, .ref mi, .ref mr, .int 0, .int 0, .int 0, .int (-1), .int 0, .ref mm, .ref mu, .ref mk, .ref mx, .long 0, .long 0])), (mi, .inl (0, 4, .inl (fun _ => 0))), (mr, .inl (3, 16, .inr (.inl (fun _ => 0))))]) (is := [52, 63, 64]) (q0 := 52) rfl rfl ln_Lw_252 w_im_Mm_charge w_se_Mm_charge ok_Lw_law_Mm_charge d_Lw_law_1458 (C_Mm_charge107N g m mp mf mh mn mt mz mc_ mq mgr ml mi mr mm mu mk mx 0 4 80 35 30 50 0 0 0 0 0 (-1) 0 0 0 (fun _ => 0) (fun _ => 0) (zs g 2) hw) rfl rfl (Nat.le_of_ble_eq_true rfl) rfl (by decide) (by omega) (by omega) (fun E cs1 hx => ?_) (fun v cs1 hx => ?_)
    · exact absurd hx.1 (by simp)
    · obtain ⟨e1, rfl⟩ := hx
      cases e1
      refine ⟨rfl, ?_⟩
      refine r_st (st2 := [.int ((fun _ => 0) 0 + 0)]) rfl ?_
      refine r_istore (lv' := [(7, .int ((fun _ => 0) 0 + 0)), (6, .int 0), (5, .int 0), (4, .ref o2), (3, .ref o1), (2, .ref m), (1, .ref a), (0, .ref (g.2.2 40))]) d_Lw_law_1461 (by decide) rfl ?_
      refine r_aload_n d_Lw_law_1463 rfl 5 rfl ?_
      refine r_callV (As := []) (rest := []) (csC := [(m, .inr (12, [.int 0, .ref mp, .int 4, .ref mf, .ref mh, .ref mn, .ref mt, .ref mz, .ref mc_, .ref mq, .ref mgr, .int 80, .int 35, .int 30, .int 50, .int 0, .int 0, .ref ml, .ref mi, .ref mr, .int 0, .int 0, .int 0, .int (-1), .int 0, .ref mm, .ref mu, .ref mk, .ref mx, .long 0, .long 0]))]) (is := [52]) (q0 := 52) rfl rfl ln_Lw_175 w_im_Mm_thrown w_se_Mm_thrown ok_Lw_law_Mm_thrown d_Lw_law_1464 (C_Mm_thrown g m mp mf mh mn mt mz mc_ mq mgr ml mi mr mm mu mk mx 0 4 80 35 30 50 0 0 0 0 0 (-1) 0 0 0) rfl rfl (Nat.le_of_ble_eq_true rfl) rfl (by decide) (by omega) (by omega) (fun E cs1 hx => ?_) (fun v cs1 hx => ?_)
      · exact absurd hx.1 (by simp)
      · obtain ⟨e1, rfl⟩ := hx
        cases e1
        refine ⟨rfl, ?_⟩
        refine r_st (st2 := [.int 0]) rfl ?_
        refine r_iload d_Lw_law_1467 1 rfl ?_
        refine r_icmp_eq (tgt := 1474) d_Lw_law_1469 (by decide) (fun c_1469 => ?_) (fun c_1469 => ?_)
        · refine r_iload d_Lw_law_1474 1 rfl ?_
          refine r_if_ne (tgt := 1491) d_Lw_law_1476 (by decide) (fun c_1476 => ?_) (fun c_1476 => ?_)
          · exact absurd c_1476 (by decide)
          · refine r_aload_n d_Lw_law_1479 rfl 4 rfl ?_
            refine r_iconst d_Lw_law_1480 (v := 0) (by decide) ?_
            refine r_lald d_Lw_law_1481 (q0 := 69) rfl (fun q => q.elim (by decide) (by decide)) (v := (vp_updL (fun _ => 0) 0 ((0 + 0)).toInt64) 0) rfl ?_
            refine r_iload d_Lw_law_1482 0 rfl ?_
            refine r_i2l d_Lw_law_1484 (v := ((fun _ => 0) 0 + 0).toInt64) rfl ?_
            refine r_lcmp d_Lw_law_1485 (v := 0) (zl_cmp (rfl)) ?_
            refine r_if_eq (tgt := 1491) d_Lw_law_1486 (by decide) (fun c_1486 => ?_) (fun c_1486 => ?_)
            · refine r_goto (tgt := 3019) d_Lw_law_1491 (by decide) ?_
              refine r_lv (lv' := [(5, .int 0), (0, .ref (g.2.2 40))]) [2, 7] rfl ?_
              exact LW_tail g _ hL _ _ w0 n
            · exact absurd c_1486 (by decide)
        · exact absurd c_1469 (by decide)
theorem d_Lw_law_1494 : decode code 1494 = .ok (.aload_n 1, 1) := by decide +kernel
theorem d_Lw_law_1495 : decode code 1495 = .ok (.aload_n 0, 1) := by decide +kernel
theorem d_Lw_law_1496 : decode code 1496 = .ok (.iload 5, 2) := by decide +kernel
theorem d_Lw_law_1498 : decode code 1498 = .ok (.iconst 1, 1) := by decide +kernel
theorem d_Lw_law_1499 : decode code 1499 = .ok (.iadd, 1) := by decide +kernel
theorem d_Lw_law_1500 : decode code 1500 = .ok (.iaload, 1) := by decide +kernel
theorem d_Lw_law_1501 : decode code 1501 = .ok (.i2c, 1) := by decide +kernel
theorem d_Lw_law_1502 : decode code 1502 = .ok (.aload_n 3, 1) := by decide +kernel
theorem d_Lw_law_1503 : decode code 1503 = .ok (.invokestatic 253, 3) := by decide +kernel
theorem ok_Lw_law_Lw_furnace : z_okX M_Lw_law M_Lw_furnace 3 := ⟨z_mem (i := 1084) (by decide +kernel) (by decide +kernel), by decide, ⟨by decide +kernel, by decide +kernel, by decide +kernel⟩, ⟨by decide, by decide⟩, z_mem (i := 57) (by decide +kernel) (by decide +kernel), rfl⟩
theorem ln_Lw_253 : Cond.methodLink "IronpourLaw" 253 M_Lw_furnace.1 ∈ z_gw := z_mem (i := 1082) (by decide +kernel) (by decide +kernel)
theorem w_st_Lw_furnace : Cond.static M_Lw_furnace.1 ∈ z_gw := z_mem (i := 1083) (by decide +kernel) (by decide +kernel)
theorem d_Lw_law_1506 : decode code 1506 = .ok (.istore 6, 2) := by decide +kernel
theorem d_Lw_law_1508 : decode code 1508 = .ok (.aload_n 2, 1) := by decide +kernel
theorem d_Lw_law_1509 : decode code 1509 = .ok (.aload_n 0, 1) := by decide +kernel
theorem d_Lw_law_1510 : decode code 1510 = .ok (.iload 5, 2) := by decide +kernel
theorem d_Lw_law_1512 : decode code 1512 = .ok (.iconst 1, 1) := by decide +kernel
theorem d_Lw_law_1513 : decode code 1513 = .ok (.iadd, 1) := by decide +kernel
theorem d_Lw_law_1514 : decode code 1514 = .ok (.iaload, 1) := by decide +kernel
theorem d_Lw_law_1515 : decode code 1515 = .ok (.i2c, 1) := by decide +kernel
theorem d_Lw_law_1516 : decode code 1516 = .ok (.invokevirtual 255, 3) := by decide +kernel
theorem ok_Lw_law_Mm_furnace : z_ok M_Lw_law M_Mm_furnace 1 := ⟨z_mem (i := 1898) (by decide +kernel) (by decide +kernel), rfl, ⟨by decide +kernel, by decide +kernel, by decide +kernel⟩, ⟨by decide, by decide⟩, z_mem (i := 71) (by decide +kernel) (by decide +kernel), rfl⟩
theorem ln_Lw_255 : Cond.methodLink "IronpourLaw" 255 M_Mm_furnace.1 ∈ z_gw := z_mem (i := 1895) (by decide +kernel) (by decide +kernel)
theorem w_im_Mm_furnace : Cond.instanceMethod M_Mm_furnace.1 ∈ z_gw := z_mem (i := 1896) (by decide +kernel) (by decide +kernel)
theorem w_se_Mm_furnace : Cond.selects M_Mm_furnace.1.cls M_Mm_furnace.1 M_Mm_furnace.1 ∈ z_gw := z_mem (i := 1897) (by decide +kernel) (by decide +kernel)
theorem d_Lw_law_1519 : decode code 1519 = .ok (.istore 7, 2) := by decide +kernel
theorem d_Lw_law_1521 : decode code 1521 = .ok (.aload_n 2, 1) := by decide +kernel
theorem d_Lw_law_1522 : decode code 1522 = .ok (.invokevirtual 175, 3) := by decide +kernel
theorem d_Lw_law_1525 : decode code 1525 = .ok (.iload 6, 2) := by decide +kernel
theorem d_Lw_law_1527 : decode code 1527 = .ok (.if_icmp .eq 5, 3) := by decide +kernel
theorem d_Lw_law_1532 : decode code 1532 = .ok (.iload 6, 2) := by decide +kernel
theorem d_Lw_law_1534 : decode code 1534 = .ok (.ifCond .ne 15, 3) := by decide +kernel
theorem d_Lw_law_1549 : decode code 1549 = .ok (.goto 1470, 3) := by decide +kernel
set_option maxHeartbeats 4000000 in
set_option maxRecDepth 100000 in
theorem LW_furnaceE (g : zG) (a pa pa1 pa2 pa3 ta ta1 ta2 taz taz1 taz2 taz3 taz4 taz5 taz6 ta4 ta5 ta6 sa sa1 sa2 saz saz1 saz2 saz3 saz4 saz5 saz6 sa4 sa5 sa6 gs co co1 co2 co3 fu fub fubg fut1 fut2 fut3 la lab labg gy gyg du dug re wm ac m mp mf mh mn mt mz mc_ mq mgr ml mi mr mm mu mk mx o1 o2 : Nat) (hL : g.2.2 41 = 7) (hk : z_ix 2 (zc g 1) < 0) (w0 : zW) (n : Nat) : DV g M_Lw_law (lwP) w0 n 1494 [(5, .int 0), (4, .ref o2), (3, .ref o1), (2, .ref m), (1, .ref a), (0, .ref (g.2.2 40))] [] (lwCS g a pa pa1 pa2 pa3 ta ta1 ta2 taz taz1 taz2 taz3 taz4 taz5 taz6 ta4 ta5 ta6 sa sa1 sa2 saz saz1 saz2 saz3 saz4 saz5 saz6 sa4 sa5 sa6 gs co co1 co2 co3 fu fub fubg fut1 fut2 fut3 la lab labg gy gyg du dug re wm ac m mp mf mh mn mt mz mc_ mq mgr ml mi mr mm mu mk mx o1 o2) 100 1000 := by
  refine r_aload_n d_Lw_law_1494 rfl 4 rfl ?_
  refine r_aload_n d_Lw_law_1495 rfl 5 rfl ?_
  refine r_iload d_Lw_law_1496 0 rfl ?_
  refine r_iconst d_Lw_law_1498 (v := 1) (by decide) ?_
  refine r_iadd d_Lw_law_1499 (v := 1) rfl ?_
  refine r_sld (v := zs g 1) d_Lw_law_1500 (by rw [hL]; exact fun q => q.elim (by decide) (by decide)) rfl ?_
  refine r_i2c d_Lw_law_1501 (v := zc g 1) rfl ?_
  refine r_aload_n d_Lw_law_1502 rfl 2 rfl ?_
  refine r_callSX (As := [.ref a, .int (zc g 1), .ref o1]) (rest := []) (csC := [(a, .inr (11, [.ref pa, .ref ta, .ref sa, .ref gs, .ref co, .ref fu, .ref la, .ref gy, .ref du, .ref re, .ref wm, .ref ac])), (fu, .inr (3, [.ref fub, .ref fut1, .ref fut2, .ref fut3, .long 0])), (fub, .inr (6, [.ref fubg, .int 0])), (fubg, .inl (3, 4, .inr (.inl (fun _ => 0)))), (o1, .inl (3, 1, .inr (.inl (fun _ => 0))))]) (is := [0, 36, 37, 38, 69]) ln_Lw_253 w_st_Lw_furnace ok_Lw_law_Lw_furnace d_Lw_law_1503 (C_Lw_furnaceE g a pa ta sa gs co fu la gy du re wm ac fub fubg fut1 fut2 fut3 (fun _ => 0) 0 0 (zc g 1) hk o1 (fun _ => 0)) rfl rfl (Nat.le_of_ble_eq_true rfl) rfl (by decide) (by omega) (by omega) (fun E cs1 hx => ?_) (fun v cs1 hx => ?_)
  · exact absurd hx.1 (by simp)
  · obtain ⟨e1, rfl⟩ := hx
    cases e1
    refine ⟨rfl, ?_⟩
    refine r_st (st2 := [.int 1]) rfl ?_
    refine r_istore (lv' := [(6, .int 1), (5, .int 0), (4, .ref o2), (3, .ref o1), (2, .ref m), (1, .ref a), (0, .ref (g.2.2 40))]) d_Lw_law_1506 (by decide) rfl ?_
    refine r_aload_n d_Lw_law_1508 rfl 4 rfl ?_
    refine r_aload_n d_Lw_law_1509 rfl 6 rfl ?_
    refine r_iload d_Lw_law_1510 1 rfl ?_
    refine r_iconst d_Lw_law_1512 (v := 1) (by decide) ?_
    refine r_iadd d_Lw_law_1513 (v := 1) rfl ?_
    refine r_sld (v := zs g 1) d_Lw_law_1514 (by rw [hL]; exact fun q => q.elim (by decide) (by decide)) rfl ?_
    refine r_i2c d_Lw_law_1515 (v := zc g 1) rfl ?_
    refine r_callV (As := [.int (zc g 1)]) (rest := []) (csC := [(m, .inr (12, [.int 0, .ref mp, .int 4, .ref mf, .ref mh, .ref mn, .ref mt, .ref mz, .ref mc_, .ref mq, .ref mgr, .int 80, .int 35, .int 30, .int 50, .int 0, .int 0, .ref ml, .ref mi, .ref mr, .int 0, .int 0, .int 0, .int (-1), .int 0, .ref mm, .ref mu, .ref mk, .ref mx, .long 0, .long 0]))]) (is := [52]) (q0 := 52) rfl rfl ln_Lw_255 w_im_Mm_furnace w_se_Mm_furnace ok_Lw_law_Mm_furnace d_Lw_law_1516 (C_Mm_furnaceE g m mp mf mh mn mt mz mc_ mq mgr ml mi mr mm mu mk mx 0 4 80 35 30 50 0 0 0 0 0 (-1) 0 0 0 (zc g 1) hk) rfl rfl (Nat.le_of_ble_eq_true rfl) rfl (by decide) (by omega) (by omega) (fun E cs1 hx => ?_) (fun v cs1 hx => ?_)
    · exact absurd hx.1 (by simp)
    · obtain ⟨e1, rfl⟩ := hx
      cases e1
      refine ⟨rfl, ?_⟩
      refine r_st (st2 := [.int 0]) rfl ?_
      refine r_istore (lv' := [(7, .int 0), (6, .int 1), (5, .int 0), (4, .ref o2), (3, .ref o1), (2, .ref m), (1, .ref a), (0, .ref (g.2.2 40))]) d_Lw_law_1519 (by decide) rfl ?_
      refine r_aload_n d_Lw_law_1521 rfl 5 rfl ?_
      refine r_callV (As := []) (rest := []) (csC := [(m, .inr (12, [.int 1, .ref mp, .int 4, .ref mf, .ref mh, .ref mn, .ref mt, .ref mz, .ref mc_, .ref mq, .ref mgr, .int 80, .int 35, .int 30, .int 50, .int 0, .int 0, .ref ml, .ref mi, .ref mr, .int 0, .int 0, .int 0, .int (-1), .int 0, .ref mm, .ref mu, .ref mk, .ref mx, .long 0, .long 0]))]) (is := [52]) (q0 := 52) rfl rfl ln_Lw_175 w_im_Mm_thrown w_se_Mm_thrown ok_Lw_law_Mm_thrown d_Lw_law_1522 (C_Mm_thrown g m mp mf mh mn mt mz mc_ mq mgr ml mi mr mm mu mk mx 1 4 80 35 30 50 0 0 0 0 0 (-1) 0 0 0) rfl rfl (Nat.le_of_ble_eq_true rfl) rfl (by decide) (by omega) (by omega) (fun E cs1 hx => ?_) (fun v cs1 hx => ?_)
      · exact absurd hx.1 (by simp)
      · obtain ⟨e1, rfl⟩ := hx
        cases e1
        refine ⟨rfl, ?_⟩
        refine r_st (st2 := [.int 1]) rfl ?_
        refine r_iload d_Lw_law_1525 1 rfl ?_
        refine r_icmp_eq (tgt := 1532) d_Lw_law_1527 (by decide) (fun c_1527 => ?_) (fun c_1527 => ?_)
        · refine r_iload d_Lw_law_1532 1 rfl ?_
          refine r_if_ne (tgt := 1549) d_Lw_law_1534 (by decide) (fun c_1534 => ?_) (fun c_1534 => ?_)
          · refine r_goto (tgt := 3019) d_Lw_law_1549 (by decide) ?_
            refine r_lv (lv' := [(5, .int 0), (0, .ref (g.2.2 40))]) [2, 7] rfl ?_
            exact LW_tail g _ hL _ _ w0 n
          · exact absurd c_1534 (by decide)
        · exact absurd c_1527 (by decide)
set_option maxHeartbeats 4000000 in
set_option maxRecDepth 100000 in
theorem LW_furnaceF (g : zG) (a pa pa1 pa2 pa3 ta ta1 ta2 taz taz1 taz2 taz3 taz4 taz5 taz6 ta4 ta5 ta6 sa sa1 sa2 saz saz1 saz2 saz3 saz4 saz5 saz6 sa4 sa5 sa6 gs co co1 co2 co3 fu fub fubg fut1 fut2 fut3 la lab labg gy gyg du dug re wm ac m mp mf mh mn mt mz mc_ mq mgr ml mi mr mm mu mk mx o1 o2 : Nat) (hL : g.2.2 41 = 7) (e : Nat) (he : e < 4) (hk : z_ix 2 (zc g 1) = nI e) (hk2 : ¬ z_ix 2 (zc g 1) < 0) (w0 : zW) (n : Nat) : DV g M_Lw_law (lwP) w0 n 1494 [(5, .int 0), (4, .ref o2), (3, .ref o1), (2, .ref m), (1, .ref a), (0, .ref (g.2.2 40))] [] (lwCS g a pa pa1 pa2 pa3 ta ta1 ta2 taz taz1 taz2 taz3 taz4 taz5 taz6 ta4 ta5 ta6 sa sa1 sa2 saz saz1 saz2 saz3 saz4 saz5 saz6 sa4 sa5 sa6 gs co co1 co2 co3 fu fub fubg fut1 fut2 fut3 la lab labg gy gyg du dug re wm ac m mp mf mh mn mt mz mc_ mq mgr ml mi mr mm mu mk mx o1 o2) 100 1000 := by
  refine r_aload_n d_Lw_law_1494 rfl 4 rfl ?_
  refine r_aload_n d_Lw_law_1495 rfl 5 rfl ?_
  refine r_iload d_Lw_law_1496 0 rfl ?_
  refine r_iconst d_Lw_law_1498 (v := 1) (by decide) ?_
  refine r_iadd d_Lw_law_1499 (v := 1) rfl ?_
  refine r_sld (v := zs g 1) d_Lw_law_1500 (by rw [hL]; exact fun q => q.elim (by decide) (by decide)) rfl ?_
  refine r_i2c d_Lw_law_1501 (v := zc g 1) rfl ?_
  refine r_aload_n d_Lw_law_1502 rfl 2 rfl ?_
  refine r_callSX (As := [.ref a, .int (zc g 1), .ref o1]) (rest := []) (csC := [(a, .inr (11, [.ref pa, .ref ta, .ref sa, .ref gs, .ref co, .ref fu, .ref la, .ref gy, .ref du, .ref re, .ref wm, .ref ac])), (fu, .inr (3, [.ref fub, .ref fut1, .ref fut2, .ref fut3, .long 0])), (fub, .inr (6, [.ref fubg, .int 0])), (fubg, .inl (3, 4, .inr (.inl (fun _ => 0)))), (o1, .inl (3, 1, .inr (.inl (fun _ => 0))))]) (is := [0, 36, 37, 38, 69]) ln_Lw_253 w_st_Lw_furnace ok_Lw_law_Lw_furnace d_Lw_law_1503 (C_Lw_furnaceF g a pa ta sa gs co fu la gy du re wm ac fub fubg fut1 fut2 fut3 (fun _ => 0) 0 0 (zc g 1) e he hk (by decide) o1 (fun _ => 0)) rfl rfl (Nat.le_of_ble_eq_true rfl) rfl (by decide) (by omega) (by omega) (fun E cs1 hx => ?_) (fun v cs1 hx => ?_)
  · exact absurd hx.1 (by simp)
  · obtain ⟨e1, rfl⟩ := hx
    cases e1
    refine ⟨rfl, ?_⟩
    refine r_st (st2 := [.int 2]) rfl ?_
    refine r_istore (lv' := [(6, .int 2), (5, .int 0), (4, .ref o2), (3, .ref o1), (2, .ref m), (1, .ref a), (0, .ref (g.2.2 40))]) d_Lw_law_1506 (by decide) rfl ?_
    refine r_aload_n d_Lw_law_1508 rfl 4 rfl ?_
    refine r_aload_n d_Lw_law_1509 rfl 6 rfl ?_
    refine r_iload d_Lw_law_1510 1 rfl ?_
    refine r_iconst d_Lw_law_1512 (v := 1) (by decide) ?_
    refine r_iadd d_Lw_law_1513 (v := 1) rfl ?_
    refine r_sld (v := zs g 1) d_Lw_law_1514 (by rw [hL]; exact fun q => q.elim (by decide) (by decide)) rfl ?_
    refine r_i2c d_Lw_law_1515 (v := zc g 1) rfl ?_
    refine r_callV (As := [.int (zc g 1)]) (rest := []) (csC := [(m, .inr (12, [.int 0, .ref mp, .int 4, .ref mf, .ref mh, .ref mn, .ref mt, .ref mz, .ref mc_, .ref mq, .ref mgr, .int 80, .int 35, .int 30, .int 50, .int 0, .int 0, .ref ml, .ref mi, .ref mr, .int 0, .int 0, .int 0, .int (-1), .int 0, .ref mm, .ref mu, .ref mk, .ref mx, .long 0, .long 0])), (mi, .inl (0, 4, .inl (fun _ => 0)))]) (is := [52, 63]) (q0 := 52) rfl rfl ln_Lw_255 w_im_Mm_furnace w_se_Mm_furnace ok_Lw_law_Mm_furnace d_Lw_law_1516 (C_Mm_furnaceF g m mp mf mh mn mt mz mc_ mq mgr ml mi mr mm mu mk mx 0 4 80 35 30 50 0 0 0 0 0 (-1) 0 0 0 (fun _ => 0) (zc g 1) hk2 rfl) rfl rfl (Nat.le_of_ble_eq_true rfl) rfl (by decide) (by omega) (by omega) (fun E cs1 hx => ?_) (fun v cs1 hx => ?_)
    · exact absurd hx.1 (by simp)
    · obtain ⟨e1, rfl⟩ := hx
      cases e1
      refine ⟨rfl, ?_⟩
      refine r_st (st2 := [.int 0]) rfl ?_
      refine r_istore (lv' := [(7, .int 0), (6, .int 2), (5, .int 0), (4, .ref o2), (3, .ref o1), (2, .ref m), (1, .ref a), (0, .ref (g.2.2 40))]) d_Lw_law_1519 (by decide) rfl ?_
      refine r_aload_n d_Lw_law_1521 rfl 5 rfl ?_
      refine r_callV (As := []) (rest := []) (csC := [(m, .inr (12, [.int 2, .ref mp, .int 4, .ref mf, .ref mh, .ref mn, .ref mt, .ref mz, .ref mc_, .ref mq, .ref mgr, .int 80, .int 35, .int 30, .int 50, .int 0, .int 0, .ref ml, .ref mi, .ref mr, .int 0, .int 0, .int 0, .int (-1), .int 0, .ref mm, .ref mu, .ref mk, .ref mx, .long 0, .long 0]))]) (is := [52]) (q0 := 52) rfl rfl ln_Lw_175 w_im_Mm_thrown w_se_Mm_thrown ok_Lw_law_Mm_thrown d_Lw_law_1522 (C_Mm_thrown g m mp mf mh mn mt mz mc_ mq mgr ml mi mr mm mu mk mx 2 4 80 35 30 50 0 0 0 0 0 (-1) 0 0 0) rfl rfl (Nat.le_of_ble_eq_true rfl) rfl (by decide) (by omega) (by omega) (fun E cs1 hx => ?_) (fun v cs1 hx => ?_)
      · exact absurd hx.1 (by simp)
      · obtain ⟨e1, rfl⟩ := hx
        cases e1
        refine ⟨rfl, ?_⟩
        refine r_st (st2 := [.int 2]) rfl ?_
        refine r_iload d_Lw_law_1525 1 rfl ?_
        refine r_icmp_eq (tgt := 1532) d_Lw_law_1527 (by decide) (fun c_1527 => ?_) (fun c_1527 => ?_)
        · refine r_iload d_Lw_law_1532 1 rfl ?_
          refine r_if_ne (tgt := 1549) d_Lw_law_1534 (by decide) (fun c_1534 => ?_) (fun c_1534 => ?_)
          · refine r_goto (tgt := 3019) d_Lw_law_1549 (by decide) ?_
            refine r_lv (lv' := [(5, .int 0), (0, .ref (g.2.2 40))]) [2, 7] rfl ?_
            exact LW_tail g _ hL _ _ w0 n
          · exact absurd c_1534 (by decide)
        · exact absurd c_1527 (by decide)
theorem d_Lw_law_1552 : decode code 1552 = .ok (.aload_n 1, 1) := by decide +kernel
theorem d_Lw_law_1553 : decode code 1553 = .ok (.aload_n 0, 1) := by decide +kernel
theorem d_Lw_law_1554 : decode code 1554 = .ok (.iload 5, 2) := by decide +kernel
theorem d_Lw_law_1556 : decode code 1556 = .ok (.iconst 1, 1) := by decide +kernel
theorem d_Lw_law_1557 : decode code 1557 = .ok (.iadd, 1) := by decide +kernel
theorem d_Lw_law_1558 : decode code 1558 = .ok (.iaload, 1) := by decide +kernel
theorem d_Lw_law_1559 : decode code 1559 = .ok (.aload_n 3, 1) := by decide +kernel
theorem d_Lw_law_1560 : decode code 1560 = .ok (.invokestatic 256, 3) := by decide +kernel
theorem ok_Lw_law_Lw_hold : z_okX M_Lw_law M_Lw_hold 3 := ⟨z_mem (i := 1102) (by decide +kernel) (by decide +kernel), by decide, ⟨by decide +kernel, by decide +kernel, by decide +kernel⟩, ⟨by decide, by decide⟩, z_mem (i := 57) (by decide +kernel) (by decide +kernel), rfl⟩
theorem ln_Lw_256 : Cond.methodLink "IronpourLaw" 256 M_Lw_hold.1 ∈ z_gw := z_mem (i := 1100) (by decide +kernel) (by decide +kernel)
theorem w_st_Lw_hold : Cond.static M_Lw_hold.1 ∈ z_gw := z_mem (i := 1101) (by decide +kernel) (by decide +kernel)
theorem d_Lw_law_1563 : decode code 1563 = .ok (.istore 6, 2) := by decide +kernel
theorem d_Lw_law_1565 : decode code 1565 = .ok (.aload_n 2, 1) := by decide +kernel
theorem d_Lw_law_1566 : decode code 1566 = .ok (.aload_n 0, 1) := by decide +kernel
theorem d_Lw_law_1567 : decode code 1567 = .ok (.iload 5, 2) := by decide +kernel
theorem d_Lw_law_1569 : decode code 1569 = .ok (.iconst 1, 1) := by decide +kernel
theorem d_Lw_law_1570 : decode code 1570 = .ok (.iadd, 1) := by decide +kernel
theorem d_Lw_law_1571 : decode code 1571 = .ok (.iaload, 1) := by decide +kernel
theorem d_Lw_law_1572 : decode code 1572 = .ok (.invokevirtual 258, 3) := by decide +kernel
theorem ok_Lw_law_Mm_hold : z_ok M_Lw_law M_Mm_hold 1 := ⟨z_mem (i := 1910) (by decide +kernel) (by decide +kernel), rfl, ⟨by decide +kernel, by decide +kernel, by decide +kernel⟩, ⟨by decide, by decide⟩, z_mem (i := 71) (by decide +kernel) (by decide +kernel), rfl⟩
theorem ln_Lw_258 : Cond.methodLink "IronpourLaw" 258 M_Mm_hold.1 ∈ z_gw := z_mem (i := 1907) (by decide +kernel) (by decide +kernel)
theorem w_im_Mm_hold : Cond.instanceMethod M_Mm_hold.1 ∈ z_gw := z_mem (i := 1908) (by decide +kernel) (by decide +kernel)
theorem w_se_Mm_hold : Cond.selects M_Mm_hold.1.cls M_Mm_hold.1 M_Mm_hold.1 ∈ z_gw := z_mem (i := 1909) (by decide +kernel) (by decide +kernel)
theorem d_Lw_law_1575 : decode code 1575 = .ok (.istore 7, 2) := by decide +kernel
theorem d_Lw_law_1577 : decode code 1577 = .ok (.aload_n 2, 1) := by decide +kernel
theorem d_Lw_law_1578 : decode code 1578 = .ok (.invokevirtual 175, 3) := by decide +kernel
theorem d_Lw_law_1581 : decode code 1581 = .ok (.iload 6, 2) := by decide +kernel
theorem d_Lw_law_1583 : decode code 1583 = .ok (.if_icmp .eq 5, 3) := by decide +kernel
theorem d_Lw_law_1588 : decode code 1588 = .ok (.iload 6, 2) := by decide +kernel
theorem d_Lw_law_1590 : decode code 1590 = .ok (.ifCond .ne 15, 3) := by decide +kernel
theorem d_Lw_law_1605 : decode code 1605 = .ok (.goto 1414, 3) := by decide +kernel
set_option maxHeartbeats 4000000 in
set_option maxRecDepth 100000 in
theorem LW_holdE (g : zG) (a pa pa1 pa2 pa3 ta ta1 ta2 taz taz1 taz2 taz3 taz4 taz5 taz6 ta4 ta5 ta6 sa sa1 sa2 saz saz1 saz2 saz3 saz4 saz5 saz6 sa4 sa5 sa6 gs co co1 co2 co3 fu fub fubg fut1 fut2 fut3 la lab labg gy gyg du dug re wm ac m mp mf mh mn mt mz mc_ mq mgr ml mi mr mm mu mk mx o1 o2 : Nat) (hL : g.2.2 41 = 7) (hw : ¬ (1 ≤ (zs g 1) ∧ (zs g 1) ≤ 120)) (w0 : zW) (n : Nat) : DV g M_Lw_law (lwP) w0 n 1552 [(5, .int 0), (4, .ref o2), (3, .ref o1), (2, .ref m), (1, .ref a), (0, .ref (g.2.2 40))] [] (lwCS g a pa pa1 pa2 pa3 ta ta1 ta2 taz taz1 taz2 taz3 taz4 taz5 taz6 ta4 ta5 ta6 sa sa1 sa2 saz saz1 saz2 saz3 saz4 saz5 saz6 sa4 sa5 sa6 gs co co1 co2 co3 fu fub fubg fut1 fut2 fut3 la lab labg gy gyg du dug re wm ac m mp mf mh mn mt mz mc_ mq mgr ml mi mr mm mu mk mx o1 o2) 100 1000 := by
  refine r_aload_n d_Lw_law_1552 rfl 4 rfl ?_
  refine r_aload_n d_Lw_law_1553 rfl 5 rfl ?_
  refine r_iload d_Lw_law_1554 0 rfl ?_
  refine r_iconst d_Lw_law_1556 (v := 1) (by decide) ?_
  refine r_iadd d_Lw_law_1557 (v := 1) rfl ?_
  refine r_sld (v := zs g 1) d_Lw_law_1558 (by rw [hL]; exact fun q => q.elim (by decide) (by decide)) rfl ?_
  refine r_aload_n d_Lw_law_1559 rfl 2 rfl ?_
  refine r_callSX (As := [.ref a, .int (zs g 1), .ref o1]) (rest := []) (csC := [(a, .inr (11, [.ref pa, .ref ta, .ref sa, .ref gs, .ref co, .ref fu, .ref la, .ref gy, .ref du, .ref re, .ref wm, .ref ac])), (fu, .inr (3, [.ref fub, .ref fut1, .ref fut2, .ref fut3, .long 0])), (fub, .inr (6, [.ref fubg, .int 0])), (fubg, .inl (3, 4, .inr (.inl (fun _ => 0)))), (fut1, .inl (3, 4, .inr (.inl (fun _ => 0)))), (fut2, .inl (3, 4, .inr (.inl (fun _ => 0)))), (fut3, .inl (3, 4, .inr (.inl (fun _ => 0)))), (o1, .inl (3, 1, .inr (.inl (fun _ => 0))))]) (is := [0, 36, 37, 38, 39, 40, 41, 69]) ln_Lw_256 w_st_Lw_hold ok_Lw_law_Lw_hold d_Lw_law_1560 (C_Lw_holdE g a pa ta sa gs co fu la gy du re wm ac fub fubg fut1 fut2 fut3 (fun _ => 0) (fun _ => 0) (fun _ => 0) (fun _ => 0) 0 0 (zs g 1) hw o1 (fun _ => 0)) rfl rfl (Nat.le_of_ble_eq_true rfl) rfl (by decide) (by omega) (by omega) (fun E cs1 hx => ?_) (fun v cs1 hx => ?_)
  · exact absurd hx.1 (by simp)
  · obtain ⟨e1, rfl⟩ := hx
    cases e1
    refine ⟨rfl, ?_⟩
    refine r_st (st2 := [.int 1]) rfl ?_
    refine r_istore (lv' := [(6, .int 1), (5, .int 0), (4, .ref o2), (3, .ref o1), (2, .ref m), (1, .ref a), (0, .ref (g.2.2 40))]) d_Lw_law_1563 (by decide) rfl ?_
    refine r_aload_n d_Lw_law_1565 rfl 4 rfl ?_
    refine r_aload_n d_Lw_law_1566 rfl 6 rfl ?_
    refine r_iload d_Lw_law_1567 1 rfl ?_
    refine r_iconst d_Lw_law_1569 (v := 1) (by decide) ?_
    refine r_iadd d_Lw_law_1570 (v := 1) rfl ?_
    refine r_sld (v := zs g 1) d_Lw_law_1571 (by rw [hL]; exact fun q => q.elim (by decide) (by decide)) rfl ?_
    refine r_callV (As := [.int (zs g 1)]) (rest := []) (csC := [(m, .inr (12, [.int 0, .ref mp, .int 4, .ref mf, .ref mh, .ref mn, .ref mt, .ref mz, .ref mc_, .ref mq, .ref mgr, .int 80, .int 35, .int 30, .int 50, .int 0, .int 0, .ref ml, .ref mi, .ref mr, .int 0, .int 0, .int 0, .int (-1), .int 0, .ref mm, .ref mu, .ref mk, .ref mx, .long 0, .long 0]))]) (is := [52]) (q0 := 52) rfl rfl ln_Lw_258 w_im_Mm_hold w_se_Mm_hold ok_Lw_law_Mm_hold d_Lw_law_1572 (C_Mm_holdE g m mp mf mh mn mt mz mc_ mq mgr ml mi mr mm mu mk mx 0 4 80 35 30 50 0 0 0 0 0 (-1) 0 0 0 (zs g 1) hw) rfl rfl (Nat.le_of_ble_eq_true rfl) rfl (by decide) (by omega) (by omega) (fun E cs1 hx => ?_) (fun v cs1 hx => ?_)
    · exact absurd hx.1 (by simp)
    · obtain ⟨e1, rfl⟩ := hx
      cases e1
      refine ⟨rfl, ?_⟩
      refine r_st (st2 := [.int 0]) rfl ?_
      refine r_istore (lv' := [(7, .int 0), (6, .int 1), (5, .int 0), (4, .ref o2), (3, .ref o1), (2, .ref m), (1, .ref a), (0, .ref (g.2.2 40))]) d_Lw_law_1575 (by decide) rfl ?_
      refine r_aload_n d_Lw_law_1577 rfl 5 rfl ?_
      refine r_callV (As := []) (rest := []) (csC := [(m, .inr (12, [.int 1, .ref mp, .int 4, .ref mf, .ref mh, .ref mn, .ref mt, .ref mz, .ref mc_, .ref mq, .ref mgr, .int 80, .int 35, .int 30, .int 50, .int 0, .int 0, .ref ml, .ref mi, .ref mr, .int 0, .int 0, .int 0, .int (-1), .int 0, .ref mm, .ref mu, .ref mk, .ref mx, .long 0, .long 0]))]) (is := [52]) (q0 := 52) rfl rfl ln_Lw_175 w_im_Mm_thrown w_se_Mm_thrown ok_Lw_law_Mm_thrown d_Lw_law_1578 (C_Mm_thrown g m mp mf mh mn mt mz mc_ mq mgr ml mi mr mm mu mk mx 1 4 80 35 30 50 0 0 0 0 0 (-1) 0 0 0) rfl rfl (Nat.le_of_ble_eq_true rfl) rfl (by decide) (by omega) (by omega) (fun E cs1 hx => ?_) (fun v cs1 hx => ?_)
      · exact absurd hx.1 (by simp)
      · obtain ⟨e1, rfl⟩ := hx
        cases e1
        refine ⟨rfl, ?_⟩
        refine r_st (st2 := [.int 1]) rfl ?_
        refine r_iload d_Lw_law_1581 1 rfl ?_
        refine r_icmp_eq (tgt := 1588) d_Lw_law_1583 (by decide) (fun c_1583 => ?_) (fun c_1583 => ?_)
        · refine r_iload d_Lw_law_1588 1 rfl ?_
          refine r_if_ne (tgt := 1605) d_Lw_law_1590 (by decide) (fun c_1590 => ?_) (fun c_1590 => ?_)
          · refine r_goto (tgt := 3019) d_Lw_law_1605 (by decide) ?_
            refine r_lv (lv' := [(5, .int 0), (0, .ref (g.2.2 40))]) [2, 7] rfl ?_
            exact LW_tail g _ hL _ _ w0 n
          · exact absurd c_1590 (by decide)
        · exact absurd c_1583 (by decide)
theorem d_Lw_law_1593 : decode code 1593 = .ok (.aload_n 3, 1) := by decide +kernel
theorem d_Lw_law_1594 : decode code 1594 = .ok (.iconst 0, 1) := by decide +kernel
theorem d_Lw_law_1595 : decode code 1595 = .ok (.laload, 1) := by decide +kernel
theorem d_Lw_law_1596 : decode code 1596 = .ok (.iload 7, 2) := by decide +kernel
theorem d_Lw_law_1598 : decode code 1598 = .ok (.i2l, 1) := by decide +kernel
theorem d_Lw_law_1599 : decode code 1599 = .ok (.lcmp, 1) := by decide +kernel
theorem d_Lw_law_1600 : decode code 1600 = .ok (.ifCond .eq 5, 3) := by decide +kernel
set_option maxHeartbeats 4000000 in
set_option maxRecDepth 100000 in
theorem LW_holdN (g : zG) (a pa pa1 pa2 pa3 ta ta1 ta2 taz taz1 taz2 taz3 taz4 taz5 taz6 ta4 ta5 ta6 sa sa1 sa2 saz saz1 saz2 saz3 saz4 saz5 saz6 sa4 sa5 sa6 gs co co1 co2 co3 fu fub fubg fut1 fut2 fut3 la lab labg gy gyg du dug re wm ac m mp mf mh mn mt mz mc_ mq mgr ml mi mr mm mu mk mx o1 o2 : Nat) (hL : g.2.2 41 = 7) (nm : Nat) (hn9 : nm < 1000) (e1 : zs g 1 = nI nm) (hw : (1 ≤ nI nm ∧ nI nm ≤ 120)) (w0 : zW) (n : Nat) : DV g M_Lw_law (lwP) w0 n 1552 [(5, .int 0), (4, .ref o2), (3, .ref o1), (2, .ref m), (1, .ref a), (0, .ref (g.2.2 40))] [] (lwCS g a pa pa1 pa2 pa3 ta ta1 ta2 taz taz1 taz2 taz3 taz4 taz5 taz6 ta4 ta5 ta6 sa sa1 sa2 saz saz1 saz2 saz3 saz4 saz5 saz6 sa4 sa5 sa6 gs co co1 co2 co3 fu fub fubg fut1 fut2 fut3 la lab labg gy gyg du dug re wm ac m mp mf mh mn mt mz mc_ mq mgr ml mi mr mm mu mk mx o1 o2) 100 1000 := by
  refine r_aload_n d_Lw_law_1552 rfl 4 rfl ?_
  refine r_aload_n d_Lw_law_1553 rfl 5 rfl ?_
  refine r_iload d_Lw_law_1554 0 rfl ?_
  refine r_iconst d_Lw_law_1556 (v := 1) (by decide) ?_
  refine r_iadd d_Lw_law_1557 (v := 1) rfl ?_
  refine r_sld (v := nI nm) d_Lw_law_1558 (by rw [hL]; exact fun q => q.elim (by decide) (by decide)) e1 ?_
  refine r_aload_n d_Lw_law_1559 rfl 2 rfl ?_
  refine r_callSX (As := [.ref a, .int (nI nm), .ref o1]) (rest := []) (csC := [(a, .inr (11, [.ref pa, .ref ta, .ref sa, .ref gs, .ref co, .ref fu, .ref la, .ref gy, .ref du, .ref re, .ref wm, .ref ac])), (fu, .inr (3, [.ref fub, .ref fut1, .ref fut2, .ref fut3, .long 0])), (fub, .inr (6, [.ref fubg, .int 0])), (fubg, .inl (3, 4, .inr (.inl (fun _ => 0)))), (fut1, .inl (3, 4, .inr (.inl (fun _ => 0)))), (fut2, .inl (3, 4, .inr (.inl (fun _ => 0)))), (fut3, .inl (3, 4, .inr (.inl (fun _ => 0)))), (o1, .inl (3, 1, .inr (.inl (fun _ => 0))))]) (is := [0, 36, 37, 38, 39, 40, 41, 69]) ln_Lw_256 w_st_Lw_hold ok_Lw_law_Lw_hold d_Lw_law_1560 (C_Lw_holdN g a pa ta sa gs co fu la gy du re wm ac fub fubg fut1 fut2 fut3 (fun _ => 0) (fun _ => 0) (fun _ => 0) (fun _ => 0) 0 0 nm hn9 hw o1 (fun _ => 0)) rfl rfl (Nat.le_of_ble_eq_true rfl) rfl (by decide) (by omega) (by omega) (fun E cs1 hx => ?_) (fun v cs1 hx => ?_)
  · exact absurd hx.1 (by simp)
  · obtain ⟨e1, rfl⟩ := hx
    cases e1
    refine ⟨rfl, ?_⟩
    refine r_st (st2 := [.int 0]) rfl ?_
    refine r_istore (lv' := [(6, .int 0), (5, .int 0), (4, .ref o2), (3, .ref o1), (2, .ref m), (1, .ref a), (0, .ref (g.2.2 40))]) d_Lw_law_1563 (by decide) rfl ?_
    refine r_aload_n d_Lw_law_1565 rfl 4 rfl ?_
    refine r_aload_n d_Lw_law_1566 rfl 6 rfl ?_
    refine r_iload d_Lw_law_1567 1 rfl ?_
    refine r_iconst d_Lw_law_1569 (v := 1) (by decide) ?_
    refine r_iadd d_Lw_law_1570 (v := 1) rfl ?_
    refine r_sld (v := nI nm) d_Lw_law_1571 (by rw [hL]; exact fun q => q.elim (by decide) (by decide)) e1 ?_
    refine r_callV (As := [.int (nI nm)]) (rest := []) (csC := [(m, .inr (12, [.int 0, .ref mp, .int 4, .ref mf, .ref mh, .ref mn, .ref mt, .ref mz, .ref mc_, .ref mq, .ref mgr, .int 80, .int 35, .int 30, .int 50, .int 0, .int 0, .ref ml, .ref mi, .ref mr, .int 0, .int 0, .int 0, .int (-1), .int 0, .ref mm, .ref mu, .ref mk, .ref mx, .long 0, .long 0])), (mr, .inl (3, 16, .inr (.inl (fun _ => 0))))]) (is := [52, 64]) (q0 := 52) rfl rfl ln_Lw_258 w_im_Mm_hold w_se_Mm_hold ok_Lw_law_Mm_hold d_Lw_law_1572 (C_Mm_holdN g m mp mf mh mn mt mz mc_ mq mgr ml mi mr mm mu mk mx 0 4 80 35 30 50 0 0 0 0 0 (-1) 0 0 0 (fun _ => 0) nm hn9 hw) rfl rfl (Nat.le_of_ble_eq_true rfl) rfl (by decide) (by omega) (by omega) (fun E cs1 hx => ?_) (fun v cs1 hx => ?_)
    · exact absurd hx.1 (by simp)
    · obtain ⟨e1, rfl⟩ := hx
      cases e1
      refine ⟨rfl, ?_⟩
      refine r_st (st2 := [.int ((hdR (fun _ => 0) nm 0).toInt32)]) rfl ?_
      refine r_istore (lv' := [(7, .int ((hdR (fun _ => 0) nm 0).toInt32)), (6, .int 0), (5, .int 0), (4, .ref o2), (3, .ref o1), (2, .ref m), (1, .ref a), (0, .ref (g.2.2 40))]) d_Lw_law_1575 (by decide) rfl ?_
      refine r_aload_n d_Lw_law_1577 rfl 5 rfl ?_
      refine r_callV (As := []) (rest := []) (csC := [(m, .inr (12, [.int 0, .ref mp, .int 4, .ref mf, .ref mh, .ref mn, .ref mt, .ref mz, .ref mc_, .ref mq, .ref mgr, .int 80, .int 35, .int 30, .int 50, .int 0, .int 0, .ref ml, .ref mi, .ref mr, .int 0, .int 0, .int 0, .int (-1), .int 0, .ref mm, .ref mu, .ref mk, .ref mx, .long 0, .long 0]))]) (is := [52]) (q0 := 52) rfl rfl ln_Lw_175 w_im_Mm_thrown w_se_Mm_thrown ok_Lw_law_Mm_thrown d_Lw_law_1578 (C_Mm_thrown g m mp mf mh mn mt mz mc_ mq mgr ml mi mr mm mu mk mx 0 4 80 35 30 50 0 0 0 0 0 (-1) 0 0 0) rfl rfl (Nat.le_of_ble_eq_true rfl) rfl (by decide) (by omega) (by omega) (fun E cs1 hx => ?_) (fun v cs1 hx => ?_)
      · exact absurd hx.1 (by simp)
      · obtain ⟨e1, rfl⟩ := hx
        cases e1
        refine ⟨rfl, ?_⟩
        refine r_st (st2 := [.int 0]) rfl ?_
        refine r_iload d_Lw_law_1581 1 rfl ?_
        refine r_icmp_eq (tgt := 1588) d_Lw_law_1583 (by decide) (fun c_1583 => ?_) (fun c_1583 => ?_)
        · refine r_iload d_Lw_law_1588 1 rfl ?_
          refine r_if_ne (tgt := 1605) d_Lw_law_1590 (by decide) (fun c_1590 => ?_) (fun c_1590 => ?_)
          · exact absurd c_1590 (by decide)
          · refine r_aload_n d_Lw_law_1593 rfl 4 rfl ?_
            refine r_iconst d_Lw_law_1594 (v := 0) (by decide) ?_
            refine r_lald d_Lw_law_1595 (q0 := 69) rfl (fun q => q.elim (by decide) (by decide)) (v := (vp_updL (fun _ => 0) 0 ((((lmS ((fun _ => 0), (fun _ => 0)) nm).1 0).toInt32)).toInt64) 0) rfl ?_
            refine r_iload d_Lw_law_1596 0 rfl ?_
            refine r_i2l d_Lw_law_1598 (v := ((hdR (fun _ => 0) nm 0).toInt32).toInt64) rfl ?_
            refine r_lcmp d_Lw_law_1599 (v := 0) (zl_cmp (by rw [lm_0 (fun _ => rfl), hd_0 (fun _ => rfl)])) ?_
            refine r_if_eq (tgt := 1605) d_Lw_law_1600 (by decide) (fun c_1600 => ?_) (fun c_1600 => ?_)
            · refine r_goto (tgt := 3019) d_Lw_law_1605 (by decide) ?_
              refine r_lv (lv' := [(5, .int 0), (0, .ref (g.2.2 40))]) [2, 7] rfl ?_
              exact LW_tail g _ hL _ _ w0 n
            · exact absurd c_1600 (by decide)
        · exact absurd c_1583 (by decide)
theorem d_Lw_law_1608 : decode code 1608 = .ok (.aload_n 1, 1) := by decide +kernel
theorem d_Lw_law_1609 : decode code 1609 = .ok (.aload_n 0, 1) := by decide +kernel
theorem d_Lw_law_1610 : decode code 1610 = .ok (.iload 5, 2) := by decide +kernel
theorem d_Lw_law_1612 : decode code 1612 = .ok (.iconst 1, 1) := by decide +kernel
theorem d_Lw_law_1613 : decode code 1613 = .ok (.iadd, 1) := by decide +kernel
theorem d_Lw_law_1614 : decode code 1614 = .ok (.iaload, 1) := by decide +kernel
theorem d_Lw_law_1615 : decode code 1615 = .ok (.aload_n 3, 1) := by decide +kernel
theorem d_Lw_law_1616 : decode code 1616 = .ok (.invokestatic 259, 3) := by decide +kernel
theorem ok_Lw_law_Lw_tap : z_okX M_Lw_law M_Lw_tap 3 := ⟨z_mem (i := 1118) (by decide +kernel) (by decide +kernel), by decide, ⟨by decide +kernel, by decide +kernel, by decide +kernel⟩, ⟨by decide, by decide⟩, z_mem (i := 57) (by decide +kernel) (by decide +kernel), rfl⟩
theorem ln_Lw_259 : Cond.methodLink "IronpourLaw" 259 M_Lw_tap.1 ∈ z_gw := z_mem (i := 1116) (by decide +kernel) (by decide +kernel)
theorem w_st_Lw_tap : Cond.static M_Lw_tap.1 ∈ z_gw := z_mem (i := 1117) (by decide +kernel) (by decide +kernel)
theorem d_Lw_law_1619 : decode code 1619 = .ok (.istore 6, 2) := by decide +kernel
theorem d_Lw_law_1621 : decode code 1621 = .ok (.aload_n 2, 1) := by decide +kernel
theorem d_Lw_law_1622 : decode code 1622 = .ok (.aload_n 0, 1) := by decide +kernel
theorem d_Lw_law_1623 : decode code 1623 = .ok (.iload 5, 2) := by decide +kernel
theorem d_Lw_law_1625 : decode code 1625 = .ok (.iconst 1, 1) := by decide +kernel
theorem d_Lw_law_1626 : decode code 1626 = .ok (.iadd, 1) := by decide +kernel
theorem d_Lw_law_1627 : decode code 1627 = .ok (.iaload, 1) := by decide +kernel
theorem d_Lw_law_1628 : decode code 1628 = .ok (.invokevirtual 261, 3) := by decide +kernel
theorem ok_Lw_law_Mm_tap : z_ok M_Lw_law M_Mm_tap 1 := ⟨z_mem (i := 1916) (by decide +kernel) (by decide +kernel), rfl, ⟨by decide +kernel, by decide +kernel, by decide +kernel⟩, ⟨by decide, by decide⟩, z_mem (i := 71) (by decide +kernel) (by decide +kernel), rfl⟩
theorem ln_Lw_261 : Cond.methodLink "IronpourLaw" 261 M_Mm_tap.1 ∈ z_gw := z_mem (i := 1913) (by decide +kernel) (by decide +kernel)
theorem w_im_Mm_tap : Cond.instanceMethod M_Mm_tap.1 ∈ z_gw := z_mem (i := 1914) (by decide +kernel) (by decide +kernel)
theorem w_se_Mm_tap : Cond.selects M_Mm_tap.1.cls M_Mm_tap.1 M_Mm_tap.1 ∈ z_gw := z_mem (i := 1915) (by decide +kernel) (by decide +kernel)
theorem d_Lw_law_1631 : decode code 1631 = .ok (.istore 7, 2) := by decide +kernel
theorem d_Lw_law_1633 : decode code 1633 = .ok (.aload_n 2, 1) := by decide +kernel
theorem d_Lw_law_1634 : decode code 1634 = .ok (.invokevirtual 175, 3) := by decide +kernel
theorem d_Lw_law_1637 : decode code 1637 = .ok (.iload 6, 2) := by decide +kernel
theorem d_Lw_law_1639 : decode code 1639 = .ok (.if_icmp .eq 5, 3) := by decide +kernel
theorem d_Lw_law_1644 : decode code 1644 = .ok (.iload 6, 2) := by decide +kernel
theorem d_Lw_law_1646 : decode code 1646 = .ok (.ifCond .ne 15, 3) := by decide +kernel
theorem d_Lw_law_1661 : decode code 1661 = .ok (.goto 1358, 3) := by decide +kernel
set_option maxHeartbeats 4000000 in
set_option maxRecDepth 100000 in
theorem LW_tapE (g : zG) (a pa pa1 pa2 pa3 ta ta1 ta2 taz taz1 taz2 taz3 taz4 taz5 taz6 ta4 ta5 ta6 sa sa1 sa2 saz saz1 saz2 saz3 saz4 saz5 saz6 sa4 sa5 sa6 gs co co1 co2 co3 fu fub fubg fut1 fut2 fut3 la lab labg gy gyg du dug re wm ac m mp mf mh mn mt mz mc_ mq mgr ml mi mr mm mu mk mx o1 o2 : Nat) (hL : g.2.2 41 = 7) (hw : ¬ (1 ≤ (zs g 1) ∧ (zs g 1) ≤ 500)) (w0 : zW) (n : Nat) : DV g M_Lw_law (lwP) w0 n 1608 [(5, .int 0), (4, .ref o2), (3, .ref o1), (2, .ref m), (1, .ref a), (0, .ref (g.2.2 40))] [] (lwCS g a pa pa1 pa2 pa3 ta ta1 ta2 taz taz1 taz2 taz3 taz4 taz5 taz6 ta4 ta5 ta6 sa sa1 sa2 saz saz1 saz2 saz3 saz4 saz5 saz6 sa4 sa5 sa6 gs co co1 co2 co3 fu fub fubg fut1 fut2 fut3 la lab labg gy gyg du dug re wm ac m mp mf mh mn mt mz mc_ mq mgr ml mi mr mm mu mk mx o1 o2) 100 1000 := by
  refine r_aload_n d_Lw_law_1608 rfl 4 rfl ?_
  refine r_aload_n d_Lw_law_1609 rfl 5 rfl ?_
  refine r_iload d_Lw_law_1610 0 rfl ?_
  refine r_iconst d_Lw_law_1612 (v := 1) (by decide) ?_
  refine r_iadd d_Lw_law_1613 (v := 1) rfl ?_
  refine r_sld (v := zs g 1) d_Lw_law_1614 (by rw [hL]; exact fun q => q.elim (by decide) (by decide)) rfl ?_
  refine r_aload_n d_Lw_law_1615 rfl 2 rfl ?_
  refine r_callSX (As := [.ref a, .int (zs g 1), .ref o1]) (rest := []) (csC := [(a, .inr (11, [.ref pa, .ref ta, .ref sa, .ref gs, .ref co, .ref fu, .ref la, .ref gy, .ref du, .ref re, .ref wm, .ref ac])), (la, .inr (5, [.ref lab, .int 0, .int 0, .int 0])), (lab, .inr (6, [.ref labg, .int 0])), (labg, .inl (3, 4, .inr (.inl (fun _ => 0)))), (fu, .inr (3, [.ref fub, .ref fut1, .ref fut2, .ref fut3, .long 0])), (fub, .inr (6, [.ref fubg, .int 0])), (fubg, .inl (3, 4, .inr (.inl (fun _ => 0)))), (o1, .inl (3, 1, .inr (.inl (fun _ => 0))))]) (is := [0, 42, 43, 44, 36, 37, 38, 69]) ln_Lw_259 w_st_Lw_tap ok_Lw_law_Lw_tap d_Lw_law_1616 (C_Lw_tapE g a pa ta sa gs co fu la gy du re wm ac lab labg fub fubg fut1 fut2 fut3 (fun _ => 0) (fun _ => 0) 0 0 0 0 0 0 (zs g 1) hw o1 (fun _ => 0)) rfl rfl (Nat.le_of_ble_eq_true rfl) rfl (by decide) (by omega) (by omega) (fun E cs1 hx => ?_) (fun v cs1 hx => ?_)
  · exact absurd hx.1 (by simp)
  · obtain ⟨e1, rfl⟩ := hx
    cases e1
    refine ⟨rfl, ?_⟩
    refine r_st (st2 := [.int 1]) rfl ?_
    refine r_istore (lv' := [(6, .int 1), (5, .int 0), (4, .ref o2), (3, .ref o1), (2, .ref m), (1, .ref a), (0, .ref (g.2.2 40))]) d_Lw_law_1619 (by decide) rfl ?_
    refine r_aload_n d_Lw_law_1621 rfl 4 rfl ?_
    refine r_aload_n d_Lw_law_1622 rfl 6 rfl ?_
    refine r_iload d_Lw_law_1623 1 rfl ?_
    refine r_iconst d_Lw_law_1625 (v := 1) (by decide) ?_
    refine r_iadd d_Lw_law_1626 (v := 1) rfl ?_
    refine r_sld (v := zs g 1) d_Lw_law_1627 (by rw [hL]; exact fun q => q.elim (by decide) (by decide)) rfl ?_
    refine r_callV (As := [.int (zs g 1)]) (rest := []) (csC := [(m, .inr (12, [.int 0, .ref mp, .int 4, .ref mf, .ref mh, .ref mn, .ref mt, .ref mz, .ref mc_, .ref mq, .ref mgr, .int 80, .int 35, .int 30, .int 50, .int 0, .int 0, .ref ml, .ref mi, .ref mr, .int 0, .int 0, .int 0, .int (-1), .int 0, .ref mm, .ref mu, .ref mk, .ref mx, .long 0, .long 0]))]) (is := [52]) (q0 := 52) rfl rfl ln_Lw_261 w_im_Mm_tap w_se_Mm_tap ok_Lw_law_Mm_tap d_Lw_law_1628 (C_Mm_tapE g m mp mf mh mn mt mz mc_ mq mgr ml mi mr mm mu mk mx 0 4 80 35 30 50 0 0 0 0 0 (-1) 0 0 0 (zs g 1) hw) rfl rfl (Nat.le_of_ble_eq_true rfl) rfl (by decide) (by omega) (by omega) (fun E cs1 hx => ?_) (fun v cs1 hx => ?_)
    · exact absurd hx.1 (by simp)
    · obtain ⟨e1, rfl⟩ := hx
      cases e1
      refine ⟨rfl, ?_⟩
      refine r_st (st2 := [.int 0]) rfl ?_
      refine r_istore (lv' := [(7, .int 0), (6, .int 1), (5, .int 0), (4, .ref o2), (3, .ref o1), (2, .ref m), (1, .ref a), (0, .ref (g.2.2 40))]) d_Lw_law_1631 (by decide) rfl ?_
      refine r_aload_n d_Lw_law_1633 rfl 5 rfl ?_
      refine r_callV (As := []) (rest := []) (csC := [(m, .inr (12, [.int 1, .ref mp, .int 4, .ref mf, .ref mh, .ref mn, .ref mt, .ref mz, .ref mc_, .ref mq, .ref mgr, .int 80, .int 35, .int 30, .int 50, .int 0, .int 0, .ref ml, .ref mi, .ref mr, .int 0, .int 0, .int 0, .int (-1), .int 0, .ref mm, .ref mu, .ref mk, .ref mx, .long 0, .long 0]))]) (is := [52]) (q0 := 52) rfl rfl ln_Lw_175 w_im_Mm_thrown w_se_Mm_thrown ok_Lw_law_Mm_thrown d_Lw_law_1634 (C_Mm_thrown g m mp mf mh mn mt mz mc_ mq mgr ml mi mr mm mu mk mx 1 4 80 35 30 50 0 0 0 0 0 (-1) 0 0 0) rfl rfl (Nat.le_of_ble_eq_true rfl) rfl (by decide) (by omega) (by omega) (fun E cs1 hx => ?_) (fun v cs1 hx => ?_)
      · exact absurd hx.1 (by simp)
      · obtain ⟨e1, rfl⟩ := hx
        cases e1
        refine ⟨rfl, ?_⟩
        refine r_st (st2 := [.int 1]) rfl ?_
        refine r_iload d_Lw_law_1637 1 rfl ?_
        refine r_icmp_eq (tgt := 1644) d_Lw_law_1639 (by decide) (fun c_1639 => ?_) (fun c_1639 => ?_)
        · refine r_iload d_Lw_law_1644 1 rfl ?_
          refine r_if_ne (tgt := 1661) d_Lw_law_1646 (by decide) (fun c_1646 => ?_) (fun c_1646 => ?_)
          · refine r_goto (tgt := 3019) d_Lw_law_1661 (by decide) ?_
            refine r_lv (lv' := [(5, .int 0), (0, .ref (g.2.2 40))]) [2, 7] rfl ?_
            exact LW_tail g _ hL _ _ w0 n
          · exact absurd c_1646 (by decide)
        · exact absurd c_1639 (by decide)
set_option maxHeartbeats 4000000 in
set_option maxRecDepth 100000 in
theorem LW_tapG (g : zG) (a pa pa1 pa2 pa3 ta ta1 ta2 taz taz1 taz2 taz3 taz4 taz5 taz6 ta4 ta5 ta6 sa sa1 sa2 saz saz1 saz2 saz3 saz4 saz5 saz6 sa4 sa5 sa6 gs co co1 co2 co3 fu fub fubg fut1 fut2 fut3 la lab labg gy gyg du dug re wm ac m mp mf mh mn mt mz mc_ mq mgr ml mi mr mm mu mk mx o1 o2 : Nat) (hL : g.2.2 41 = 7) (hw : (1 ≤ (zs g 1) ∧ (zs g 1) ≤ 500)) (hg9 : 0 < (zs g 1)) (w0 : zW) (n : Nat) : DV g M_Lw_law (lwP) w0 n 1608 [(5, .int 0), (4, .ref o2), (3, .ref o1), (2, .ref m), (1, .ref a), (0, .ref (g.2.2 40))] [] (lwCS g a pa pa1 pa2 pa3 ta ta1 ta2 taz taz1 taz2 taz3 taz4 taz5 taz6 ta4 ta5 ta6 sa sa1 sa2 saz saz1 saz2 saz3 saz4 saz5 saz6 sa4 sa5 sa6 gs co co1 co2 co3 fu fub fubg fut1 fut2 fut3 la lab labg gy gyg du dug re wm ac m mp mf mh mn mt mz mc_ mq mgr ml mi mr mm mu mk mx o1 o2) 100 1000 := by
  refine r_aload_n d_Lw_law_1608 rfl 4 rfl ?_
  refine r_aload_n d_Lw_law_1609 rfl 5 rfl ?_
  refine r_iload d_Lw_law_1610 0 rfl ?_
  refine r_iconst d_Lw_law_1612 (v := 1) (by decide) ?_
  refine r_iadd d_Lw_law_1613 (v := 1) rfl ?_
  refine r_sld (v := zs g 1) d_Lw_law_1614 (by rw [hL]; exact fun q => q.elim (by decide) (by decide)) rfl ?_
  refine r_aload_n d_Lw_law_1615 rfl 2 rfl ?_
  refine r_callSX (As := [.ref a, .int (zs g 1), .ref o1]) (rest := []) (csC := [(a, .inr (11, [.ref pa, .ref ta, .ref sa, .ref gs, .ref co, .ref fu, .ref la, .ref gy, .ref du, .ref re, .ref wm, .ref ac])), (la, .inr (5, [.ref lab, .int 0, .int 0, .int 0])), (lab, .inr (6, [.ref labg, .int 0])), (labg, .inl (3, 4, .inr (.inl (fun _ => 0)))), (fu, .inr (3, [.ref fub, .ref fut1, .ref fut2, .ref fut3, .long 0])), (fub, .inr (6, [.ref fubg, .int 0])), (fubg, .inl (3, 4, .inr (.inl (fun _ => 0)))), (o1, .inl (3, 1, .inr (.inl (fun _ => 0))))]) (is := [0, 42, 43, 44, 36, 37, 38, 69]) ln_Lw_259 w_st_Lw_tap ok_Lw_law_Lw_tap d_Lw_law_1616 (C_Lw_tapG g a pa ta sa gs co fu la gy du re wm ac lab labg fub fubg fut1 fut2 fut3 (fun _ => 0) (fun _ => 0) 0 0 0 0 0 0 (zs g 1) hw rfl hg9 o1 (fun _ => 0)) rfl rfl (Nat.le_of_ble_eq_true rfl) rfl (by decide) (by omega) (by omega) (fun E cs1 hx => ?_) (fun v cs1 hx => ?_)
  · exact absurd hx.1 (by simp)
  · obtain ⟨e1, rfl⟩ := hx
    cases e1
    refine ⟨rfl, ?_⟩
    refine r_st (st2 := [.int 3]) rfl ?_
    refine r_istore (lv' := [(6, .int 3), (5, .int 0), (4, .ref o2), (3, .ref o1), (2, .ref m), (1, .ref a), (0, .ref (g.2.2 40))]) d_Lw_law_1619 (by decide) rfl ?_
    refine r_aload_n d_Lw_law_1621 rfl 4 rfl ?_
    refine r_aload_n d_Lw_law_1622 rfl 6 rfl ?_
    refine r_iload d_Lw_law_1623 1 rfl ?_
    refine r_iconst d_Lw_law_1625 (v := 1) (by decide) ?_
    refine r_iadd d_Lw_law_1626 (v := 1) rfl ?_
    refine r_sld (v := zs g 1) d_Lw_law_1627 (by rw [hL]; exact fun q => q.elim (by decide) (by decide)) rfl ?_
    refine r_callV (As := [.int (zs g 1)]) (rest := []) (csC := [(m, .inr (12, [.int 0, .ref mp, .int 4, .ref mf, .ref mh, .ref mn, .ref mt, .ref mz, .ref mc_, .ref mq, .ref mgr, .int 80, .int 35, .int 30, .int 50, .int 0, .int 0, .ref ml, .ref mi, .ref mr, .int 0, .int 0, .int 0, .int (-1), .int 0, .ref mm, .ref mu, .ref mk, .ref mx, .long 0, .long 0])), (mi, .inl (0, 4, .inl (fun _ => 0)))]) (is := [52, 63]) (q0 := 52) rfl rfl ln_Lw_261 w_im_Mm_tap w_se_Mm_tap ok_Lw_law_Mm_tap d_Lw_law_1628 (C_Mm_tapG g m mp mf mh mn mt mz mc_ mq mgr ml mi mr mm mu mk mx 0 4 80 35 30 50 0 0 0 0 0 (-1) 0 0 0 (fun _ => 0) (zs g 1) hw rfl hg9) rfl rfl (Nat.le_of_ble_eq_true rfl) rfl (by decide) (by omega) (by omega) (fun E cs1 hx => ?_) (fun v cs1 hx => ?_)
    · exact absurd hx.1 (by simp)
    · obtain ⟨e1, rfl⟩ := hx
      cases e1
      refine ⟨rfl, ?_⟩
      refine r_st (st2 := [.int 0]) rfl ?_
      refine r_istore (lv' := [(7, .int 0), (6, .int 3), (5, .int 0), (4, .ref o2), (3, .ref o1), (2, .ref m), (1, .ref a), (0, .ref (g.2.2 40))]) d_Lw_law_1631 (by decide) rfl ?_
      refine r_aload_n d_Lw_law_1633 rfl 5 rfl ?_
      refine r_callV (As := []) (rest := []) (csC := [(m, .inr (12, [.int 3, .ref mp, .int 4, .ref mf, .ref mh, .ref mn, .ref mt, .ref mz, .ref mc_, .ref mq, .ref mgr, .int 80, .int 35, .int 30, .int 50, .int 0, .int 0, .ref ml, .ref mi, .ref mr, .int 0, .int 0, .int 0, .int (-1), .int 0, .ref mm, .ref mu, .ref mk, .ref mx, .long 0, .long 0]))]) (is := [52]) (q0 := 52) rfl rfl ln_Lw_175 w_im_Mm_thrown w_se_Mm_thrown ok_Lw_law_Mm_thrown d_Lw_law_1634 (C_Mm_thrown g m mp mf mh mn mt mz mc_ mq mgr ml mi mr mm mu mk mx 3 4 80 35 30 50 0 0 0 0 0 (-1) 0 0 0) rfl rfl (Nat.le_of_ble_eq_true rfl) rfl (by decide) (by omega) (by omega) (fun E cs1 hx => ?_) (fun v cs1 hx => ?_)
      · exact absurd hx.1 (by simp)
      · obtain ⟨e1, rfl⟩ := hx
        cases e1
        refine ⟨rfl, ?_⟩
        refine r_st (st2 := [.int 3]) rfl ?_
        refine r_iload d_Lw_law_1637 1 rfl ?_
        refine r_icmp_eq (tgt := 1644) d_Lw_law_1639 (by decide) (fun c_1639 => ?_) (fun c_1639 => ?_)
        · refine r_iload d_Lw_law_1644 1 rfl ?_
          refine r_if_ne (tgt := 1661) d_Lw_law_1646 (by decide) (fun c_1646 => ?_) (fun c_1646 => ?_)
          · refine r_goto (tgt := 3019) d_Lw_law_1661 (by decide) ?_
            refine r_lv (lv' := [(5, .int 0), (0, .ref (g.2.2 40))]) [2, 7] rfl ?_
            exact LW_tail g _ hL _ _ w0 n
          · exact absurd c_1646 (by decide)
        · exact absurd c_1639 (by decide)
theorem d_Lw_law_1664 : decode code 1664 = .ok (.aload_n 1, 1) := by decide +kernel
theorem d_Lw_law_1665 : decode code 1665 = .ok (.aload_n 0, 1) := by decide +kernel
theorem d_Lw_law_1666 : decode code 1666 = .ok (.iload 5, 2) := by decide +kernel
theorem d_Lw_law_1668 : decode code 1668 = .ok (.iconst 1, 1) := by decide +kernel
theorem d_Lw_law_1669 : decode code 1669 = .ok (.iadd, 1) := by decide +kernel
theorem d_Lw_law_1670 : decode code 1670 = .ok (.iaload, 1) := by decide +kernel
theorem d_Lw_law_1671 : decode code 1671 = .ok (.aload_n 3, 1) := by decide +kernel
theorem d_Lw_law_1672 : decode code 1672 = .ok (.invokestatic 262, 3) := by decide +kernel
theorem ok_Lw_law_Lw_treat : z_okX M_Lw_law M_Lw_treat 3 := ⟨z_mem (i := 1137) (by decide +kernel) (by decide +kernel), by decide, ⟨by decide +kernel, by decide +kernel, by decide +kernel⟩, ⟨by decide, by decide⟩, z_mem (i := 57) (by decide +kernel) (by decide +kernel), rfl⟩
theorem ln_Lw_262 : Cond.methodLink "IronpourLaw" 262 M_Lw_treat.1 ∈ z_gw := z_mem (i := 1135) (by decide +kernel) (by decide +kernel)
theorem w_st_Lw_treat : Cond.static M_Lw_treat.1 ∈ z_gw := z_mem (i := 1136) (by decide +kernel) (by decide +kernel)
theorem d_Lw_law_1675 : decode code 1675 = .ok (.istore 6, 2) := by decide +kernel
theorem d_Lw_law_1677 : decode code 1677 = .ok (.aload_n 2, 1) := by decide +kernel
theorem d_Lw_law_1678 : decode code 1678 = .ok (.aload_n 0, 1) := by decide +kernel
theorem d_Lw_law_1679 : decode code 1679 = .ok (.iload 5, 2) := by decide +kernel
theorem d_Lw_law_1681 : decode code 1681 = .ok (.iconst 1, 1) := by decide +kernel
theorem d_Lw_law_1682 : decode code 1682 = .ok (.iadd, 1) := by decide +kernel
theorem d_Lw_law_1683 : decode code 1683 = .ok (.iaload, 1) := by decide +kernel
theorem d_Lw_law_1684 : decode code 1684 = .ok (.invokevirtual 264, 3) := by decide +kernel
theorem ok_Lw_law_Mm_treat : z_ok M_Lw_law M_Mm_treat 1 := ⟨z_mem (i := 1920) (by decide +kernel) (by decide +kernel), rfl, ⟨by decide +kernel, by decide +kernel, by decide +kernel⟩, ⟨by decide, by decide⟩, z_mem (i := 71) (by decide +kernel) (by decide +kernel), rfl⟩
theorem ln_Lw_264 : Cond.methodLink "IronpourLaw" 264 M_Mm_treat.1 ∈ z_gw := z_mem (i := 1917) (by decide +kernel) (by decide +kernel)
theorem w_im_Mm_treat : Cond.instanceMethod M_Mm_treat.1 ∈ z_gw := z_mem (i := 1918) (by decide +kernel) (by decide +kernel)
theorem w_se_Mm_treat : Cond.selects M_Mm_treat.1.cls M_Mm_treat.1 M_Mm_treat.1 ∈ z_gw := z_mem (i := 1919) (by decide +kernel) (by decide +kernel)
theorem d_Lw_law_1687 : decode code 1687 = .ok (.istore 7, 2) := by decide +kernel
theorem d_Lw_law_1689 : decode code 1689 = .ok (.aload_n 2, 1) := by decide +kernel
theorem d_Lw_law_1690 : decode code 1690 = .ok (.invokevirtual 175, 3) := by decide +kernel
theorem d_Lw_law_1693 : decode code 1693 = .ok (.iload 6, 2) := by decide +kernel
theorem d_Lw_law_1695 : decode code 1695 = .ok (.if_icmp .eq 5, 3) := by decide +kernel
theorem d_Lw_law_1700 : decode code 1700 = .ok (.iload 6, 2) := by decide +kernel
theorem d_Lw_law_1702 : decode code 1702 = .ok (.ifCond .ne 15, 3) := by decide +kernel
theorem d_Lw_law_1717 : decode code 1717 = .ok (.goto 1302, 3) := by decide +kernel
set_option maxHeartbeats 4000000 in
set_option maxRecDepth 100000 in
theorem LW_treatE (g : zG) (a pa pa1 pa2 pa3 ta ta1 ta2 taz taz1 taz2 taz3 taz4 taz5 taz6 ta4 ta5 ta6 sa sa1 sa2 saz saz1 saz2 saz3 saz4 saz5 saz6 sa4 sa5 sa6 gs co co1 co2 co3 fu fub fubg fut1 fut2 fut3 la lab labg gy gyg du dug re wm ac m mp mf mh mn mt mz mc_ mq mgr ml mi mr mm mu mk mx o1 o2 : Nat) (hL : g.2.2 41 = 7) (hw : ¬ (1 ≤ (zs g 1) ∧ (zs g 1) ≤ 100)) (w0 : zW) (n : Nat) : DV g M_Lw_law (lwP) w0 n 1664 [(5, .int 0), (4, .ref o2), (3, .ref o1), (2, .ref m), (1, .ref a), (0, .ref (g.2.2 40))] [] (lwCS g a pa pa1 pa2 pa3 ta ta1 ta2 taz taz1 taz2 taz3 taz4 taz5 taz6 ta4 ta5 ta6 sa sa1 sa2 saz saz1 saz2 saz3 saz4 saz5 saz6 sa4 sa5 sa6 gs co co1 co2 co3 fu fub fubg fut1 fut2 fut3 la lab labg gy gyg du dug re wm ac m mp mf mh mn mt mz mc_ mq mgr ml mi mr mm mu mk mx o1 o2) 100 1000 := by
  refine r_aload_n d_Lw_law_1664 rfl 4 rfl ?_
  refine r_aload_n d_Lw_law_1665 rfl 5 rfl ?_
  refine r_iload d_Lw_law_1666 0 rfl ?_
  refine r_iconst d_Lw_law_1668 (v := 1) (by decide) ?_
  refine r_iadd d_Lw_law_1669 (v := 1) rfl ?_
  refine r_sld (v := zs g 1) d_Lw_law_1670 (by rw [hL]; exact fun q => q.elim (by decide) (by decide)) rfl ?_
  refine r_aload_n d_Lw_law_1671 rfl 2 rfl ?_
  refine r_callSX (As := [.ref a, .int (zs g 1), .ref o1]) (rest := []) (csC := [(a, .inr (11, [.ref pa, .ref ta, .ref sa, .ref gs, .ref co, .ref fu, .ref la, .ref gy, .ref du, .ref re, .ref wm, .ref ac])), (la, .inr (5, [.ref lab, .int 0, .int 0, .int 0])), (lab, .inr (6, [.ref labg, .int 0])), (labg, .inl (3, 4, .inr (.inl (fun _ => 0)))), (o1, .inl (3, 1, .inr (.inl (fun _ => 0))))]) (is := [0, 42, 43, 44, 69]) ln_Lw_262 w_st_Lw_treat ok_Lw_law_Lw_treat d_Lw_law_1672 (C_Lw_treatE g a pa ta sa gs co fu la gy du re wm ac lab labg (fun _ => 0) 0 0 0 0 (zs g 1) hw o1 (fun _ => 0)) rfl rfl (Nat.le_of_ble_eq_true rfl) rfl (by decide) (by omega) (by omega) (fun E cs1 hx => ?_) (fun v cs1 hx => ?_)
  · exact absurd hx.1 (by simp)
  · obtain ⟨e1, rfl⟩ := hx
    cases e1
    refine ⟨rfl, ?_⟩
    refine r_st (st2 := [.int 1]) rfl ?_
    refine r_istore (lv' := [(6, .int 1), (5, .int 0), (4, .ref o2), (3, .ref o1), (2, .ref m), (1, .ref a), (0, .ref (g.2.2 40))]) d_Lw_law_1675 (by decide) rfl ?_
    refine r_aload_n d_Lw_law_1677 rfl 4 rfl ?_
    refine r_aload_n d_Lw_law_1678 rfl 6 rfl ?_
    refine r_iload d_Lw_law_1679 1 rfl ?_
    refine r_iconst d_Lw_law_1681 (v := 1) (by decide) ?_
    refine r_iadd d_Lw_law_1682 (v := 1) rfl ?_
    refine r_sld (v := zs g 1) d_Lw_law_1683 (by rw [hL]; exact fun q => q.elim (by decide) (by decide)) rfl ?_
    refine r_callV (As := [.int (zs g 1)]) (rest := []) (csC := [(m, .inr (12, [.int 0, .ref mp, .int 4, .ref mf, .ref mh, .ref mn, .ref mt, .ref mz, .ref mc_, .ref mq, .ref mgr, .int 80, .int 35, .int 30, .int 50, .int 0, .int 0, .ref ml, .ref mi, .ref mr, .int 0, .int 0, .int 0, .int (-1), .int 0, .ref mm, .ref mu, .ref mk, .ref mx, .long 0, .long 0]))]) (is := [52]) (q0 := 52) rfl rfl ln_Lw_264 w_im_Mm_treat w_se_Mm_treat ok_Lw_law_Mm_treat d_Lw_law_1684 (C_Mm_treatE g m mp mf mh mn mt mz mc_ mq mgr ml mi mr mm mu mk mx 0 4 80 35 30 50 0 0 0 0 0 (-1) 0 0 0 (zs g 1) hw) rfl rfl (Nat.le_of_ble_eq_true rfl) rfl (by decide) (by omega) (by omega) (fun E cs1 hx => ?_) (fun v cs1 hx => ?_)
    · exact absurd hx.1 (by simp)
    · obtain ⟨e1, rfl⟩ := hx
      cases e1
      refine ⟨rfl, ?_⟩
      refine r_st (st2 := [.int 0]) rfl ?_
      refine r_istore (lv' := [(7, .int 0), (6, .int 1), (5, .int 0), (4, .ref o2), (3, .ref o1), (2, .ref m), (1, .ref a), (0, .ref (g.2.2 40))]) d_Lw_law_1687 (by decide) rfl ?_
      refine r_aload_n d_Lw_law_1689 rfl 5 rfl ?_
      refine r_callV (As := []) (rest := []) (csC := [(m, .inr (12, [.int 1, .ref mp, .int 4, .ref mf, .ref mh, .ref mn, .ref mt, .ref mz, .ref mc_, .ref mq, .ref mgr, .int 80, .int 35, .int 30, .int 50, .int 0, .int 0, .ref ml, .ref mi, .ref mr, .int 0, .int 0, .int 0, .int (-1), .int 0, .ref mm, .ref mu, .ref mk, .ref mx, .long 0, .long 0]))]) (is := [52]) (q0 := 52) rfl rfl ln_Lw_175 w_im_Mm_thrown w_se_Mm_thrown ok_Lw_law_Mm_thrown d_Lw_law_1690 (C_Mm_thrown g m mp mf mh mn mt mz mc_ mq mgr ml mi mr mm mu mk mx 1 4 80 35 30 50 0 0 0 0 0 (-1) 0 0 0) rfl rfl (Nat.le_of_ble_eq_true rfl) rfl (by decide) (by omega) (by omega) (fun E cs1 hx => ?_) (fun v cs1 hx => ?_)
      · exact absurd hx.1 (by simp)
      · obtain ⟨e1, rfl⟩ := hx
        cases e1
        refine ⟨rfl, ?_⟩
        refine r_st (st2 := [.int 1]) rfl ?_
        refine r_iload d_Lw_law_1693 1 rfl ?_
        refine r_icmp_eq (tgt := 1700) d_Lw_law_1695 (by decide) (fun c_1695 => ?_) (fun c_1695 => ?_)
        · refine r_iload d_Lw_law_1700 1 rfl ?_
          refine r_if_ne (tgt := 1717) d_Lw_law_1702 (by decide) (fun c_1702 => ?_) (fun c_1702 => ?_)
          · refine r_goto (tgt := 3019) d_Lw_law_1717 (by decide) ?_
            refine r_lv (lv' := [(5, .int 0), (0, .ref (g.2.2 40))]) [2, 7] rfl ?_
            exact LW_tail g _ hL _ _ w0 n
          · exact absurd c_1702 (by decide)
        · exact absurd c_1695 (by decide)
set_option maxHeartbeats 4000000 in
set_option maxRecDepth 100000 in
theorem LW_treatF (g : zG) (a pa pa1 pa2 pa3 ta ta1 ta2 taz taz1 taz2 taz3 taz4 taz5 taz6 ta4 ta5 ta6 sa sa1 sa2 saz saz1 saz2 saz3 saz4 saz5 saz6 sa4 sa5 sa6 gs co co1 co2 co3 fu fub fubg fut1 fut2 fut3 la lab labg gy gyg du dug re wm ac m mp mf mh mn mt mz mc_ mq mgr ml mi mr mm mu mk mx o1 o2 : Nat) (hL : g.2.2 41 = 7) (hw : (1 ≤ (zs g 1) ∧ (zs g 1) ≤ 100)) (w0 : zW) (n : Nat) : DV g M_Lw_law (lwP) w0 n 1664 [(5, .int 0), (4, .ref o2), (3, .ref o1), (2, .ref m), (1, .ref a), (0, .ref (g.2.2 40))] [] (lwCS g a pa pa1 pa2 pa3 ta ta1 ta2 taz taz1 taz2 taz3 taz4 taz5 taz6 ta4 ta5 ta6 sa sa1 sa2 saz saz1 saz2 saz3 saz4 saz5 saz6 sa4 sa5 sa6 gs co co1 co2 co3 fu fub fubg fut1 fut2 fut3 la lab labg gy gyg du dug re wm ac m mp mf mh mn mt mz mc_ mq mgr ml mi mr mm mu mk mx o1 o2) 100 1000 := by
  refine r_aload_n d_Lw_law_1664 rfl 4 rfl ?_
  refine r_aload_n d_Lw_law_1665 rfl 5 rfl ?_
  refine r_iload d_Lw_law_1666 0 rfl ?_
  refine r_iconst d_Lw_law_1668 (v := 1) (by decide) ?_
  refine r_iadd d_Lw_law_1669 (v := 1) rfl ?_
  refine r_sld (v := zs g 1) d_Lw_law_1670 (by rw [hL]; exact fun q => q.elim (by decide) (by decide)) rfl ?_
  refine r_aload_n d_Lw_law_1671 rfl 2 rfl ?_
  refine r_callSX (As := [.ref a, .int (zs g 1), .ref o1]) (rest := []) (csC := [(a, .inr (11, [.ref pa, .ref ta, .ref sa, .ref gs, .ref co, .ref fu, .ref la, .ref gy, .ref du, .ref re, .ref wm, .ref ac])), (la, .inr (5, [.ref lab, .int 0, .int 0, .int 0])), (lab, .inr (6, [.ref labg, .int 0])), (labg, .inl (3, 4, .inr (.inl (fun _ => 0)))), (o1, .inl (3, 1, .inr (.inl (fun _ => 0))))]) (is := [0, 42, 43, 44, 69]) ln_Lw_262 w_st_Lw_treat ok_Lw_law_Lw_treat d_Lw_law_1672 (C_Lw_treatF g a pa ta sa gs co fu la gy du re wm ac lab labg (fun _ => 0) 0 0 0 0 (zs g 1) hw rfl o1 (fun _ => 0)) rfl rfl (Nat.le_of_ble_eq_true rfl) rfl (by decide) (by omega) (by omega) (fun E cs1 hx => ?_) (fun v cs1 hx => ?_)
  · exact absurd hx.1 (by simp)
  · obtain ⟨e1, rfl⟩ := hx
    cases e1
    refine ⟨rfl, ?_⟩
    refine r_st (st2 := [.int 2]) rfl ?_
    refine r_istore (lv' := [(6, .int 2), (5, .int 0), (4, .ref o2), (3, .ref o1), (2, .ref m), (1, .ref a), (0, .ref (g.2.2 40))]) d_Lw_law_1675 (by decide) rfl ?_
    refine r_aload_n d_Lw_law_1677 rfl 4 rfl ?_
    refine r_aload_n d_Lw_law_1678 rfl 6 rfl ?_
    refine r_iload d_Lw_law_1679 1 rfl ?_
    refine r_iconst d_Lw_law_1681 (v := 1) (by decide) ?_
    refine r_iadd d_Lw_law_1682 (v := 1) rfl ?_
    refine r_sld (v := zs g 1) d_Lw_law_1683 (by rw [hL]; exact fun q => q.elim (by decide) (by decide)) rfl ?_
    refine r_callV (As := [.int (zs g 1)]) (rest := []) (csC := [(m, .inr (12, [.int 0, .ref mp, .int 4, .ref mf, .ref mh, .ref mn, .ref mt, .ref mz, .ref mc_, .ref mq, .ref mgr, .int 80, .int 35, .int 30, .int 50, .int 0, .int 0, .ref ml, .ref mi, .ref mr, .int 0, .int 0, .int 0, .int (-1), .int 0, .ref mm, .ref mu, .ref mk, .ref mx, .long 0, .long 0])), (mi, .inl (0, 4, .inl (fun _ => 0)))]) (is := [52, 63]) (q0 := 52) rfl rfl ln_Lw_264 w_im_Mm_treat w_se_Mm_treat ok_Lw_law_Mm_treat d_Lw_law_1684 (C_Mm_treatF g m mp mf mh mn mt mz mc_ mq mgr ml mi mr mm mu mk mx 0 4 80 35 30 50 0 0 0 0 0 (-1) 0 0 0 (fun _ => 0) (zs g 1) hw rfl) rfl rfl (Nat.le_of_ble_eq_true rfl) rfl (by decide) (by omega) (by omega) (fun E cs1 hx => ?_) (fun v cs1 hx => ?_)
    · exact absurd hx.1 (by simp)
    · obtain ⟨e1, rfl⟩ := hx
      cases e1
      refine ⟨rfl, ?_⟩
      refine r_st (st2 := [.int 0]) rfl ?_
      refine r_istore (lv' := [(7, .int 0), (6, .int 2), (5, .int 0), (4, .ref o2), (3, .ref o1), (2, .ref m), (1, .ref a), (0, .ref (g.2.2 40))]) d_Lw_law_1687 (by decide) rfl ?_
      refine r_aload_n d_Lw_law_1689 rfl 5 rfl ?_
      refine r_callV (As := []) (rest := []) (csC := [(m, .inr (12, [.int 2, .ref mp, .int 4, .ref mf, .ref mh, .ref mn, .ref mt, .ref mz, .ref mc_, .ref mq, .ref mgr, .int 80, .int 35, .int 30, .int 50, .int 0, .int 0, .ref ml, .ref mi, .ref mr, .int 0, .int 0, .int 0, .int (-1), .int 0, .ref mm, .ref mu, .ref mk, .ref mx, .long 0, .long 0]))]) (is := [52]) (q0 := 52) rfl rfl ln_Lw_175 w_im_Mm_thrown w_se_Mm_thrown ok_Lw_law_Mm_thrown d_Lw_law_1690 (C_Mm_thrown g m mp mf mh mn mt mz mc_ mq mgr ml mi mr mm mu mk mx 2 4 80 35 30 50 0 0 0 0 0 (-1) 0 0 0) rfl rfl (Nat.le_of_ble_eq_true rfl) rfl (by decide) (by omega) (by omega) (fun E cs1 hx => ?_) (fun v cs1 hx => ?_)
      · exact absurd hx.1 (by simp)
      · obtain ⟨e1, rfl⟩ := hx
        cases e1
        refine ⟨rfl, ?_⟩
        refine r_st (st2 := [.int 2]) rfl ?_
        refine r_iload d_Lw_law_1693 1 rfl ?_
        refine r_icmp_eq (tgt := 1700) d_Lw_law_1695 (by decide) (fun c_1695 => ?_) (fun c_1695 => ?_)
        · refine r_iload d_Lw_law_1700 1 rfl ?_
          refine r_if_ne (tgt := 1717) d_Lw_law_1702 (by decide) (fun c_1702 => ?_) (fun c_1702 => ?_)
          · refine r_goto (tgt := 3019) d_Lw_law_1717 (by decide) ?_
            refine r_lv (lv' := [(5, .int 0), (0, .ref (g.2.2 40))]) [2, 7] rfl ?_
            exact LW_tail g _ hL _ _ w0 n
          · exact absurd c_1702 (by decide)
        · exact absurd c_1695 (by decide)
theorem d_Lw_law_1720 : decode code 1720 = .ok (.aload_n 1, 1) := by decide +kernel
theorem d_Lw_law_1721 : decode code 1721 = .ok (.aload_n 0, 1) := by decide +kernel
theorem d_Lw_law_1722 : decode code 1722 = .ok (.iload 5, 2) := by decide +kernel
theorem d_Lw_law_1724 : decode code 1724 = .ok (.iconst 1, 1) := by decide +kernel
theorem d_Lw_law_1725 : decode code 1725 = .ok (.iadd, 1) := by decide +kernel
theorem d_Lw_law_1726 : decode code 1726 = .ok (.iaload, 1) := by decide +kernel
theorem d_Lw_law_1727 : decode code 1727 = .ok (.aload_n 3, 1) := by decide +kernel
theorem d_Lw_law_1728 : decode code 1728 = .ok (.invokestatic 265, 3) := by decide +kernel
theorem ok_Lw_law_Lw_minutes : z_okX M_Lw_law M_Lw_minutes 3 := ⟨z_mem (i := 1151) (by decide +kernel) (by decide +kernel), by decide, ⟨by decide +kernel, by decide +kernel, by decide +kernel⟩, ⟨by decide, by decide⟩, z_mem (i := 57) (by decide +kernel) (by decide +kernel), rfl⟩
theorem ln_Lw_265 : Cond.methodLink "IronpourLaw" 265 M_Lw_minutes.1 ∈ z_gw := z_mem (i := 1149) (by decide +kernel) (by decide +kernel)
theorem w_st_Lw_minutes : Cond.static M_Lw_minutes.1 ∈ z_gw := z_mem (i := 1150) (by decide +kernel) (by decide +kernel)
theorem d_Lw_law_1731 : decode code 1731 = .ok (.istore 6, 2) := by decide +kernel
theorem d_Lw_law_1733 : decode code 1733 = .ok (.aload_n 2, 1) := by decide +kernel
theorem d_Lw_law_1734 : decode code 1734 = .ok (.aload_n 0, 1) := by decide +kernel
theorem d_Lw_law_1735 : decode code 1735 = .ok (.iload 5, 2) := by decide +kernel
theorem d_Lw_law_1737 : decode code 1737 = .ok (.iconst 1, 1) := by decide +kernel
theorem d_Lw_law_1738 : decode code 1738 = .ok (.iadd, 1) := by decide +kernel
theorem d_Lw_law_1739 : decode code 1739 = .ok (.iaload, 1) := by decide +kernel
theorem d_Lw_law_1740 : decode code 1740 = .ok (.invokevirtual 267, 3) := by decide +kernel
theorem ok_Lw_law_Mm_minutes : z_ok M_Lw_law M_Mm_minutes 1 := ⟨z_mem (i := 1924) (by decide +kernel) (by decide +kernel), rfl, ⟨by decide +kernel, by decide +kernel, by decide +kernel⟩, ⟨by decide, by decide⟩, z_mem (i := 71) (by decide +kernel) (by decide +kernel), rfl⟩
theorem ln_Lw_267 : Cond.methodLink "IronpourLaw" 267 M_Mm_minutes.1 ∈ z_gw := z_mem (i := 1921) (by decide +kernel) (by decide +kernel)
theorem w_im_Mm_minutes : Cond.instanceMethod M_Mm_minutes.1 ∈ z_gw := z_mem (i := 1922) (by decide +kernel) (by decide +kernel)
theorem w_se_Mm_minutes : Cond.selects M_Mm_minutes.1.cls M_Mm_minutes.1 M_Mm_minutes.1 ∈ z_gw := z_mem (i := 1923) (by decide +kernel) (by decide +kernel)
theorem d_Lw_law_1743 : decode code 1743 = .ok (.istore 7, 2) := by decide +kernel
theorem d_Lw_law_1745 : decode code 1745 = .ok (.aload_n 2, 1) := by decide +kernel
theorem d_Lw_law_1746 : decode code 1746 = .ok (.invokevirtual 175, 3) := by decide +kernel
theorem d_Lw_law_1749 : decode code 1749 = .ok (.iload 6, 2) := by decide +kernel
theorem d_Lw_law_1751 : decode code 1751 = .ok (.if_icmp .eq 5, 3) := by decide +kernel
theorem d_Lw_law_1756 : decode code 1756 = .ok (.iload 6, 2) := by decide +kernel
theorem d_Lw_law_1758 : decode code 1758 = .ok (.ifCond .ne 15, 3) := by decide +kernel
theorem d_Lw_law_1773 : decode code 1773 = .ok (.goto 1246, 3) := by decide +kernel
set_option maxHeartbeats 4000000 in
set_option maxRecDepth 100000 in
theorem LW_minutesE (g : zG) (a pa pa1 pa2 pa3 ta ta1 ta2 taz taz1 taz2 taz3 taz4 taz5 taz6 ta4 ta5 ta6 sa sa1 sa2 saz saz1 saz2 saz3 saz4 saz5 saz6 sa4 sa5 sa6 gs co co1 co2 co3 fu fub fubg fut1 fut2 fut3 la lab labg gy gyg du dug re wm ac m mp mf mh mn mt mz mc_ mq mgr ml mi mr mm mu mk mx o1 o2 : Nat) (hL : g.2.2 41 = 7) (hw : ¬ (1 ≤ (zs g 1) ∧ (zs g 1) ≤ 60)) (w0 : zW) (n : Nat) : DV g M_Lw_law (lwP) w0 n 1720 [(5, .int 0), (4, .ref o2), (3, .ref o1), (2, .ref m), (1, .ref a), (0, .ref (g.2.2 40))] [] (lwCS g a pa pa1 pa2 pa3 ta ta1 ta2 taz taz1 taz2 taz3 taz4 taz5 taz6 ta4 ta5 ta6 sa sa1 sa2 saz saz1 saz2 saz3 saz4 saz5 saz6 sa4 sa5 sa6 gs co co1 co2 co3 fu fub fubg fut1 fut2 fut3 la lab labg gy gyg du dug re wm ac m mp mf mh mn mt mz mc_ mq mgr ml mi mr mm mu mk mx o1 o2) 100 1000 := by
  refine r_aload_n d_Lw_law_1720 rfl 4 rfl ?_
  refine r_aload_n d_Lw_law_1721 rfl 5 rfl ?_
  refine r_iload d_Lw_law_1722 0 rfl ?_
  refine r_iconst d_Lw_law_1724 (v := 1) (by decide) ?_
  refine r_iadd d_Lw_law_1725 (v := 1) rfl ?_
  refine r_sld (v := zs g 1) d_Lw_law_1726 (by rw [hL]; exact fun q => q.elim (by decide) (by decide)) rfl ?_
  refine r_aload_n d_Lw_law_1727 rfl 2 rfl ?_
  refine r_callSX (As := [.ref a, .int (zs g 1), .ref o1]) (rest := []) (csC := [(a, .inr (11, [.ref pa, .ref ta, .ref sa, .ref gs, .ref co, .ref fu, .ref la, .ref gy, .ref du, .ref re, .ref wm, .ref ac])), (la, .inr (5, [.ref lab, .int 0, .int 0, .int 0])), (lab, .inr (6, [.ref labg, .int 0])), (labg, .inl (3, 4, .inr (.inl (fun _ => 0)))), (wm, .inr (13, [.int 0, .ref (g.2.2 4), .int 0])), (o1, .inl (3, 1, .inr (.inl (fun _ => 0))))]) (is := [0, 42, 43, 44, 50, 69]) ln_Lw_265 w_st_Lw_minutes ok_Lw_law_Lw_minutes d_Lw_law_1728 (C_Lw_minutesE g a pa ta sa gs co fu la gy du re wm ac lab labg (fun _ => 0) 0 0 0 0 0 (g.2.2 4) (zs g 1) hw o1 (fun _ => 0)) rfl rfl (Nat.le_of_ble_eq_true rfl) rfl (by decide) (by omega) (by omega) (fun E cs1 hx => ?_) (fun v cs1 hx => ?_)
  · exact absurd hx.1 (by simp)
  · obtain ⟨e1, rfl⟩ := hx
    cases e1
    refine ⟨rfl, ?_⟩
    refine r_st (st2 := [.int 1]) rfl ?_
    refine r_istore (lv' := [(6, .int 1), (5, .int 0), (4, .ref o2), (3, .ref o1), (2, .ref m), (1, .ref a), (0, .ref (g.2.2 40))]) d_Lw_law_1731 (by decide) rfl ?_
    refine r_aload_n d_Lw_law_1733 rfl 4 rfl ?_
    refine r_aload_n d_Lw_law_1734 rfl 6 rfl ?_
    refine r_iload d_Lw_law_1735 1 rfl ?_
    refine r_iconst d_Lw_law_1737 (v := 1) (by decide) ?_
    refine r_iadd d_Lw_law_1738 (v := 1) rfl ?_
    refine r_sld (v := zs g 1) d_Lw_law_1739 (by rw [hL]; exact fun q => q.elim (by decide) (by decide)) rfl ?_
    refine r_callV (As := [.int (zs g 1)]) (rest := []) (csC := [(m, .inr (12, [.int 0, .ref mp, .int 4, .ref mf, .ref mh, .ref mn, .ref mt, .ref mz, .ref mc_, .ref mq, .ref mgr, .int 80, .int 35, .int 30, .int 50, .int 0, .int 0, .ref ml, .ref mi, .ref mr, .int 0, .int 0, .int 0, .int (-1), .int 0, .ref mm, .ref mu, .ref mk, .ref mx, .long 0, .long 0]))]) (is := [52]) (q0 := 52) rfl rfl ln_Lw_267 w_im_Mm_minutes w_se_Mm_minutes ok_Lw_law_Mm_minutes d_Lw_law_1740 (C_Mm_minutesE g m mp mf mh mn mt mz mc_ mq mgr ml mi mr mm mu mk mx 0 4 80 35 30 50 0 0 0 0 0 (-1) 0 0 0 (zs g 1) hw) rfl rfl (Nat.le_of_ble_eq_true rfl) rfl (by decide) (by omega) (by omega) (fun E cs1 hx => ?_) (fun v cs1 hx => ?_)
    · exact absurd hx.1 (by simp)
    · obtain ⟨e1, rfl⟩ := hx
      cases e1
      refine ⟨rfl, ?_⟩
      refine r_st (st2 := [.int 0]) rfl ?_
      refine r_istore (lv' := [(7, .int 0), (6, .int 1), (5, .int 0), (4, .ref o2), (3, .ref o1), (2, .ref m), (1, .ref a), (0, .ref (g.2.2 40))]) d_Lw_law_1743 (by decide) rfl ?_
      refine r_aload_n d_Lw_law_1745 rfl 5 rfl ?_
      refine r_callV (As := []) (rest := []) (csC := [(m, .inr (12, [.int 1, .ref mp, .int 4, .ref mf, .ref mh, .ref mn, .ref mt, .ref mz, .ref mc_, .ref mq, .ref mgr, .int 80, .int 35, .int 30, .int 50, .int 0, .int 0, .ref ml, .ref mi, .ref mr, .int 0, .int 0, .int 0, .int (-1), .int 0, .ref mm, .ref mu, .ref mk, .ref mx, .long 0, .long 0]))]) (is := [52]) (q0 := 52) rfl rfl ln_Lw_175 w_im_Mm_thrown w_se_Mm_thrown ok_Lw_law_Mm_thrown d_Lw_law_1746 (C_Mm_thrown g m mp mf mh mn mt mz mc_ mq mgr ml mi mr mm mu mk mx 1 4 80 35 30 50 0 0 0 0 0 (-1) 0 0 0) rfl rfl (Nat.le_of_ble_eq_true rfl) rfl (by decide) (by omega) (by omega) (fun E cs1 hx => ?_) (fun v cs1 hx => ?_)
      · exact absurd hx.1 (by simp)
      · obtain ⟨e1, rfl⟩ := hx
        cases e1
        refine ⟨rfl, ?_⟩
        refine r_st (st2 := [.int 1]) rfl ?_
        refine r_iload d_Lw_law_1749 1 rfl ?_
        refine r_icmp_eq (tgt := 1756) d_Lw_law_1751 (by decide) (fun c_1751 => ?_) (fun c_1751 => ?_)
        · refine r_iload d_Lw_law_1756 1 rfl ?_
          refine r_if_ne (tgt := 1773) d_Lw_law_1758 (by decide) (fun c_1758 => ?_) (fun c_1758 => ?_)
          · refine r_goto (tgt := 3019) d_Lw_law_1773 (by decide) ?_
            refine r_lv (lv' := [(5, .int 0), (0, .ref (g.2.2 40))]) [2, 7] rfl ?_
            exact LW_tail g _ hL _ _ w0 n
          · exact absurd c_1758 (by decide)
        · exact absurd c_1751 (by decide)
theorem d_Lw_law_1761 : decode code 1761 = .ok (.aload_n 3, 1) := by decide +kernel
theorem d_Lw_law_1762 : decode code 1762 = .ok (.iconst 0, 1) := by decide +kernel
theorem d_Lw_law_1763 : decode code 1763 = .ok (.laload, 1) := by decide +kernel
theorem d_Lw_law_1764 : decode code 1764 = .ok (.iload 7, 2) := by decide +kernel
theorem d_Lw_law_1766 : decode code 1766 = .ok (.i2l, 1) := by decide +kernel
theorem d_Lw_law_1767 : decode code 1767 = .ok (.lcmp, 1) := by decide +kernel
theorem d_Lw_law_1768 : decode code 1768 = .ok (.ifCond .eq 5, 3) := by decide +kernel
set_option maxHeartbeats 4000000 in
set_option maxRecDepth 100000 in
theorem LW_minutes0 (g : zG) (a pa pa1 pa2 pa3 ta ta1 ta2 taz taz1 taz2 taz3 taz4 taz5 taz6 ta4 ta5 ta6 sa sa1 sa2 saz saz1 saz2 saz3 saz4 saz5 saz6 sa4 sa5 sa6 gs co co1 co2 co3 fu fub fubg fut1 fut2 fut3 la lab labg gy gyg du dug re wm ac m mp mf mh mn mt mz mc_ mq mgr ml mi mr mm mu mk mx o1 o2 : Nat) (hL : g.2.2 41 = 7) (nm : Nat) (hn9 : nm < 1000) (e1 : zs g 1 = nI nm) (hw : (1 ≤ nI nm ∧ nI nm ≤ 60)) (w0 : zW) (n : Nat) : DV g M_Lw_law (lwP) w0 n 1720 [(5, .int 0), (4, .ref o2), (3, .ref o1), (2, .ref m), (1, .ref a), (0, .ref (g.2.2 40))] [] (lwCS g a pa pa1 pa2 pa3 ta ta1 ta2 taz taz1 taz2 taz3 taz4 taz5 taz6 ta4 ta5 ta6 sa sa1 sa2 saz saz1 saz2 saz3 saz4 saz5 saz6 sa4 sa5 sa6 gs co co1 co2 co3 fu fub fubg fut1 fut2 fut3 la lab labg gy gyg du dug re wm ac m mp mf mh mn mt mz mc_ mq mgr ml mi mr mm mu mk mx o1 o2) 100 1000 := by
  refine r_aload_n d_Lw_law_1720 rfl 4 rfl ?_
  refine r_aload_n d_Lw_law_1721 rfl 5 rfl ?_
  refine r_iload d_Lw_law_1722 0 rfl ?_
  refine r_iconst d_Lw_law_1724 (v := 1) (by decide) ?_
  refine r_iadd d_Lw_law_1725 (v := 1) rfl ?_
  refine r_sld (v := nI nm) d_Lw_law_1726 (by rw [hL]; exact fun q => q.elim (by decide) (by decide)) e1 ?_
  refine r_aload_n d_Lw_law_1727 rfl 2 rfl ?_
  refine r_callSX (As := [.ref a, .int (nI nm), .ref o1]) (rest := []) (csC := [(a, .inr (11, [.ref pa, .ref ta, .ref sa, .ref gs, .ref co, .ref fu, .ref la, .ref gy, .ref du, .ref re, .ref wm, .ref ac])), (la, .inr (5, [.ref lab, .int 0, .int 0, .int 0])), (lab, .inr (6, [.ref labg, .int 0])), (labg, .inl (3, 4, .inr (.inl (fun _ => 0)))), (wm, .inr (13, [.int 0, .ref (g.2.2 4), .int 0])), (o1, .inl (3, 1, .inr (.inl (fun _ => 0))))]) (is := [0, 42, 43, 44, 50, 69]) ln_Lw_265 w_st_Lw_minutes ok_Lw_law_Lw_minutes d_Lw_law_1728 (C_Lw_minutes0 g a pa ta sa gs co fu la gy du re wm ac lab labg (fun _ => 0) 0 0 0 0 0 (g.2.2 4) nm hn9 hw o1 (fun _ => 0)) rfl rfl (Nat.le_of_ble_eq_true rfl) rfl (by decide) (by omega) (by omega) (fun E cs1 hx => ?_) (fun v cs1 hx => ?_)
  · exact absurd hx.1 (by simp)
  · obtain ⟨e1, rfl⟩ := hx
    cases e1
    refine ⟨rfl, ?_⟩
    refine r_st (st2 := [.int 0]) rfl ?_
    refine r_istore (lv' := [(6, .int 0), (5, .int 0), (4, .ref o2), (3, .ref o1), (2, .ref m), (1, .ref a), (0, .ref (g.2.2 40))]) d_Lw_law_1731 (by decide) rfl ?_
    refine r_aload_n d_Lw_law_1733 rfl 4 rfl ?_
    refine r_aload_n d_Lw_law_1734 rfl 6 rfl ?_
    refine r_iload d_Lw_law_1735 1 rfl ?_
    refine r_iconst d_Lw_law_1737 (v := 1) (by decide) ?_
    refine r_iadd d_Lw_law_1738 (v := 1) rfl ?_
    refine r_sld (v := nI nm) d_Lw_law_1739 (by rw [hL]; exact fun q => q.elim (by decide) (by decide)) e1 ?_
    refine r_callV (As := [.int (nI nm)]) (rest := []) (csC := [(m, .inr (12, [.int 0, .ref mp, .int 4, .ref mf, .ref mh, .ref mn, .ref mt, .ref mz, .ref mc_, .ref mq, .ref mgr, .int 80, .int 35, .int 30, .int 50, .int 0, .int 0, .ref ml, .ref mi, .ref mr, .int 0, .int 0, .int 0, .int (-1), .int 0, .ref mm, .ref mu, .ref mk, .ref mx, .long 0, .long 0])), (mi, .inl (0, 4, .inl (fun _ => 0))), (mu, .inr (13, [.int 0, .ref (g.2.2 4), .int 0]))]) (is := [52, 63, 66]) (q0 := 52) rfl rfl ln_Lw_267 w_im_Mm_minutes w_se_Mm_minutes ok_Lw_law_Mm_minutes d_Lw_law_1740 (C_Mm_minutes0 g m mp mf mh mn mt mz mc_ mq mgr ml mi mr mm mu mk mx 0 4 80 35 30 50 0 0 0 0 0 (-1) 0 0 0 (fun _ => 0) 0 (g.2.2 4) (nI nm) hw rfl) rfl rfl (Nat.le_of_ble_eq_true rfl) rfl (by decide) (by omega) (by omega) (fun E cs1 hx => ?_) (fun v cs1 hx => ?_)
    · exact absurd hx.1 (by simp)
    · obtain ⟨e1, rfl⟩ := hx
      cases e1
      refine ⟨rfl, ?_⟩
      refine r_st (st2 := [.int 0]) rfl ?_
      refine r_istore (lv' := [(7, .int 0), (6, .int 0), (5, .int 0), (4, .ref o2), (3, .ref o1), (2, .ref m), (1, .ref a), (0, .ref (g.2.2 40))]) d_Lw_law_1743 (by decide) rfl ?_
      refine r_aload_n d_Lw_law_1745 rfl 5 rfl ?_
      refine r_callV (As := []) (rest := []) (csC := [(m, .inr (12, [.int 0, .ref mp, .int 4, .ref mf, .ref mh, .ref mn, .ref mt, .ref mz, .ref mc_, .ref mq, .ref mgr, .int 80, .int 35, .int 30, .int 50, .int 0, .int 0, .ref ml, .ref mi, .ref mr, .int 0, .int 0, .int 0, .int (-1), .int 0, .ref mm, .ref mu, .ref mk, .ref mx, .long 0, .long 0]))]) (is := [52]) (q0 := 52) rfl rfl ln_Lw_175 w_im_Mm_thrown w_se_Mm_thrown ok_Lw_law_Mm_thrown d_Lw_law_1746 (C_Mm_thrown g m mp mf mh mn mt mz mc_ mq mgr ml mi mr mm mu mk mx 0 4 80 35 30 50 0 0 0 0 0 (-1) 0 0 0) rfl rfl (Nat.le_of_ble_eq_true rfl) rfl (by decide) (by omega) (by omega) (fun E cs1 hx => ?_) (fun v cs1 hx => ?_)
      · exact absurd hx.1 (by simp)
      · obtain ⟨e1, rfl⟩ := hx
        cases e1
        refine ⟨rfl, ?_⟩
        refine r_st (st2 := [.int 0]) rfl ?_
        refine r_iload d_Lw_law_1749 1 rfl ?_
        refine r_icmp_eq (tgt := 1756) d_Lw_law_1751 (by decide) (fun c_1751 => ?_) (fun c_1751 => ?_)
        · refine r_iload d_Lw_law_1756 1 rfl ?_
          refine r_if_ne (tgt := 1773) d_Lw_law_1758 (by decide) (fun c_1758 => ?_) (fun c_1758 => ?_)
          · exact absurd c_1758 (by decide)
          · refine r_aload_n d_Lw_law_1761 rfl 4 rfl ?_
            refine r_iconst d_Lw_law_1762 (v := 0) (by decide) ?_
            refine r_lald d_Lw_law_1763 (q0 := 69) rfl (fun q => q.elim (by decide) (by decide)) (v := (vp_updL (fun _ => 0) 0 ((if 0 = 0 then 0 else (if 20 < 0 - 4 * nI nm then 0 - 4 * nI nm else 20))).toInt64) 0) rfl ?_
            refine r_iload d_Lw_law_1764 0 rfl ?_
            refine r_i2l d_Lw_law_1766 (v := 0.toInt64) rfl ?_
            refine r_lcmp d_Lw_law_1767 (v := 0) (zl_cmp (if_pos rfl)) ?_
            refine r_if_eq (tgt := 1773) d_Lw_law_1768 (by decide) (fun c_1768 => ?_) (fun c_1768 => ?_)
            · refine r_goto (tgt := 3019) d_Lw_law_1773 (by decide) ?_
              refine r_lv (lv' := [(5, .int 0), (0, .ref (g.2.2 40))]) [2, 7] rfl ?_
              exact LW_tail g _ hL _ _ w0 n
            · exact absurd c_1768 (by decide)
        · exact absurd c_1751 (by decide)
theorem d_Lw_law_1776 : decode code 1776 = .ok (.aload_n 1, 1) := by decide +kernel
theorem d_Lw_law_1777 : decode code 1777 = .ok (.aload_n 0, 1) := by decide +kernel
theorem d_Lw_law_1778 : decode code 1778 = .ok (.iload 5, 2) := by decide +kernel
theorem d_Lw_law_1780 : decode code 1780 = .ok (.iconst 1, 1) := by decide +kernel
theorem d_Lw_law_1781 : decode code 1781 = .ok (.iadd, 1) := by decide +kernel
theorem d_Lw_law_1782 : decode code 1782 = .ok (.iaload, 1) := by decide +kernel
theorem d_Lw_law_1783 : decode code 1783 = .ok (.i2c, 1) := by decide +kernel
theorem d_Lw_law_1784 : decode code 1784 = .ok (.aload_n 3, 1) := by decide +kernel
theorem d_Lw_law_1785 : decode code 1785 = .ok (.invokestatic 268, 3) := by decide +kernel
theorem ok_Lw_law_Lw_ladle : z_okX M_Lw_law M_Lw_ladle 3 := ⟨z_mem (i := 1165) (by decide +kernel) (by decide +kernel), by decide, ⟨by decide +kernel, by decide +kernel, by decide +kernel⟩, ⟨by decide, by decide⟩, z_mem (i := 57) (by decide +kernel) (by decide +kernel), rfl⟩
theorem ln_Lw_268 : Cond.methodLink "IronpourLaw" 268 M_Lw_ladle.1 ∈ z_gw := z_mem (i := 1163) (by decide +kernel) (by decide +kernel)
theorem w_st_Lw_ladle : Cond.static M_Lw_ladle.1 ∈ z_gw := z_mem (i := 1164) (by decide +kernel) (by decide +kernel)
theorem d_Lw_law_1788 : decode code 1788 = .ok (.istore 6, 2) := by decide +kernel
theorem d_Lw_law_1790 : decode code 1790 = .ok (.aload_n 2, 1) := by decide +kernel
theorem d_Lw_law_1791 : decode code 1791 = .ok (.aload_n 0, 1) := by decide +kernel
theorem d_Lw_law_1792 : decode code 1792 = .ok (.iload 5, 2) := by decide +kernel
theorem d_Lw_law_1794 : decode code 1794 = .ok (.iconst 1, 1) := by decide +kernel
theorem d_Lw_law_1795 : decode code 1795 = .ok (.iadd, 1) := by decide +kernel
theorem d_Lw_law_1796 : decode code 1796 = .ok (.iaload, 1) := by decide +kernel
theorem d_Lw_law_1797 : decode code 1797 = .ok (.i2c, 1) := by decide +kernel
theorem d_Lw_law_1798 : decode code 1798 = .ok (.invokevirtual 270, 3) := by decide +kernel
theorem ok_Lw_law_Mm_ladle : z_ok M_Lw_law M_Mm_ladle 1 := ⟨z_mem (i := 1928) (by decide +kernel) (by decide +kernel), rfl, ⟨by decide +kernel, by decide +kernel, by decide +kernel⟩, ⟨by decide, by decide⟩, z_mem (i := 71) (by decide +kernel) (by decide +kernel), rfl⟩
theorem ln_Lw_270 : Cond.methodLink "IronpourLaw" 270 M_Mm_ladle.1 ∈ z_gw := z_mem (i := 1925) (by decide +kernel) (by decide +kernel)
theorem w_im_Mm_ladle : Cond.instanceMethod M_Mm_ladle.1 ∈ z_gw := z_mem (i := 1926) (by decide +kernel) (by decide +kernel)
theorem w_se_Mm_ladle : Cond.selects M_Mm_ladle.1.cls M_Mm_ladle.1 M_Mm_ladle.1 ∈ z_gw := z_mem (i := 1927) (by decide +kernel) (by decide +kernel)
theorem d_Lw_law_1801 : decode code 1801 = .ok (.istore 7, 2) := by decide +kernel
theorem d_Lw_law_1803 : decode code 1803 = .ok (.aload_n 2, 1) := by decide +kernel
theorem d_Lw_law_1804 : decode code 1804 = .ok (.invokevirtual 175, 3) := by decide +kernel
theorem d_Lw_law_1807 : decode code 1807 = .ok (.iload 6, 2) := by decide +kernel
theorem d_Lw_law_1809 : decode code 1809 = .ok (.if_icmp .eq 5, 3) := by decide +kernel
theorem d_Lw_law_1814 : decode code 1814 = .ok (.iload 6, 2) := by decide +kernel
theorem d_Lw_law_1816 : decode code 1816 = .ok (.ifCond .ne 15, 3) := by decide +kernel
theorem d_Lw_law_1831 : decode code 1831 = .ok (.goto 1188, 3) := by decide +kernel
set_option maxHeartbeats 4000000 in
set_option maxRecDepth 100000 in
theorem LW_ladleE (g : zG) (a pa pa1 pa2 pa3 ta ta1 ta2 taz taz1 taz2 taz3 taz4 taz5 taz6 ta4 ta5 ta6 sa sa1 sa2 saz saz1 saz2 saz3 saz4 saz5 saz6 sa4 sa5 sa6 gs co co1 co2 co3 fu fub fubg fut1 fut2 fut3 la lab labg gy gyg du dug re wm ac m mp mf mh mn mt mz mc_ mq mgr ml mi mr mm mu mk mx o1 o2 : Nat) (hL : g.2.2 41 = 7) (hw : z_ix 3 (zc g 1) < 0) (w0 : zW) (n : Nat) : DV g M_Lw_law (lwP) w0 n 1776 [(5, .int 0), (4, .ref o2), (3, .ref o1), (2, .ref m), (1, .ref a), (0, .ref (g.2.2 40))] [] (lwCS g a pa pa1 pa2 pa3 ta ta1 ta2 taz taz1 taz2 taz3 taz4 taz5 taz6 ta4 ta5 ta6 sa sa1 sa2 saz saz1 saz2 saz3 saz4 saz5 saz6 sa4 sa5 sa6 gs co co1 co2 co3 fu fub fubg fut1 fut2 fut3 la lab labg gy gyg du dug re wm ac m mp mf mh mn mt mz mc_ mq mgr ml mi mr mm mu mk mx o1 o2) 100 1000 := by
  refine r_aload_n d_Lw_law_1776 rfl 4 rfl ?_
  refine r_aload_n d_Lw_law_1777 rfl 5 rfl ?_
  refine r_iload d_Lw_law_1778 0 rfl ?_
  refine r_iconst d_Lw_law_1780 (v := 1) (by decide) ?_
  refine r_iadd d_Lw_law_1781 (v := 1) rfl ?_
  refine r_sld (v := zs g 1) d_Lw_law_1782 (by rw [hL]; exact fun q => q.elim (by decide) (by decide)) rfl ?_
  refine r_i2c d_Lw_law_1783 (v := zc g 1) rfl ?_
  refine r_aload_n d_Lw_law_1784 rfl 2 rfl ?_
  refine r_callSX (As := [.ref a, .int (zc g 1), .ref o1]) (rest := []) (csC := [(a, .inr (11, [.ref pa, .ref ta, .ref sa, .ref gs, .ref co, .ref fu, .ref la, .ref gy, .ref du, .ref re, .ref wm, .ref ac])), (la, .inr (5, [.ref lab, .int 0, .int 0, .int 0])), (lab, .inr (6, [.ref labg, .int 0])), (labg, .inl (3, 4, .inr (.inl (fun _ => 0)))), (o1, .inl (3, 1, .inr (.inl (fun _ => 0))))]) (is := [0, 42, 43, 44, 69]) ln_Lw_268 w_st_Lw_ladle ok_Lw_law_Lw_ladle d_Lw_law_1785 (C_Lw_ladleE g a pa ta sa gs co fu la gy du re wm ac lab labg (fun _ => 0) 0 0 0 0 (zc g 1) hw o1 (fun _ => 0)) rfl rfl (Nat.le_of_ble_eq_true rfl) rfl (by decide) (by omega) (by omega) (fun E cs1 hx => ?_) (fun v cs1 hx => ?_)
  · exact absurd hx.1 (by simp)
  · obtain ⟨e1, rfl⟩ := hx
    cases e1
    refine ⟨rfl, ?_⟩
    refine r_st (st2 := [.int 1]) rfl ?_
    refine r_istore (lv' := [(6, .int 1), (5, .int 0), (4, .ref o2), (3, .ref o1), (2, .ref m), (1, .ref a), (0, .ref (g.2.2 40))]) d_Lw_law_1788 (by decide) rfl ?_
    refine r_aload_n d_Lw_law_1790 rfl 4 rfl ?_
    refine r_aload_n d_Lw_law_1791 rfl 6 rfl ?_
    refine r_iload d_Lw_law_1792 1 rfl ?_
    refine r_iconst d_Lw_law_1794 (v := 1) (by decide) ?_
    refine r_iadd d_Lw_law_1795 (v := 1) rfl ?_
    refine r_sld (v := zs g 1) d_Lw_law_1796 (by rw [hL]; exact fun q => q.elim (by decide) (by decide)) rfl ?_
    refine r_i2c d_Lw_law_1797 (v := zc g 1) rfl ?_
    refine r_callV (As := [.int (zc g 1)]) (rest := []) (csC := [(m, .inr (12, [.int 0, .ref mp, .int 4, .ref mf, .ref mh, .ref mn, .ref mt, .ref mz, .ref mc_, .ref mq, .ref mgr, .int 80, .int 35, .int 30, .int 50, .int 0, .int 0, .ref ml, .ref mi, .ref mr, .int 0, .int 0, .int 0, .int (-1), .int 0, .ref mm, .ref mu, .ref mk, .ref mx, .long 0, .long 0]))]) (is := [52]) (q0 := 52) rfl rfl ln_Lw_270 w_im_Mm_ladle w_se_Mm_ladle ok_Lw_law_Mm_ladle d_Lw_law_1798 (C_Mm_ladleE g m mp mf mh mn mt mz mc_ mq mgr ml mi mr mm mu mk mx 0 4 80 35 30 50 0 0 0 0 0 (-1) 0 0 0 (zc g 1) hw) rfl rfl (Nat.le_of_ble_eq_true rfl) rfl (by decide) (by omega) (by omega) (fun E cs1 hx => ?_) (fun v cs1 hx => ?_)
    · exact absurd hx.1 (by simp)
    · obtain ⟨e1, rfl⟩ := hx
      cases e1
      refine ⟨rfl, ?_⟩
      refine r_st (st2 := [.int 0]) rfl ?_
      refine r_istore (lv' := [(7, .int 0), (6, .int 1), (5, .int 0), (4, .ref o2), (3, .ref o1), (2, .ref m), (1, .ref a), (0, .ref (g.2.2 40))]) d_Lw_law_1801 (by decide) rfl ?_
      refine r_aload_n d_Lw_law_1803 rfl 5 rfl ?_
      refine r_callV (As := []) (rest := []) (csC := [(m, .inr (12, [.int 1, .ref mp, .int 4, .ref mf, .ref mh, .ref mn, .ref mt, .ref mz, .ref mc_, .ref mq, .ref mgr, .int 80, .int 35, .int 30, .int 50, .int 0, .int 0, .ref ml, .ref mi, .ref mr, .int 0, .int 0, .int 0, .int (-1), .int 0, .ref mm, .ref mu, .ref mk, .ref mx, .long 0, .long 0]))]) (is := [52]) (q0 := 52) rfl rfl ln_Lw_175 w_im_Mm_thrown w_se_Mm_thrown ok_Lw_law_Mm_thrown d_Lw_law_1804 (C_Mm_thrown g m mp mf mh mn mt mz mc_ mq mgr ml mi mr mm mu mk mx 1 4 80 35 30 50 0 0 0 0 0 (-1) 0 0 0) rfl rfl (Nat.le_of_ble_eq_true rfl) rfl (by decide) (by omega) (by omega) (fun E cs1 hx => ?_) (fun v cs1 hx => ?_)
      · exact absurd hx.1 (by simp)
      · obtain ⟨e1, rfl⟩ := hx
        cases e1
        refine ⟨rfl, ?_⟩
        refine r_st (st2 := [.int 1]) rfl ?_
        refine r_iload d_Lw_law_1807 1 rfl ?_
        refine r_icmp_eq (tgt := 1814) d_Lw_law_1809 (by decide) (fun c_1809 => ?_) (fun c_1809 => ?_)
        · refine r_iload d_Lw_law_1814 1 rfl ?_
          refine r_if_ne (tgt := 1831) d_Lw_law_1816 (by decide) (fun c_1816 => ?_) (fun c_1816 => ?_)
          · refine r_goto (tgt := 3019) d_Lw_law_1831 (by decide) ?_
            refine r_lv (lv' := [(5, .int 0), (0, .ref (g.2.2 40))]) [2, 7] rfl ?_
            exact LW_tail g _ hL _ _ w0 n
          · exact absurd c_1816 (by decide)
        · exact absurd c_1809 (by decide)
