theorem y_pop2 {g : zG} {M : zM} {Ψ : zO → zW → Prop} {w0 : zW} {n pc : Nat} {lv : List (Nat × Value)} {st : List Value} {cs : zC} {kc ks : Nat} {v : Value} (hd : decode M.2.1 pc = .ok (.pop2, 1)) (hv : v.category = 2) (k : DU g M Ψ w0 n (pc + 1) lv st cs kc ks) : DU g M Ψ w0 n pc lv (v :: st) cs kc ks := fun w p l e R s m args below meth c A mc ms H locs cells slots ls ws I C T => lv_pop2_2 C.1.1 C.1.2.1 hd hv (k w p l e R s m args below meth c A mc ms H locs cells slots ls ws I C T)
def zs (g : zG) (k : Nat) : Int32 := Int32.ofNat (g.2.2 (100 + k))
def zc (g : zG) (k : Nat) : Int32 := ((zs g k).toUInt32 % 65536).toInt32
def lwQ : zO → zW → Prop := fun o _ => o = .inl (some (.int 1))
def REL (t : zTT) : Prop := t.2.1 = t.1 ∧ t.2.2.2.1 = t.2.2.1 ∧ RCR t.2.2.2.2
theorem REL.lc {t : zTT} (x1 x2 x3 x4 x5 x6 : Int32) (h : REL t) : REL (lcM x1 x2 x3 x4 x5 x6 (lcC x1 x2 x3 x4 x5 x6 t)) := by
  unfold lcM lcC
  by_cases hw : (0 ≤ x1 ∧ x1 ≤ 450) ∧ (x1 ≤ x2 ∧ x2 ≤ 450) ∧ (0 ≤ x3 ∧ x3 ≤ 450) ∧ (1 ≤ x4 ∧ x4 ≤ 1000) ∧ (1 ≤ x5 ∧ x5 ≤ 1000) ∧ (1 ≤ x6 ∧ x6 ≤ 1000)
  · have hp : ∀ P A, P + A ≤ 100 → 0 ≤ prS x4 x5 x6 P A := fun P A q => prS_nn hw.2.2.2.1 hw.2.2.2.2.1 hw.2.2.2.2.2 q
    have hj := rcO_J (le := x1) (mo := x2) (si := x3) hp (s := (-1, t.2.2.2.2 0, t.2.2.2.2 1, t.2.2.2.2 2)) (t := (-1, -1, 0, 0)) rfl 11 (Nat.le_refl _)
    by_cases hs : (rcO x1 x2 x3 x4 x5 x6 (-1, -1, 0, 0) 11).1 < 0
    · rw [if_neg (show ¬ (((0 ≤ x1 ∧ x1 ≤ 450) ∧ (x1 ≤ x2 ∧ x2 ≤ 450) ∧ (0 ≤ x3 ∧ x3 ≤ 450) ∧ (1 ≤ x4 ∧ x4 ≤ 1000) ∧ (1 ≤ x5 ∧ x5 ≤ 1000) ∧ (1 ≤ x6 ∧ x6 ≤ 1000)) ∧ ¬ (rcO x1 x2 x3 x4 x5 x6 (-1, -1, 0, 0) 11).1 < 0) from fun q => q.2 hs), if_pos hw]
      exact ⟨h.1, h.2.1, h.2.2.neg hj hs⟩
    · rw [if_pos ⟨hw, hs⟩, if_pos hw]
      exact ⟨h.1, h.2.1, RCR.pos hj hs⟩
  · rw [if_neg (show ¬ (((0 ≤ x1 ∧ x1 ≤ 450) ∧ (x1 ≤ x2 ∧ x2 ≤ 450) ∧ (0 ≤ x3 ∧ x3 ≤ 450) ∧ (1 ≤ x4 ∧ x4 ≤ 1000) ∧ (1 ≤ x5 ∧ x5 ≤ 1000) ∧ (1 ≤ x6 ∧ x6 ≤ 1000)) ∧ ¬ (rcO x1 x2 x3 x4 x5 x6 (-1, -1, 0, 0) 11).1 < 0) from fun q => hw q.1), if_neg hw]
    exact h
theorem z_shL {L : Nat} (h : L < 7) : nI L - 7 < (0 : Int32) := by
  have h9 : L = 0 ∨ L = 1 ∨ L = 2 ∨ L = 3 ∨ L = 4 ∨ L = 5 ∨ L = 6 := by omega
  rcases h9 with rfl | rfl | rfl | rfl | rfl | rfl | rfl <;> decide
theorem z_shl {L k : Nat} (h : ¬ k + 7 ≤ L) (hL : L < 2 ^ 31) (hk : k < 2 ^ 31) : nI L - 7 < nI k := by
  by_cases h7 : L < 7
  · exact Int32.lt_of_lt_of_le (z_shL h7) (Int32.not_lt.mp (nI_nneg hk))
  · rw [show nI L - 7 = nI (L - 7) from pk_sub (a := L) (b := 7) (by omega)]
    exact (nI_ltI (by omega) hk).mpr (by omega)
theorem Q_Mm_meanBar {g : zG} {ad : Nat → Nat} {t : zTT} {u : zNN} {w : zW} (hI : IV g ad t u w) : zMB g M_Mm_meanBar [.ref (ad 52)] w (fun o w1 => (∃ v : UInt64, o = .inl (some (.double v))) ∧ IV g ad t u w1) 0 0 := by
  by_cases h0 : u.1 5 = 0
  · exact Q_Mm_meanBarE hI h0
  · exact Q_Mm_meanBarN hI h0
abbrev M_Lw_law : zM := (⟨"IronpourLaw", "law", "([I)Z"⟩, code, 9, (Option.some FieldType.boolean), 11, 274, [])
theorem d_Lw_law_1808 : decode code 1808 = .ok (.iinc 5 7, 3) := by decide +kernel
theorem d_Lw_law_1811 : decode code 1811 = .ok (.goto (-1783), 3) := by decide +kernel
def LWI (g : zG) (ad : Nat → Nat) (j r : Nat) : Prop := ∀ (t : zTT) (u : zNN) (w : zW), IV g ad t u w → REL t → DW g M_Lw_law lwQ w 28 [(5, .int (nI (7 * (j + 1)))), (4, .ref (ad 70)), (3, .ref (ad 69)), (2, .ref (ad 52)), (1, .ref (ad 0)), (0, .ref (g.2.2 40))] [] (100 * r) (1000 * r)
set_option maxHeartbeats 4000000 in
set_option maxRecDepth 100000 in
theorem LC_next {g : zG} {ad : Nat → Nat} {t : zTT} {u : zNN} {w : zW} (hI : IV g ad t u w) (hR : REL t) {j r : Nat} (hJ : 7 * j + 7 ≤ g.2.2 41) (hL : g.2.2 41 < 2 ^ 31) (ih : LWI g ad j r) {kc ks : Nat} (h1 : 100 * r ≤ kc) (h2 : 1000 * r ≤ ks) : DW g M_Lw_law lwQ w 1808 [(5, .int (nI (7 * j))), (4, .ref (ad 70)), (3, .ref (ad 69)), (2, .ref (ad 52)), (1, .ref (ad 0)), (0, .ref (g.2.2 40))] [] kc ks := by
  refine y_base (cs := []) (z_I.nil w) ?_
  refine y_iinc (lv' := [(5, .int (nI ((7 * j) + 7))), (4, .ref (ad 70)), (3, .ref (ad 69)), (2, .ref (ad 52)), (1, .ref (ad 0)), (0, .ref (g.2.2 40))]) (v := nI ((7 * j) + 7)) d_Lw_law_1808 (j := 0) rfl (nI_add _ _) (by decide) rfl ?_
  refine y_goto (tgt := 28) d_Lw_law_1811 (by decide) ?_
  refine y_lv (lv' := [(5, .int (nI ((7 * j) + 7))), (4, .ref (ad 70)), (3, .ref (ad 69)), (2, .ref (ad 52)), (1, .ref (ad 0)), (0, .ref (g.2.2 40))]) [0, 1, 2, 3, 4, 5] rfl ?_
  refine y_end (fun wC hC => ?_)
  exact yw_bud h1 h2 (ih _ _ _ (IV.nil hC hI) hR)
theorem d_Lw_law_1363 : decode code 1363 = .ok (.aload_n 1, 1) := by decide +kernel
theorem d_Lw_law_1364 : decode code 1364 = .ok (.aload_n 0, 1) := by decide +kernel
theorem d_Lw_law_1365 : decode code 1365 = .ok (.iload 5, 2) := by decide +kernel
theorem d_Lw_law_1367 : decode code 1367 = .ok (.iconst 1, 1) := by decide +kernel
theorem d_Lw_law_1368 : decode code 1368 = .ok (.iadd, 1) := by decide +kernel
theorem d_Lw_law_1369 : decode code 1369 = .ok (.iaload, 1) := by decide +kernel
theorem d_Lw_law_1370 : decode code 1370 = .ok (.i2c, 1) := by decide +kernel
theorem d_Lw_law_1371 : decode code 1371 = .ok (.aload_n 3, 1) := by decide +kernel
theorem d_Lw_law_1372 : decode code 1372 = .ok (.invokestatic 282, 3) := by decide +kernel
theorem ok_Lw_law_Lw_cheapest : z_okX M_Lw_law M_Lw_cheapest 3 := ⟨z_mem (i := 1217) (by decide +kernel) (by decide +kernel), by decide, ⟨by decide +kernel, by decide +kernel, by decide +kernel⟩, ⟨by decide, by decide⟩, z_mem (i := 57) (by decide +kernel) (by decide +kernel), rfl⟩
theorem ln_Lw_282 : Cond.methodLink "IronpourLaw" 282 M_Lw_cheapest.1 ∈ z_gw := z_mem (i := 1215) (by decide +kernel) (by decide +kernel)
theorem w_st_Lw_cheapest : Cond.static M_Lw_cheapest.1 ∈ z_gw := z_mem (i := 1216) (by decide +kernel) (by decide +kernel)
theorem d_Lw_law_1375 : decode code 1375 = .ok (.istore 6, 2) := by decide +kernel
theorem d_Lw_law_1377 : decode code 1377 = .ok (.aload_n 2, 1) := by decide +kernel
theorem d_Lw_law_1378 : decode code 1378 = .ok (.aload_n 0, 1) := by decide +kernel
theorem d_Lw_law_1379 : decode code 1379 = .ok (.iload 5, 2) := by decide +kernel
theorem d_Lw_law_1381 : decode code 1381 = .ok (.iconst 1, 1) := by decide +kernel
theorem d_Lw_law_1382 : decode code 1382 = .ok (.iadd, 1) := by decide +kernel
theorem d_Lw_law_1383 : decode code 1383 = .ok (.iaload, 1) := by decide +kernel
theorem d_Lw_law_1384 : decode code 1384 = .ok (.i2c, 1) := by decide +kernel
theorem d_Lw_law_1385 : decode code 1385 = .ok (.invokevirtual 284, 3) := by decide +kernel
theorem ok_Lw_law_Mm_cheapest : z_ok M_Lw_law M_Mm_cheapest 1 := ⟨z_mem (i := 1955) (by decide +kernel) (by decide +kernel), rfl, ⟨by decide +kernel, by decide +kernel, by decide +kernel⟩, ⟨by decide, by decide⟩, z_mem (i := 71) (by decide +kernel) (by decide +kernel), rfl⟩
theorem ln_Lw_284 : Cond.methodLink "IronpourLaw" 284 M_Mm_cheapest.1 ∈ z_gw := z_mem (i := 1952) (by decide +kernel) (by decide +kernel)
theorem w_im_Mm_cheapest : Cond.instanceMethod M_Mm_cheapest.1 ∈ z_gw := z_mem (i := 1953) (by decide +kernel) (by decide +kernel)
theorem w_se_Mm_cheapest : Cond.selects M_Mm_cheapest.1.cls M_Mm_cheapest.1 M_Mm_cheapest.1 ∈ z_gw := z_mem (i := 1954) (by decide +kernel) (by decide +kernel)
theorem d_Lw_law_1388 : decode code 1388 = .ok (.istore 7, 2) := by decide +kernel
theorem d_Lw_law_1390 : decode code 1390 = .ok (.aload_n 2, 1) := by decide +kernel
theorem d_Lw_law_1391 : decode code 1391 = .ok (.invokevirtual 285, 3) := by decide +kernel
theorem ok_Lw_law_Mm_thrown : z_ok M_Lw_law M_Mm_thrown 0 := ⟨z_mem (i := 1677) (by decide +kernel) (by decide +kernel), rfl, ⟨by decide +kernel, by decide +kernel, by decide +kernel⟩, ⟨by decide, by decide⟩, z_mem (i := 71) (by decide +kernel) (by decide +kernel), rfl⟩
theorem ln_Lw_285 : Cond.methodLink "IronpourLaw" 285 M_Mm_thrown.1 ∈ z_gw := z_mem (i := 1674) (by decide +kernel) (by decide +kernel)
theorem w_im_Mm_thrown : Cond.instanceMethod M_Mm_thrown.1 ∈ z_gw := z_mem (i := 1675) (by decide +kernel) (by decide +kernel)
theorem w_se_Mm_thrown : Cond.selects M_Mm_thrown.1.cls M_Mm_thrown.1 M_Mm_thrown.1 ∈ z_gw := z_mem (i := 1676) (by decide +kernel) (by decide +kernel)
theorem d_Lw_law_1394 : decode code 1394 = .ok (.iload 6, 2) := by decide +kernel
theorem d_Lw_law_1396 : decode code 1396 = .ok (.if_icmp .eq 5, 3) := by decide +kernel
theorem d_Lw_law_1401 : decode code 1401 = .ok (.iload 6, 2) := by decide +kernel
theorem d_Lw_law_1403 : decode code 1403 = .ok (.ifCond .ne 15, 3) := by decide +kernel
theorem d_Lw_law_1418 : decode code 1418 = .ok (.goto 390, 3) := by decide +kernel
set_option maxHeartbeats 4000000 in
set_option maxRecDepth 100000 in
theorem LC_cheapestE {g : zG} {ad : Nat → Nat} {t : zTT} {u : zNN} {w : zW} (hI : IV g ad t u w) (hR : REL t) {j r : Nat} (hJ : 7 * j + 7 ≤ g.2.2 41) (hL : g.2.2 41 < 2 ^ 31) (ih : LWI g ad j r) (hw : z_ix 4 (zc g (7 * j + 1)) < 0) : DW g M_Lw_law lwQ w 1363 [(5, .int (nI (7 * j))), (4, .ref (ad 70)), (3, .ref (ad 69)), (2, .ref (ad 52)), (1, .ref (ad 0)), (0, .ref (g.2.2 40))] [] (100 * (r + 1)) (1000 * (r + 1)) := by
  refine y_base (cs := []) (z_I.nil w) ?_
  refine y_aload_n d_Lw_law_1363 rfl 4 rfl ?_
  refine y_aload_n d_Lw_law_1364 rfl 5 rfl ?_
  refine y_iload d_Lw_law_1365 0 rfl ?_
  refine y_iconst d_Lw_law_1367 (v := 1) (by decide) ?_
  refine y_iadd d_Lw_law_1368 (v := nI ((7 * j) + 1)) (nI_add _ _) ?_
  refine y_sld (v := zs g (7 * j + 1)) d_Lw_law_1369 (vp_in_nI (by omega) (by omega)) (by rw [nI_clamp (by omega)]; rfl) ?_
  refine y_i2c d_Lw_law_1370 (v := zc g (7 * j + 1)) rfl ?_
  refine y_aload_n d_Lw_law_1371 rfl 2 rfl ?_
  refine yw_callSX (As := [.ref (ad 0), .int (zc g (7 * j + 1)), .ref (ad 69)]) (rest := []) ln_Lw_282 w_st_Lw_cheapest ok_Lw_law_Lw_cheapest d_Lw_law_1372 (fun wA hA => WX_cheapestE (IV.nil hA hI) _ hw) rfl rfl (Nat.le_of_ble_eq_true rfl) (by omega) (by omega) (fun wA1372 hA1372 E wB1372 hx => ?_) (fun wA1372 hA1372 v wB1372 hx => ?_)
  · obtain ⟨e0, -⟩ := hx
    cases e0
  · obtain ⟨e0, hI2⟩ := hx
    cases e0
    refine yw_st (st2 := [.int 1]) rfl ?_
    have hI := hI2
    obtain ⟨e_m, wf_m, k_m⟩ := hI.1.2 52 (by decide)
    obtain ⟨v_m_th, v_m_cl, v_m_wa, v_m_co_, v_m_fi, v_m_bu, v_m_ho, v_m_lh, v_m_mg, v_m_wd, v_m_po, v_m_de, rfl⟩ := kd_52.mp k_m
    refine y_base (cs := [((ad 52), .inr (12, [.int v_m_th, .ref (ad 53), .int (nI t.2.2.2.1), .ref (ad 54), .ref (ad 55), .ref (ad 56), .ref (ad 57), .ref (ad 58), .ref (ad 59), .ref (ad 60), .ref (ad 61), .int v_m_cl, .int v_m_wa, .int v_m_co_, .int v_m_fi, .int v_m_bu, .int v_m_ho, .ref (ad 62), .ref (ad 63), .ref (ad 64), .int v_m_lh, .int v_m_mg, .int v_m_wd, .int (t.2.2.2.2 3), .int (t.2.2.2.2 4), .ref (ad 65), .ref (ad 66), .ref (ad 67), .ref (ad 68), .long v_m_po, .long v_m_de]))]) (hI.1.I [52] _ rfl (by decide) (by decide) (List.forall_mem_cons.mpr ⟨wf_m, (fun _ h => nomatch h)⟩)) ?_
    refine y_istore (lv' := [(6, .int 1), (5, .int (nI (7 * j))), (4, .ref (ad 70)), (3, .ref (ad 69)), (2, .ref (ad 52)), (1, .ref (ad 0)), (0, .ref (g.2.2 40))]) d_Lw_law_1375 (by decide) rfl ?_
    refine y_aload_n d_Lw_law_1377 rfl 4 rfl ?_
    refine y_aload_n d_Lw_law_1378 rfl 6 rfl ?_
    refine y_iload d_Lw_law_1379 1 rfl ?_
    refine y_iconst d_Lw_law_1381 (v := 1) (by decide) ?_
    refine y_iadd d_Lw_law_1382 (v := nI ((7 * j) + 1)) (nI_add _ _) ?_
    refine y_sld (v := zs g (7 * j + 1)) d_Lw_law_1383 (vp_in_nI (by omega) (by omega)) (by rw [nI_clamp (by omega)]; rfl) ?_
    refine y_i2c d_Lw_law_1384 (v := zc g (7 * j + 1)) rfl ?_
    refine y_callV (As := [.int (zc g (7 * j + 1))]) (rest := []) (csC := [((ad 52), .inr (12, [.int v_m_th, .ref (ad 53), .int (nI t.2.2.2.1), .ref (ad 54), .ref (ad 55), .ref (ad 56), .ref (ad 57), .ref (ad 58), .ref (ad 59), .ref (ad 60), .ref (ad 61), .int v_m_cl, .int v_m_wa, .int v_m_co_, .int v_m_fi, .int v_m_bu, .int v_m_ho, .ref (ad 62), .ref (ad 63), .ref (ad 64), .int v_m_lh, .int v_m_mg, .int v_m_wd, .int (t.2.2.2.2 3), .int (t.2.2.2.2 4), .ref (ad 65), .ref (ad 66), .ref (ad 67), .ref (ad 68), .long v_m_po, .long v_m_de]))]) (is := [0]) (q0 := 0) rfl rfl ln_Lw_284 w_im_Mm_cheapest w_se_Mm_cheapest ok_Lw_law_Mm_cheapest d_Lw_law_1385 (C_Mm_cheapestE g (ad 52) (ad 53) (ad 54) (ad 55) (ad 56) (ad 57) (ad 58) (ad 59) (ad 60) (ad 61) (ad 62) (ad 63) (ad 64) (ad 65) (ad 66) (ad 67) (ad 68) v_m_th (nI t.2.2.2.1) v_m_cl v_m_wa v_m_co_ v_m_fi v_m_bu v_m_ho v_m_lh v_m_mg v_m_wd (t.2.2.2.2 3) (t.2.2.2.2 4) v_m_po v_m_de (zc g (7 * j + 1)) hw) rfl rfl (Nat.le_of_ble_eq_true rfl) rfl (by decide) (by omega) (by omega) (fun E cs1 hx => ?_) (fun v cs1 hx => ?_)
    · exact absurd hx.1 (by simp)
    · obtain ⟨e1, rfl⟩ := hx
      cases e1
      refine ⟨rfl, ?_⟩
      refine y_st (st2 := [.int 0]) rfl ?_
      refine y_cs (cs2 := [((ad 52), .inr (12, [.int 1, .ref (ad 53), .int (nI t.2.2.2.1), .ref (ad 54), .ref (ad 55), .ref (ad 56), .ref (ad 57), .ref (ad 58), .ref (ad 59), .ref (ad 60), .ref (ad 61), .int v_m_cl, .int v_m_wa, .int v_m_co_, .int v_m_fi, .int v_m_bu, .int v_m_ho, .ref (ad 62), .ref (ad 63), .ref (ad 64), .int v_m_lh, .int v_m_mg, .int v_m_wd, .int (t.2.2.2.2 3), .int (t.2.2.2.2 4), .ref (ad 65), .ref (ad 66), .ref (ad 67), .ref (ad 68), .long v_m_po, .long v_m_de]))]) rfl ?_
      refine y_istore (lv' := [(7, .int 0), (6, .int 1), (5, .int (nI (7 * j))), (4, .ref (ad 70)), (3, .ref (ad 69)), (2, .ref (ad 52)), (1, .ref (ad 0)), (0, .ref (g.2.2 40))]) d_Lw_law_1388 (by decide) rfl ?_
      refine y_aload_n d_Lw_law_1390 rfl 5 rfl ?_
      refine y_callV (As := []) (rest := []) (csC := [((ad 52), .inr (12, [.int 1, .ref (ad 53), .int (nI t.2.2.2.1), .ref (ad 54), .ref (ad 55), .ref (ad 56), .ref (ad 57), .ref (ad 58), .ref (ad 59), .ref (ad 60), .ref (ad 61), .int v_m_cl, .int v_m_wa, .int v_m_co_, .int v_m_fi, .int v_m_bu, .int v_m_ho, .ref (ad 62), .ref (ad 63), .ref (ad 64), .int v_m_lh, .int v_m_mg, .int v_m_wd, .int (t.2.2.2.2 3), .int (t.2.2.2.2 4), .ref (ad 65), .ref (ad 66), .ref (ad 67), .ref (ad 68), .long v_m_po, .long v_m_de]))]) (is := [0]) (q0 := 0) rfl rfl ln_Lw_285 w_im_Mm_thrown w_se_Mm_thrown ok_Lw_law_Mm_thrown d_Lw_law_1391 (C_Mm_thrown g (ad 52) (ad 53) (ad 54) (ad 55) (ad 56) (ad 57) (ad 58) (ad 59) (ad 60) (ad 61) (ad 62) (ad 63) (ad 64) (ad 65) (ad 66) (ad 67) (ad 68) 1 (nI t.2.2.2.1) v_m_cl v_m_wa v_m_co_ v_m_fi v_m_bu v_m_ho v_m_lh v_m_mg v_m_wd (t.2.2.2.2 3) (t.2.2.2.2 4) v_m_po v_m_de) rfl rfl (Nat.le_of_ble_eq_true rfl) rfl (by decide) (by omega) (by omega) (fun E cs1 hx => ?_) (fun v cs1 hx => ?_)
      · exact absurd hx.1 (by simp)
      · obtain ⟨e1, rfl⟩ := hx
        cases e1
        refine ⟨rfl, ?_⟩
        refine y_st (st2 := [.int 1]) rfl ?_
        refine y_cs (cs2 := [((ad 52), .inr (12, [.int 1, .ref (ad 53), .int (nI t.2.2.2.1), .ref (ad 54), .ref (ad 55), .ref (ad 56), .ref (ad 57), .ref (ad 58), .ref (ad 59), .ref (ad 60), .ref (ad 61), .int v_m_cl, .int v_m_wa, .int v_m_co_, .int v_m_fi, .int v_m_bu, .int v_m_ho, .ref (ad 62), .ref (ad 63), .ref (ad 64), .int v_m_lh, .int v_m_mg, .int v_m_wd, .int (t.2.2.2.2 3), .int (t.2.2.2.2 4), .ref (ad 65), .ref (ad 66), .ref (ad 67), .ref (ad 68), .long v_m_po, .long v_m_de]))]) rfl ?_
        refine y_iload d_Lw_law_1394 1 rfl ?_
        refine y_icmp_eq (tgt := 1401) d_Lw_law_1396 (by decide) (fun c_1396 => ?_) (fun c_1396 => ?_)
        · refine y_iload d_Lw_law_1401 1 rfl ?_
          refine y_if_ne (tgt := 1418) d_Lw_law_1403 (by decide) (fun c_1403 => ?_) (fun c_1403 => ?_)
          · refine y_goto (tgt := 1808) d_Lw_law_1418 (by decide) ?_
            refine y_lv (lv' := [(5, .int (nI (7 * j))), (4, .ref (ad 70)), (3, .ref (ad 69)), (2, .ref (ad 52)), (1, .ref (ad 0)), (0, .ref (g.2.2 40))]) [2, 3, 4, 5, 6, 7] rfl ?_
            refine y_end (fun wC hC => ?_)
            exact LC_next ((hI.gen (t2 := t) (is := [52]) (L2 := []) hC rfl ⟨kd_52.mpr ⟨_, _, _, _, _, _, _, _, _, _, _, _, rfl⟩, trivial⟩ (by decide) (by decide) (fun _ h => nomatch h) (fun _ h => nomatch h) (fun _ _ _ _ h => h) (fun h => h))) hR hJ hL ih (by omega) (by omega)
          · exact absurd c_1403 (by decide)
        · exact absurd c_1396 (by decide)
set_option maxHeartbeats 4000000 in
set_option maxRecDepth 100000 in
theorem LC_cheapestF {g : zG} {ad : Nat → Nat} {t : zTT} {u : zNN} {w : zW} (hI : IV g ad t u w) (hR : REL t) {j r : Nat} (hJ : 7 * j + 7 ≤ g.2.2 41) (hL : g.2.2 41 < 2 ^ 31) (ih : LWI g ad j r) (hw : ¬ z_ix 4 (zc g (7 * j + 1)) < 0) (hf : t.2.2.2.2 2 = 0) (hm : t.2.2.2.2 3 = -1) : DW g M_Lw_law lwQ w 1363 [(5, .int (nI (7 * j))), (4, .ref (ad 70)), (3, .ref (ad 69)), (2, .ref (ad 52)), (1, .ref (ad 0)), (0, .ref (g.2.2 40))] [] (100 * (r + 1)) (1000 * (r + 1)) := by
  refine y_base (cs := []) (z_I.nil w) ?_
  refine y_aload_n d_Lw_law_1363 rfl 4 rfl ?_
  refine y_aload_n d_Lw_law_1364 rfl 5 rfl ?_
  refine y_iload d_Lw_law_1365 0 rfl ?_
  refine y_iconst d_Lw_law_1367 (v := 1) (by decide) ?_
  refine y_iadd d_Lw_law_1368 (v := nI ((7 * j) + 1)) (nI_add _ _) ?_
  refine y_sld (v := zs g (7 * j + 1)) d_Lw_law_1369 (vp_in_nI (by omega) (by omega)) (by rw [nI_clamp (by omega)]; rfl) ?_
  refine y_i2c d_Lw_law_1370 (v := zc g (7 * j + 1)) rfl ?_
  refine y_aload_n d_Lw_law_1371 rfl 2 rfl ?_
  refine yw_callSX (As := [.ref (ad 0), .int (zc g (7 * j + 1)), .ref (ad 69)]) (rest := []) ln_Lw_282 w_st_Lw_cheapest ok_Lw_law_Lw_cheapest d_Lw_law_1372 (fun wA hA => WX_cheapestF (IV.nil hA hI) _ hw hf) rfl rfl (Nat.le_of_ble_eq_true rfl) (by omega) (by omega) (fun wA1372 hA1372 E wB1372 hx => ?_) (fun wA1372 hA1372 v wB1372 hx => ?_)
  · obtain ⟨e0, -⟩ := hx
    cases e0
  · obtain ⟨e0, hI2⟩ := hx
    cases e0
    refine yw_st (st2 := [.int 2]) rfl ?_
    have hI := hI2
    obtain ⟨e_m, wf_m, k_m⟩ := hI.1.2 52 (by decide)
    obtain ⟨v_m_th, v_m_cl, v_m_wa, v_m_co_, v_m_fi, v_m_bu, v_m_ho, v_m_lh, v_m_mg, v_m_wd, v_m_po, v_m_de, rfl⟩ := kd_52.mp k_m
    refine y_base (cs := [((ad 52), .inr (12, [.int v_m_th, .ref (ad 53), .int (nI t.2.2.2.1), .ref (ad 54), .ref (ad 55), .ref (ad 56), .ref (ad 57), .ref (ad 58), .ref (ad 59), .ref (ad 60), .ref (ad 61), .int v_m_cl, .int v_m_wa, .int v_m_co_, .int v_m_fi, .int v_m_bu, .int v_m_ho, .ref (ad 62), .ref (ad 63), .ref (ad 64), .int v_m_lh, .int v_m_mg, .int v_m_wd, .int (t.2.2.2.2 3), .int (t.2.2.2.2 4), .ref (ad 65), .ref (ad 66), .ref (ad 67), .ref (ad 68), .long v_m_po, .long v_m_de]))]) (hI.1.I [52] _ rfl (by decide) (by decide) (List.forall_mem_cons.mpr ⟨wf_m, (fun _ h => nomatch h)⟩)) ?_
    refine y_istore (lv' := [(6, .int 2), (5, .int (nI (7 * j))), (4, .ref (ad 70)), (3, .ref (ad 69)), (2, .ref (ad 52)), (1, .ref (ad 0)), (0, .ref (g.2.2 40))]) d_Lw_law_1375 (by decide) rfl ?_
    refine y_aload_n d_Lw_law_1377 rfl 4 rfl ?_
    refine y_aload_n d_Lw_law_1378 rfl 6 rfl ?_
    refine y_iload d_Lw_law_1379 1 rfl ?_
    refine y_iconst d_Lw_law_1381 (v := 1) (by decide) ?_
    refine y_iadd d_Lw_law_1382 (v := nI ((7 * j) + 1)) (nI_add _ _) ?_
    refine y_sld (v := zs g (7 * j + 1)) d_Lw_law_1383 (vp_in_nI (by omega) (by omega)) (by rw [nI_clamp (by omega)]; rfl) ?_
    refine y_i2c d_Lw_law_1384 (v := zc g (7 * j + 1)) rfl ?_
    refine y_callV (As := [.int (zc g (7 * j + 1))]) (rest := []) (csC := [((ad 52), .inr (12, [.int v_m_th, .ref (ad 53), .int (nI t.2.2.2.1), .ref (ad 54), .ref (ad 55), .ref (ad 56), .ref (ad 57), .ref (ad 58), .ref (ad 59), .ref (ad 60), .ref (ad 61), .int v_m_cl, .int v_m_wa, .int v_m_co_, .int v_m_fi, .int v_m_bu, .int v_m_ho, .ref (ad 62), .ref (ad 63), .ref (ad 64), .int v_m_lh, .int v_m_mg, .int v_m_wd, .int (t.2.2.2.2 3), .int (t.2.2.2.2 4), .ref (ad 65), .ref (ad 66), .ref (ad 67), .ref (ad 68), .long v_m_po, .long v_m_de]))]) (is := [0]) (q0 := 0) rfl rfl ln_Lw_284 w_im_Mm_cheapest w_se_Mm_cheapest ok_Lw_law_Mm_cheapest d_Lw_law_1385 (C_Mm_cheapestF g (ad 52) (ad 53) (ad 54) (ad 55) (ad 56) (ad 57) (ad 58) (ad 59) (ad 60) (ad 61) (ad 62) (ad 63) (ad 64) (ad 65) (ad 66) (ad 67) (ad 68) v_m_th (nI t.2.2.2.1) v_m_cl v_m_wa v_m_co_ v_m_fi v_m_bu v_m_ho v_m_lh v_m_mg v_m_wd (t.2.2.2.2 3) (t.2.2.2.2 4) v_m_po v_m_de (zc g (7 * j + 1)) hw hm) rfl rfl (Nat.le_of_ble_eq_true rfl) rfl (by decide) (by omega) (by omega) (fun E cs1 hx => ?_) (fun v cs1 hx => ?_)
    · exact absurd hx.1 (by simp)
    · obtain ⟨e1, rfl⟩ := hx
      cases e1
      refine ⟨rfl, ?_⟩
      refine y_st (st2 := [.int 0]) rfl ?_
      refine y_cs (cs2 := [((ad 52), .inr (12, [.int 2, .ref (ad 53), .int (nI t.2.2.2.1), .ref (ad 54), .ref (ad 55), .ref (ad 56), .ref (ad 57), .ref (ad 58), .ref (ad 59), .ref (ad 60), .ref (ad 61), .int v_m_cl, .int v_m_wa, .int v_m_co_, .int v_m_fi, .int v_m_bu, .int v_m_ho, .ref (ad 62), .ref (ad 63), .ref (ad 64), .int v_m_lh, .int v_m_mg, .int v_m_wd, .int (t.2.2.2.2 3), .int (t.2.2.2.2 4), .ref (ad 65), .ref (ad 66), .ref (ad 67), .ref (ad 68), .long v_m_po, .long v_m_de]))]) rfl ?_
      refine y_istore (lv' := [(7, .int 0), (6, .int 2), (5, .int (nI (7 * j))), (4, .ref (ad 70)), (3, .ref (ad 69)), (2, .ref (ad 52)), (1, .ref (ad 0)), (0, .ref (g.2.2 40))]) d_Lw_law_1388 (by decide) rfl ?_
      refine y_aload_n d_Lw_law_1390 rfl 5 rfl ?_
      refine y_callV (As := []) (rest := []) (csC := [((ad 52), .inr (12, [.int 2, .ref (ad 53), .int (nI t.2.2.2.1), .ref (ad 54), .ref (ad 55), .ref (ad 56), .ref (ad 57), .ref (ad 58), .ref (ad 59), .ref (ad 60), .ref (ad 61), .int v_m_cl, .int v_m_wa, .int v_m_co_, .int v_m_fi, .int v_m_bu, .int v_m_ho, .ref (ad 62), .ref (ad 63), .ref (ad 64), .int v_m_lh, .int v_m_mg, .int v_m_wd, .int (t.2.2.2.2 3), .int (t.2.2.2.2 4), .ref (ad 65), .ref (ad 66), .ref (ad 67), .ref (ad 68), .long v_m_po, .long v_m_de]))]) (is := [0]) (q0 := 0) rfl rfl ln_Lw_285 w_im_Mm_thrown w_se_Mm_thrown ok_Lw_law_Mm_thrown d_Lw_law_1391 (C_Mm_thrown g (ad 52) (ad 53) (ad 54) (ad 55) (ad 56) (ad 57) (ad 58) (ad 59) (ad 60) (ad 61) (ad 62) (ad 63) (ad 64) (ad 65) (ad 66) (ad 67) (ad 68) 2 (nI t.2.2.2.1) v_m_cl v_m_wa v_m_co_ v_m_fi v_m_bu v_m_ho v_m_lh v_m_mg v_m_wd (t.2.2.2.2 3) (t.2.2.2.2 4) v_m_po v_m_de) rfl rfl (Nat.le_of_ble_eq_true rfl) rfl (by decide) (by omega) (by omega) (fun E cs1 hx => ?_) (fun v cs1 hx => ?_)
      · exact absurd hx.1 (by simp)
      · obtain ⟨e1, rfl⟩ := hx
        cases e1
        refine ⟨rfl, ?_⟩
        refine y_st (st2 := [.int 2]) rfl ?_
        refine y_cs (cs2 := [((ad 52), .inr (12, [.int 2, .ref (ad 53), .int (nI t.2.2.2.1), .ref (ad 54), .ref (ad 55), .ref (ad 56), .ref (ad 57), .ref (ad 58), .ref (ad 59), .ref (ad 60), .ref (ad 61), .int v_m_cl, .int v_m_wa, .int v_m_co_, .int v_m_fi, .int v_m_bu, .int v_m_ho, .ref (ad 62), .ref (ad 63), .ref (ad 64), .int v_m_lh, .int v_m_mg, .int v_m_wd, .int (t.2.2.2.2 3), .int (t.2.2.2.2 4), .ref (ad 65), .ref (ad 66), .ref (ad 67), .ref (ad 68), .long v_m_po, .long v_m_de]))]) rfl ?_
        refine y_iload d_Lw_law_1394 1 rfl ?_
        refine y_icmp_eq (tgt := 1401) d_Lw_law_1396 (by decide) (fun c_1396 => ?_) (fun c_1396 => ?_)
        · refine y_iload d_Lw_law_1401 1 rfl ?_
          refine y_if_ne (tgt := 1418) d_Lw_law_1403 (by decide) (fun c_1403 => ?_) (fun c_1403 => ?_)
          · refine y_goto (tgt := 1808) d_Lw_law_1418 (by decide) ?_
            refine y_lv (lv' := [(5, .int (nI (7 * j))), (4, .ref (ad 70)), (3, .ref (ad 69)), (2, .ref (ad 52)), (1, .ref (ad 0)), (0, .ref (g.2.2 40))]) [2, 3, 4, 5, 6, 7] rfl ?_
            refine y_end (fun wC hC => ?_)
            exact LC_next ((hI.gen (t2 := t) (is := [52]) (L2 := []) hC rfl ⟨kd_52.mpr ⟨_, _, _, _, _, _, _, _, _, _, _, _, rfl⟩, trivial⟩ (by decide) (by decide) (fun _ h => nomatch h) (fun _ h => nomatch h) (fun _ _ _ _ h => h) (fun h => h))) hR hJ hL ih (by omega) (by omega)
          · exact absurd c_1403 (by decide)
        · exact absurd c_1396 (by decide)
theorem d_Lw_law_1748 : decode code 1748 = .ok (.aload_n 1, 1) := by decide +kernel
theorem d_Lw_law_1749 : decode code 1749 = .ok (.invokevirtual 329, 3) := by decide +kernel
theorem ok_Lw_law_Ip_delivered : z_ok M_Lw_law M_Ip_delivered 0 := ⟨z_mem (i := 473) (by decide +kernel) (by decide +kernel), rfl, ⟨by decide +kernel, by decide +kernel, by decide +kernel⟩, ⟨by decide, by decide⟩, z_mem (i := 58) (by decide +kernel) (by decide +kernel), rfl⟩
theorem ln_Lw_329 : Cond.methodLink "IronpourLaw" 329 M_Ip_delivered.1 ∈ z_gw := z_mem (i := 470) (by decide +kernel) (by decide +kernel)
theorem d_Lw_law_1752 : decode code 1752 = .ok (.pop2, 1) := by decide +kernel
theorem d_Lw_law_1753 : decode code 1753 = .ok (.aload_n 2, 1) := by decide +kernel
theorem d_Lw_law_1754 : decode code 1754 = .ok (.invokevirtual 333, 3) := by decide +kernel
theorem ok_Lw_law_Mm_delivered : z_ok M_Lw_law M_Mm_delivered 0 := ⟨z_mem (i := 2044) (by decide +kernel) (by decide +kernel), rfl, ⟨by decide +kernel, by decide +kernel, by decide +kernel⟩, ⟨by decide, by decide⟩, z_mem (i := 71) (by decide +kernel) (by decide +kernel), rfl⟩
theorem ln_Lw_333 : Cond.methodLink "IronpourLaw" 333 M_Mm_delivered.1 ∈ z_gw := z_mem (i := 2041) (by decide +kernel) (by decide +kernel)
theorem w_im_Mm_delivered : Cond.instanceMethod M_Mm_delivered.1 ∈ z_gw := z_mem (i := 2042) (by decide +kernel) (by decide +kernel)
theorem w_se_Mm_delivered : Cond.selects M_Mm_delivered.1.cls M_Mm_delivered.1 M_Mm_delivered.1 ∈ z_gw := z_mem (i := 2043) (by decide +kernel) (by decide +kernel)
theorem d_Lw_law_1757 : decode code 1757 = .ok (.pop2, 1) := by decide +kernel
theorem d_Lw_law_1758 : decode code 1758 = .ok (.goto 50, 3) := by decide +kernel
set_option maxHeartbeats 4000000 in
set_option maxRecDepth 100000 in
theorem LC_delivered {g : zG} {ad : Nat → Nat} {t : zTT} {u : zNN} {w : zW} (hI : IV g ad t u w) (hR : REL t) {j r : Nat} (hJ : 7 * j + 7 ≤ g.2.2 41) (hL : g.2.2 41 < 2 ^ 31) (ih : LWI g ad j r) : DW g M_Lw_law lwQ w 1748 [(5, .int (nI (7 * j))), (4, .ref (ad 70)), (3, .ref (ad 69)), (2, .ref (ad 52)), (1, .ref (ad 0)), (0, .ref (g.2.2 40))] [] (100 * (r + 1)) (1000 * (r + 1)) := by
  refine y_base (cs := []) (z_I.nil w) ?_
  refine y_aload_n d_Lw_law_1748 rfl 4 rfl ?_
  refine yw_callVL (As := []) (rest := []) (ci := 11) rfl (fun wA hA => (IV.nil hA hI).ra) ln_Lw_329 w_im_Ip_delivered w_se_Ip_delivered ok_Lw_law_Ip_delivered d_Lw_law_1749 (fun wA hA => Q_delivered (IV.nil hA hI)) rfl rfl (Nat.le_of_ble_eq_true rfl) (by omega) (by omega) (fun wA1749 hA1749 E wB1749 hx => ?_) (fun wA1749 hA1749 v wB1749 hx => ?_)
  · obtain ⟨⟨v9, e1⟩, -⟩ := hx
    cases e1
  · obtain ⟨⟨v9, e1⟩, e2⟩ := hx
    cases e1
    subst e2
    have hI2 := IV.nil hA1749 hI
    refine yw_st (st2 := [.long v9]) rfl ?_
    have hI := hI2
    refine y_base (cs := []) (z_I.nil _) ?_
    refine y_pop2 d_Lw_law_1752 rfl ?_
    refine y_aload_n d_Lw_law_1753 rfl 3 rfl ?_
    refine yw_callVL (As := []) (rest := []) (ci := 12) rfl (fun wA hA => (IV.nil hA hI).rm) ln_Lw_333 w_im_Mm_delivered w_se_Mm_delivered ok_Lw_law_Mm_delivered d_Lw_law_1754 (fun wA hA => Q_Mm_delivered (IV.nil hA hI)) rfl rfl (Nat.le_of_ble_eq_true rfl) (by omega) (by omega) (fun wA1754 hA1754 E wB1754 hx => ?_) (fun wA1754 hA1754 v wB1754 hx => ?_)
    · obtain ⟨⟨v9, e1⟩, -⟩ := hx
      cases e1
    · obtain ⟨⟨v8, e1⟩, hI2⟩ := hx
      cases e1
      refine yw_st (st2 := [.long v8]) rfl ?_
      have hI := hI2
      refine y_base (cs := []) (z_I.nil _) ?_
      refine y_pop2 d_Lw_law_1757 rfl ?_
      refine y_goto (tgt := 1808) d_Lw_law_1758 (by decide) ?_
      refine y_lv (lv' := [(5, .int (nI (7 * j))), (4, .ref (ad 70)), (3, .ref (ad 69)), (2, .ref (ad 52)), (1, .ref (ad 0)), (0, .ref (g.2.2 40))]) [0, 1, 2, 3, 4, 5] rfl ?_
      refine y_end (fun wC hC => ?_)
      exact LC_next (IV.nil hC hI) hR hJ hL ih (by omega) (by omega)
theorem d_Lw_law_1761 : decode code 1761 = .ok (.aload_n 1, 1) := by decide +kernel
theorem d_Lw_law_1762 : decode code 1762 = .ok (.aload 4, 2) := by decide +kernel
theorem d_Lw_law_1764 : decode code 1764 = .ok (.invokestatic 334, 3) := by decide +kernel
theorem ok_Lw_law_Lw_goodShare : z_okX M_Lw_law M_Lw_goodShare 2 := ⟨z_mem (i := 1541) (by decide +kernel) (by decide +kernel), by decide, ⟨by decide +kernel, by decide +kernel, by decide +kernel⟩, ⟨by decide, by decide⟩, z_mem (i := 57) (by decide +kernel) (by decide +kernel), rfl⟩
theorem ln_Lw_334 : Cond.methodLink "IronpourLaw" 334 M_Lw_goodShare.1 ∈ z_gw := z_mem (i := 1539) (by decide +kernel) (by decide +kernel)
theorem w_st_Lw_goodShare : Cond.static M_Lw_goodShare.1 ∈ z_gw := z_mem (i := 1540) (by decide +kernel) (by decide +kernel)
theorem d_Lw_law_1767 : decode code 1767 = .ok (.istore 6, 2) := by decide +kernel
theorem d_Lw_law_1769 : decode code 1769 = .ok (.aload_n 2, 1) := by decide +kernel
theorem d_Lw_law_1770 : decode code 1770 = .ok (.invokevirtual 337, 3) := by decide +kernel
theorem ok_Lw_law_Mm_goodShare : z_ok M_Lw_law M_Mm_goodShare 0 := ⟨z_mem (i := 2048) (by decide +kernel) (by decide +kernel), rfl, ⟨by decide +kernel, by decide +kernel, by decide +kernel⟩, ⟨by decide, by decide⟩, z_mem (i := 71) (by decide +kernel) (by decide +kernel), rfl⟩
theorem ln_Lw_337 : Cond.methodLink "IronpourLaw" 337 M_Mm_goodShare.1 ∈ z_gw := z_mem (i := 2045) (by decide +kernel) (by decide +kernel)
theorem w_im_Mm_goodShare : Cond.instanceMethod M_Mm_goodShare.1 ∈ z_gw := z_mem (i := 2046) (by decide +kernel) (by decide +kernel)
theorem w_se_Mm_goodShare : Cond.selects M_Mm_goodShare.1.cls M_Mm_goodShare.1 M_Mm_goodShare.1 ∈ z_gw := z_mem (i := 2047) (by decide +kernel) (by decide +kernel)
theorem d_Lw_law_1773 : decode code 1773 = .ok (.fstore 7, 2) := by decide +kernel
theorem d_Lw_law_1775 : decode code 1775 = .ok (.goto 33, 3) := by decide +kernel
set_option maxHeartbeats 4000000 in
set_option maxRecDepth 100000 in
theorem LC_goodShare {g : zG} {ad : Nat → Nat} {t : zTT} {u : zNN} {w : zW} (hI : IV g ad t u w) (hR : REL t) {j r : Nat} (hJ : 7 * j + 7 ≤ g.2.2 41) (hL : g.2.2 41 < 2 ^ 31) (ih : LWI g ad j r) : DW g M_Lw_law lwQ w 1761 [(5, .int (nI (7 * j))), (4, .ref (ad 70)), (3, .ref (ad 69)), (2, .ref (ad 52)), (1, .ref (ad 0)), (0, .ref (g.2.2 40))] [] (100 * (r + 1)) (1000 * (r + 1)) := by
  refine y_base (cs := []) (z_I.nil w) ?_
  refine y_aload_n d_Lw_law_1761 rfl 4 rfl ?_
  refine y_aload d_Lw_law_1762 1 rfl ?_
  refine yw_callSX (As := [.ref (ad 0), .ref (ad 70)]) (rest := []) ln_Lw_334 w_st_Lw_goodShare ok_Lw_law_Lw_goodShare d_Lw_law_1764 (fun wA hA => W_goodShare (IV.nil hA hI)) rfl rfl (Nat.le_of_ble_eq_true rfl) (by omega) (by omega) (fun wA1764 hA1764 E wB1764 hx => ?_) (fun wA1764 hA1764 v wB1764 hx => ?_)
  · obtain ⟨⟨v9, e1⟩, -⟩ := hx
    cases e1
  · obtain ⟨⟨v9, e1⟩, u2, hI2⟩ := hx
    cases e1
    refine yw_st (st2 := [.int v9]) rfl ?_
    have hI := hI2
    refine y_base (cs := []) (z_I.nil _) ?_
    refine y_istore (lv' := [(6, .int v9), (5, .int (nI (7 * j))), (4, .ref (ad 70)), (3, .ref (ad 69)), (2, .ref (ad 52)), (1, .ref (ad 0)), (0, .ref (g.2.2 40))]) d_Lw_law_1767 (by decide) rfl ?_
    refine y_aload_n d_Lw_law_1769 rfl 4 rfl ?_
    refine yw_callVL (As := []) (rest := []) (ci := 12) rfl (fun wA hA => (IV.nil hA hI).rm) ln_Lw_337 w_im_Mm_goodShare w_se_Mm_goodShare ok_Lw_law_Mm_goodShare d_Lw_law_1770 (fun wA hA => Q_Mm_goodShare (IV.nil hA hI)) rfl rfl (Nat.le_of_ble_eq_true rfl) (by omega) (by omega) (fun wA1770 hA1770 E wB1770 hx => ?_) (fun wA1770 hA1770 v wB1770 hx => ?_)
    · obtain ⟨⟨v9, e1⟩, -⟩ := hx
      cases e1
    · obtain ⟨⟨v8, e1⟩, hI2⟩ := hx
      cases e1
      refine yw_st (st2 := [.float v8]) rfl ?_
      have hI := hI2
      refine y_base (cs := []) (z_I.nil _) ?_
      refine y_fstore (lv' := [(7, .float v8), (6, .int v9), (5, .int (nI (7 * j))), (4, .ref (ad 70)), (3, .ref (ad 69)), (2, .ref (ad 52)), (1, .ref (ad 0)), (0, .ref (g.2.2 40))]) d_Lw_law_1773 (by decide) rfl ?_
      refine y_goto (tgt := 1808) d_Lw_law_1775 (by decide) ?_
      refine y_lv (lv' := [(5, .int (nI (7 * j))), (4, .ref (ad 70)), (3, .ref (ad 69)), (2, .ref (ad 52)), (1, .ref (ad 0)), (0, .ref (g.2.2 40))]) [2, 3, 4, 5, 6, 7] rfl ?_
      refine y_end (fun wC hC => ?_)
      exact LC_next (IV.nil hC hI) hR hJ hL ih (by omega) (by omega)
theorem d_Lw_law_1778 : decode code 1778 = .ok (.aload_n 1, 1) := by decide +kernel
theorem d_Lw_law_1779 : decode code 1779 = .ok (.aload 4, 2) := by decide +kernel
theorem d_Lw_law_1781 : decode code 1781 = .ok (.invokestatic 338, 3) := by decide +kernel
theorem ok_Lw_law_Lw_meanBar : z_okX M_Lw_law M_Lw_meanBar 2 := ⟨z_mem (i := 1566) (by decide +kernel) (by decide +kernel), by decide, ⟨by decide +kernel, by decide +kernel, by decide +kernel⟩, ⟨by decide, by decide⟩, z_mem (i := 57) (by decide +kernel) (by decide +kernel), rfl⟩
theorem ln_Lw_338 : Cond.methodLink "IronpourLaw" 338 M_Lw_meanBar.1 ∈ z_gw := z_mem (i := 1564) (by decide +kernel) (by decide +kernel)
theorem w_st_Lw_meanBar : Cond.static M_Lw_meanBar.1 ∈ z_gw := z_mem (i := 1565) (by decide +kernel) (by decide +kernel)
theorem d_Lw_law_1784 : decode code 1784 = .ok (.istore 6, 2) := by decide +kernel
theorem d_Lw_law_1786 : decode code 1786 = .ok (.aload_n 2, 1) := by decide +kernel
theorem d_Lw_law_1787 : decode code 1787 = .ok (.invokevirtual 340, 3) := by decide +kernel
theorem ok_Lw_law_Mm_meanBar : z_ok M_Lw_law M_Mm_meanBar 0 := ⟨z_mem (i := 2052) (by decide +kernel) (by decide +kernel), rfl, ⟨by decide +kernel, by decide +kernel, by decide +kernel⟩, ⟨by decide, by decide⟩, z_mem (i := 71) (by decide +kernel) (by decide +kernel), rfl⟩
theorem ln_Lw_340 : Cond.methodLink "IronpourLaw" 340 M_Mm_meanBar.1 ∈ z_gw := z_mem (i := 2049) (by decide +kernel) (by decide +kernel)
theorem w_im_Mm_meanBar : Cond.instanceMethod M_Mm_meanBar.1 ∈ z_gw := z_mem (i := 2050) (by decide +kernel) (by decide +kernel)
theorem w_se_Mm_meanBar : Cond.selects M_Mm_meanBar.1.cls M_Mm_meanBar.1 M_Mm_meanBar.1 ∈ z_gw := z_mem (i := 2051) (by decide +kernel) (by decide +kernel)
theorem d_Lw_law_1790 : decode code 1790 = .ok (.dstore 7, 2) := by decide +kernel
theorem d_Lw_law_1792 : decode code 1792 = .ok (.goto 16, 3) := by decide +kernel
set_option maxHeartbeats 4000000 in
set_option maxRecDepth 100000 in
theorem LC_meanBar {g : zG} {ad : Nat → Nat} {t : zTT} {u : zNN} {w : zW} (hI : IV g ad t u w) (hR : REL t) {j r : Nat} (hJ : 7 * j + 7 ≤ g.2.2 41) (hL : g.2.2 41 < 2 ^ 31) (ih : LWI g ad j r) : DW g M_Lw_law lwQ w 1778 [(5, .int (nI (7 * j))), (4, .ref (ad 70)), (3, .ref (ad 69)), (2, .ref (ad 52)), (1, .ref (ad 0)), (0, .ref (g.2.2 40))] [] (100 * (r + 1)) (1000 * (r + 1)) := by
  refine y_base (cs := []) (z_I.nil w) ?_
  refine y_aload_n d_Lw_law_1778 rfl 4 rfl ?_
  refine y_aload d_Lw_law_1779 1 rfl ?_
  refine yw_callSX (As := [.ref (ad 0), .ref (ad 70)]) (rest := []) ln_Lw_338 w_st_Lw_meanBar ok_Lw_law_Lw_meanBar d_Lw_law_1781 (fun wA hA => W_meanBar (IV.nil hA hI)) rfl rfl (Nat.le_of_ble_eq_true rfl) (by omega) (by omega) (fun wA1781 hA1781 E wB1781 hx => ?_) (fun wA1781 hA1781 v wB1781 hx => ?_)
  · obtain ⟨⟨v9, e1⟩, -⟩ := hx
    cases e1
  · obtain ⟨⟨v9, e1⟩, u2, hI2⟩ := hx
    cases e1
    refine yw_st (st2 := [.int v9]) rfl ?_
    have hI := hI2
    refine y_base (cs := []) (z_I.nil _) ?_
    refine y_istore (lv' := [(6, .int v9), (5, .int (nI (7 * j))), (4, .ref (ad 70)), (3, .ref (ad 69)), (2, .ref (ad 52)), (1, .ref (ad 0)), (0, .ref (g.2.2 40))]) d_Lw_law_1784 (by decide) rfl ?_
    refine y_aload_n d_Lw_law_1786 rfl 4 rfl ?_
    refine yw_callVL (As := []) (rest := []) (ci := 12) rfl (fun wA hA => (IV.nil hA hI).rm) ln_Lw_340 w_im_Mm_meanBar w_se_Mm_meanBar ok_Lw_law_Mm_meanBar d_Lw_law_1787 (fun wA hA => Q_Mm_meanBar (IV.nil hA hI)) rfl rfl (Nat.le_of_ble_eq_true rfl) (by omega) (by omega) (fun wA1787 hA1787 E wB1787 hx => ?_) (fun wA1787 hA1787 v wB1787 hx => ?_)
    · obtain ⟨⟨v9, e1⟩, -⟩ := hx
      cases e1
    · obtain ⟨⟨v8, e1⟩, hI2⟩ := hx
      cases e1
      refine yw_st (st2 := [.double v8]) rfl ?_
      have hI := hI2
      refine y_base (cs := []) (z_I.nil _) ?_
      refine y_dstore (lv' := [(7, .double v8), (6, .int v9), (5, .int (nI (7 * j))), (4, .ref (ad 70)), (3, .ref (ad 69)), (2, .ref (ad 52)), (1, .ref (ad 0)), (0, .ref (g.2.2 40))]) d_Lw_law_1790 (by decide) rfl ?_
      refine y_goto (tgt := 1808) d_Lw_law_1792 (by decide) ?_
      refine y_lv (lv' := [(5, .int (nI (7 * j))), (4, .ref (ad 70)), (3, .ref (ad 69)), (2, .ref (ad 52)), (1, .ref (ad 0)), (0, .ref (g.2.2 40))]) [2, 3, 4, 5, 6, 7] rfl ?_
      refine y_end (fun wC hC => ?_)
      exact LC_next (IV.nil hC hI) hR hJ hL ih (by omega) (by omega)
theorem d_Lw_law_260 : decode code 260 = .ok (.aload_n 1, 1) := by decide +kernel
theorem d_Lw_law_261 : decode code 261 = .ok (.aload_n 0, 1) := by decide +kernel
theorem d_Lw_law_262 : decode code 262 = .ok (.iload 5, 2) := by decide +kernel
theorem d_Lw_law_264 : decode code 264 = .ok (.iconst 1, 1) := by decide +kernel
theorem d_Lw_law_265 : decode code 265 = .ok (.iadd, 1) := by decide +kernel
theorem d_Lw_law_266 : decode code 266 = .ok (.iaload, 1) := by decide +kernel
theorem d_Lw_law_267 : decode code 267 = .ok (.i2c, 1) := by decide +kernel
theorem d_Lw_law_268 : decode code 268 = .ok (.aload_n 0, 1) := by decide +kernel
theorem d_Lw_law_269 : decode code 269 = .ok (.iload 5, 2) := by decide +kernel
theorem d_Lw_law_271 : decode code 271 = .ok (.iconst 2, 1) := by decide +kernel
theorem d_Lw_law_272 : decode code 272 = .ok (.iadd, 1) := by decide +kernel
theorem d_Lw_law_273 : decode code 273 = .ok (.iaload, 1) := by decide +kernel
theorem d_Lw_law_274 : decode code 274 = .ok (.aload_n 0, 1) := by decide +kernel
theorem d_Lw_law_275 : decode code 275 = .ok (.iload 5, 2) := by decide +kernel
theorem d_Lw_law_277 : decode code 277 = .ok (.iconst 3, 1) := by decide +kernel
theorem d_Lw_law_278 : decode code 278 = .ok (.iadd, 1) := by decide +kernel
theorem d_Lw_law_279 : decode code 279 = .ok (.iaload, 1) := by decide +kernel
theorem d_Lw_law_280 : decode code 280 = .ok (.aload_n 0, 1) := by decide +kernel
theorem d_Lw_law_281 : decode code 281 = .ok (.iload 5, 2) := by decide +kernel
theorem d_Lw_law_283 : decode code 283 = .ok (.iconst 4, 1) := by decide +kernel
theorem d_Lw_law_284 : decode code 284 = .ok (.iadd, 1) := by decide +kernel
theorem d_Lw_law_285 : decode code 285 = .ok (.iaload, 1) := by decide +kernel
theorem d_Lw_law_286 : decode code 286 = .ok (.aload_n 0, 1) := by decide +kernel
theorem d_Lw_law_287 : decode code 287 = .ok (.iload 5, 2) := by decide +kernel
theorem d_Lw_law_289 : decode code 289 = .ok (.iconst 5, 1) := by decide +kernel
theorem d_Lw_law_290 : decode code 290 = .ok (.iadd, 1) := by decide +kernel
theorem d_Lw_law_291 : decode code 291 = .ok (.iaload, 1) := by decide +kernel
theorem d_Lw_law_292 : decode code 292 = .ok (.aload_n 3, 1) := by decide +kernel
theorem d_Lw_law_293 : decode code 293 = .ok (.invokestatic 169, 3) := by decide +kernel
theorem ok_Lw_law_Lw_draw : z_okX M_Lw_law M_Lw_draw 7 := ⟨z_mem (i := 585) (by decide +kernel) (by decide +kernel), by decide, ⟨by decide +kernel, by decide +kernel, by decide +kernel⟩, ⟨by decide, by decide⟩, z_mem (i := 57) (by decide +kernel) (by decide +kernel), rfl⟩
theorem ln_Lw_169 : Cond.methodLink "IronpourLaw" 169 M_Lw_draw.1 ∈ z_gw := z_mem (i := 583) (by decide +kernel) (by decide +kernel)
theorem w_st_Lw_draw : Cond.static M_Lw_draw.1 ∈ z_gw := z_mem (i := 584) (by decide +kernel) (by decide +kernel)
theorem d_Lw_law_296 : decode code 296 = .ok (.istore 6, 2) := by decide +kernel
theorem d_Lw_law_298 : decode code 298 = .ok (.aload_n 2, 1) := by decide +kernel
theorem d_Lw_law_299 : decode code 299 = .ok (.aload_n 0, 1) := by decide +kernel
theorem d_Lw_law_300 : decode code 300 = .ok (.iload 5, 2) := by decide +kernel
theorem d_Lw_law_302 : decode code 302 = .ok (.iconst 1, 1) := by decide +kernel
theorem d_Lw_law_303 : decode code 303 = .ok (.iadd, 1) := by decide +kernel
theorem d_Lw_law_304 : decode code 304 = .ok (.iaload, 1) := by decide +kernel
theorem d_Lw_law_305 : decode code 305 = .ok (.i2c, 1) := by decide +kernel
theorem d_Lw_law_306 : decode code 306 = .ok (.aload_n 0, 1) := by decide +kernel
theorem d_Lw_law_307 : decode code 307 = .ok (.iload 5, 2) := by decide +kernel
theorem d_Lw_law_309 : decode code 309 = .ok (.iconst 2, 1) := by decide +kernel
theorem d_Lw_law_310 : decode code 310 = .ok (.iadd, 1) := by decide +kernel
theorem d_Lw_law_311 : decode code 311 = .ok (.iaload, 1) := by decide +kernel
theorem d_Lw_law_312 : decode code 312 = .ok (.aload_n 0, 1) := by decide +kernel
theorem d_Lw_law_313 : decode code 313 = .ok (.iload 5, 2) := by decide +kernel
theorem d_Lw_law_315 : decode code 315 = .ok (.iconst 3, 1) := by decide +kernel
theorem d_Lw_law_316 : decode code 316 = .ok (.iadd, 1) := by decide +kernel
theorem d_Lw_law_317 : decode code 317 = .ok (.iaload, 1) := by decide +kernel
theorem d_Lw_law_318 : decode code 318 = .ok (.aload_n 0, 1) := by decide +kernel
theorem d_Lw_law_319 : decode code 319 = .ok (.iload 5, 2) := by decide +kernel
theorem d_Lw_law_321 : decode code 321 = .ok (.iconst 4, 1) := by decide +kernel
theorem d_Lw_law_322 : decode code 322 = .ok (.iadd, 1) := by decide +kernel
theorem d_Lw_law_323 : decode code 323 = .ok (.iaload, 1) := by decide +kernel
theorem d_Lw_law_324 : decode code 324 = .ok (.aload_n 0, 1) := by decide +kernel
theorem d_Lw_law_325 : decode code 325 = .ok (.iload 5, 2) := by decide +kernel
theorem d_Lw_law_327 : decode code 327 = .ok (.iconst 5, 1) := by decide +kernel
theorem d_Lw_law_328 : decode code 328 = .ok (.iadd, 1) := by decide +kernel
theorem d_Lw_law_329 : decode code 329 = .ok (.iaload, 1) := by decide +kernel
theorem d_Lw_law_330 : decode code 330 = .ok (.invokevirtual 174, 3) := by decide +kernel
theorem ok_Lw_law_Mm_draw : z_ok M_Lw_law M_Mm_draw 5 := ⟨z_mem (i := 1681) (by decide +kernel) (by decide +kernel), rfl, ⟨by decide +kernel, by decide +kernel, by decide +kernel⟩, ⟨by decide, by decide⟩, z_mem (i := 71) (by decide +kernel) (by decide +kernel), rfl⟩
theorem ln_Lw_174 : Cond.methodLink "IronpourLaw" 174 M_Mm_draw.1 ∈ z_gw := z_mem (i := 1678) (by decide +kernel) (by decide +kernel)
theorem w_im_Mm_draw : Cond.instanceMethod M_Mm_draw.1 ∈ z_gw := z_mem (i := 1679) (by decide +kernel) (by decide +kernel)
theorem w_se_Mm_draw : Cond.selects M_Mm_draw.1.cls M_Mm_draw.1 M_Mm_draw.1 ∈ z_gw := z_mem (i := 1680) (by decide +kernel) (by decide +kernel)
theorem d_Lw_law_333 : decode code 333 = .ok (.istore 7, 2) := by decide +kernel
theorem d_Lw_law_335 : decode code 335 = .ok (.goto 1473, 3) := by decide +kernel
set_option maxHeartbeats 4000000 in
set_option maxRecDepth 100000 in
theorem LC_draw {g : zG} {ad : Nat → Nat} {t : zTT} {u : zNN} {w : zW} (hI : IV g ad t u w) (hR : REL t) {j r : Nat} (hJ : 7 * j + 7 ≤ g.2.2 41) (hL : g.2.2 41 < 2 ^ 31) (ih : LWI g ad j r) : DW g M_Lw_law lwQ w 260 [(5, .int (nI (7 * j))), (4, .ref (ad 70)), (3, .ref (ad 69)), (2, .ref (ad 52)), (1, .ref (ad 0)), (0, .ref (g.2.2 40))] [] (100 * (r + 1)) (1000 * (r + 1)) := by
  refine y_base (cs := []) (z_I.nil w) ?_
  refine y_aload_n d_Lw_law_260 rfl 4 rfl ?_
  refine y_aload_n d_Lw_law_261 rfl 5 rfl ?_
  refine y_iload d_Lw_law_262 0 rfl ?_
  refine y_iconst d_Lw_law_264 (v := 1) (by decide) ?_
  refine y_iadd d_Lw_law_265 (v := nI ((7 * j) + 1)) (nI_add _ _) ?_
  refine y_sld (v := zs g (7 * j + 1)) d_Lw_law_266 (vp_in_nI (by omega) (by omega)) (by rw [nI_clamp (by omega)]; rfl) ?_
  refine y_i2c d_Lw_law_267 (v := zc g (7 * j + 1)) rfl ?_
  refine y_aload_n d_Lw_law_268 rfl 5 rfl ?_
  refine y_iload d_Lw_law_269 0 rfl ?_
  refine y_iconst d_Lw_law_271 (v := 2) (by decide) ?_
  refine y_iadd d_Lw_law_272 (v := nI ((7 * j) + 2)) (nI_add _ _) ?_
  refine y_sld (v := zs g (7 * j + 2)) d_Lw_law_273 (vp_in_nI (by omega) (by omega)) (by rw [nI_clamp (by omega)]; rfl) ?_
  refine y_aload_n d_Lw_law_274 rfl 5 rfl ?_
  refine y_iload d_Lw_law_275 0 rfl ?_
  refine y_iconst d_Lw_law_277 (v := 3) (by decide) ?_
  refine y_iadd d_Lw_law_278 (v := nI ((7 * j) + 3)) (nI_add _ _) ?_
  refine y_sld (v := zs g (7 * j + 3)) d_Lw_law_279 (vp_in_nI (by omega) (by omega)) (by rw [nI_clamp (by omega)]; rfl) ?_
  refine y_aload_n d_Lw_law_280 rfl 5 rfl ?_
  refine y_iload d_Lw_law_281 0 rfl ?_
  refine y_iconst d_Lw_law_283 (v := 4) (by decide) ?_
  refine y_iadd d_Lw_law_284 (v := nI ((7 * j) + 4)) (nI_add _ _) ?_
  refine y_sld (v := zs g (7 * j + 4)) d_Lw_law_285 (vp_in_nI (by omega) (by omega)) (by rw [nI_clamp (by omega)]; rfl) ?_
  refine y_aload_n d_Lw_law_286 rfl 5 rfl ?_
  refine y_iload d_Lw_law_287 0 rfl ?_
  refine y_iconst d_Lw_law_289 (v := 5) (by decide) ?_
  refine y_iadd d_Lw_law_290 (v := nI ((7 * j) + 5)) (nI_add _ _) ?_
  refine y_sld (v := zs g (7 * j + 5)) d_Lw_law_291 (vp_in_nI (by omega) (by omega)) (by rw [nI_clamp (by omega)]; rfl) ?_
  refine y_aload_n d_Lw_law_292 rfl 2 rfl ?_
  refine yw_callSX (As := [.ref (ad 0), .int (zc g (7 * j + 1)), .int (zs g (7 * j + 2)), .int (zs g (7 * j + 3)), .int (zs g (7 * j + 4)), .int (zs g (7 * j + 5)), .ref (ad 69)]) (rest := []) ln_Lw_169 w_st_Lw_draw ok_Lw_law_Lw_draw d_Lw_law_293 (fun wA hA => W_draw (IV.nil hA hI) _ _ _ _ _) rfl rfl (Nat.le_of_ble_eq_true rfl) (by omega) (by omega) (fun wA293 hA293 E wB293 hx => ?_) (fun wA293 hA293 v wB293 hx => ?_)
  · obtain ⟨⟨v9, e1⟩, -⟩ := hx
    cases e1
  · obtain ⟨⟨v9, e1⟩, u2, hI2⟩ := hx
    cases e1
    refine yw_st (st2 := [.int v9]) rfl ?_
    have hI := hI2
    refine y_base (cs := []) (z_I.nil _) ?_
    refine y_istore (lv' := [(6, .int v9), (5, .int (nI (7 * j))), (4, .ref (ad 70)), (3, .ref (ad 69)), (2, .ref (ad 52)), (1, .ref (ad 0)), (0, .ref (g.2.2 40))]) d_Lw_law_296 (by decide) rfl ?_
    refine y_aload_n d_Lw_law_298 rfl 4 rfl ?_
    refine y_aload_n d_Lw_law_299 rfl 6 rfl ?_
    refine y_iload d_Lw_law_300 1 rfl ?_
    refine y_iconst d_Lw_law_302 (v := 1) (by decide) ?_
    refine y_iadd d_Lw_law_303 (v := nI ((7 * j) + 1)) (nI_add _ _) ?_
    refine y_sld (v := zs g (7 * j + 1)) d_Lw_law_304 (vp_in_nI (by omega) (by omega)) (by rw [nI_clamp (by omega)]; rfl) ?_
    refine y_i2c d_Lw_law_305 (v := zc g (7 * j + 1)) rfl ?_
    refine y_aload_n d_Lw_law_306 rfl 6 rfl ?_
    refine y_iload d_Lw_law_307 1 rfl ?_
    refine y_iconst d_Lw_law_309 (v := 2) (by decide) ?_
    refine y_iadd d_Lw_law_310 (v := nI ((7 * j) + 2)) (nI_add _ _) ?_
    refine y_sld (v := zs g (7 * j + 2)) d_Lw_law_311 (vp_in_nI (by omega) (by omega)) (by rw [nI_clamp (by omega)]; rfl) ?_
    refine y_aload_n d_Lw_law_312 rfl 6 rfl ?_
    refine y_iload d_Lw_law_313 1 rfl ?_
    refine y_iconst d_Lw_law_315 (v := 3) (by decide) ?_
    refine y_iadd d_Lw_law_316 (v := nI ((7 * j) + 3)) (nI_add _ _) ?_
    refine y_sld (v := zs g (7 * j + 3)) d_Lw_law_317 (vp_in_nI (by omega) (by omega)) (by rw [nI_clamp (by omega)]; rfl) ?_
    refine y_aload_n d_Lw_law_318 rfl 6 rfl ?_
    refine y_iload d_Lw_law_319 1 rfl ?_
    refine y_iconst d_Lw_law_321 (v := 4) (by decide) ?_
    refine y_iadd d_Lw_law_322 (v := nI ((7 * j) + 4)) (nI_add _ _) ?_
    refine y_sld (v := zs g (7 * j + 4)) d_Lw_law_323 (vp_in_nI (by omega) (by omega)) (by rw [nI_clamp (by omega)]; rfl) ?_
    refine y_aload_n d_Lw_law_324 rfl 6 rfl ?_
    refine y_iload d_Lw_law_325 1 rfl ?_
    refine y_iconst d_Lw_law_327 (v := 5) (by decide) ?_
    refine y_iadd d_Lw_law_328 (v := nI ((7 * j) + 5)) (nI_add _ _) ?_
    refine y_sld (v := zs g (7 * j + 5)) d_Lw_law_329 (vp_in_nI (by omega) (by omega)) (by rw [nI_clamp (by omega)]; rfl) ?_
    refine yw_callVL (As := [.int (zc g (7 * j + 1)), .int (zs g (7 * j + 2)), .int (zs g (7 * j + 3)), .int (zs g (7 * j + 4)), .int (zs g (7 * j + 5))]) (rest := []) (ci := 12) rfl (fun wA hA => (IV.nil hA hI).rm) ln_Lw_174 w_im_Mm_draw w_se_Mm_draw ok_Lw_law_Mm_draw d_Lw_law_330 (fun wA hA => K_Mm_draw (IV.nil hA hI) _ _ _ _ _) rfl rfl (Nat.le_of_ble_eq_true rfl) (by omega) (by omega) (fun wA330 hA330 E wB330 hx => ?_) (fun wA330 hA330 v wB330 hx => ?_)
    · obtain ⟨⟨v8, e1⟩, -⟩ := hx
      cases e1
    · obtain ⟨⟨v8, e1⟩, u2, hI2⟩ := hx
      cases e1
      refine yw_st (st2 := [.int v8]) rfl ?_
      have hI := hI2
      refine y_base (cs := []) (z_I.nil _) ?_
      refine y_istore (lv' := [(7, .int v8), (6, .int v9), (5, .int (nI (7 * j))), (4, .ref (ad 70)), (3, .ref (ad 69)), (2, .ref (ad 52)), (1, .ref (ad 0)), (0, .ref (g.2.2 40))]) d_Lw_law_333 (by decide) rfl ?_
      refine y_goto (tgt := 1808) d_Lw_law_335 (by decide) ?_
      refine y_lv (lv' := [(5, .int (nI (7 * j))), (4, .ref (ad 70)), (3, .ref (ad 69)), (2, .ref (ad 52)), (1, .ref (ad 0)), (0, .ref (g.2.2 40))]) [2, 3, 4, 5, 6, 7] rfl ?_
      refine y_end (fun wC hC => ?_)
      exact LC_next (IV.nil hC hI) ⟨by show drawT _ _ _ _ _ t.2.1 = drawT _ _ _ _ _ t.1; rw [hR.1], hR.2⟩ hJ hL ih (by omega) (by omega)
theorem d_Lw_law_378 : decode code 378 = .ok (.aload_n 1, 1) := by decide +kernel
theorem d_Lw_law_379 : decode code 379 = .ok (.aload_n 0, 1) := by decide +kernel
theorem d_Lw_law_380 : decode code 380 = .ok (.iload 5, 2) := by decide +kernel
theorem d_Lw_law_382 : decode code 382 = .ok (.iconst 1, 1) := by decide +kernel
theorem d_Lw_law_383 : decode code 383 = .ok (.iadd, 1) := by decide +kernel
theorem d_Lw_law_384 : decode code 384 = .ok (.iaload, 1) := by decide +kernel
theorem d_Lw_law_385 : decode code 385 = .ok (.aload_n 3, 1) := by decide +kernel
theorem d_Lw_law_386 : decode code 386 = .ok (.invokestatic 179, 3) := by decide +kernel
theorem ok_Lw_law_Lw_part : z_okX M_Lw_law M_Lw_part 3 := ⟨z_mem (i := 815) (by decide +kernel) (by decide +kernel), by decide, ⟨by decide +kernel, by decide +kernel, by decide +kernel⟩, ⟨by decide, by decide⟩, z_mem (i := 57) (by decide +kernel) (by decide +kernel), rfl⟩
theorem ln_Lw_179 : Cond.methodLink "IronpourLaw" 179 M_Lw_part.1 ∈ z_gw := z_mem (i := 813) (by decide +kernel) (by decide +kernel)
theorem w_st_Lw_part : Cond.static M_Lw_part.1 ∈ z_gw := z_mem (i := 814) (by decide +kernel) (by decide +kernel)
theorem d_Lw_law_389 : decode code 389 = .ok (.istore 6, 2) := by decide +kernel
theorem d_Lw_law_391 : decode code 391 = .ok (.aload_n 2, 1) := by decide +kernel
theorem d_Lw_law_392 : decode code 392 = .ok (.aload_n 0, 1) := by decide +kernel
theorem d_Lw_law_393 : decode code 393 = .ok (.iload 5, 2) := by decide +kernel
theorem d_Lw_law_395 : decode code 395 = .ok (.iconst 1, 1) := by decide +kernel
theorem d_Lw_law_396 : decode code 396 = .ok (.iadd, 1) := by decide +kernel
theorem d_Lw_law_397 : decode code 397 = .ok (.iaload, 1) := by decide +kernel
theorem d_Lw_law_398 : decode code 398 = .ok (.invokevirtual 182, 3) := by decide +kernel
theorem ok_Lw_law_Mm_part : z_ok M_Lw_law M_Mm_part 1 := ⟨z_mem (i := 1701) (by decide +kernel) (by decide +kernel), rfl, ⟨by decide +kernel, by decide +kernel, by decide +kernel⟩, ⟨by decide, by decide⟩, z_mem (i := 71) (by decide +kernel) (by decide +kernel), rfl⟩
theorem ln_Lw_182 : Cond.methodLink "IronpourLaw" 182 M_Mm_part.1 ∈ z_gw := z_mem (i := 1698) (by decide +kernel) (by decide +kernel)
theorem w_im_Mm_part : Cond.instanceMethod M_Mm_part.1 ∈ z_gw := z_mem (i := 1699) (by decide +kernel) (by decide +kernel)
theorem w_se_Mm_part : Cond.selects M_Mm_part.1.cls M_Mm_part.1 M_Mm_part.1 ∈ z_gw := z_mem (i := 1700) (by decide +kernel) (by decide +kernel)
theorem d_Lw_law_401 : decode code 401 = .ok (.istore 7, 2) := by decide +kernel
theorem d_Lw_law_403 : decode code 403 = .ok (.goto 1405, 3) := by decide +kernel
set_option maxHeartbeats 4000000 in
set_option maxRecDepth 100000 in
theorem LC_part {g : zG} {ad : Nat → Nat} {t : zTT} {u : zNN} {w : zW} (hI : IV g ad t u w) (hR : REL t) {j r : Nat} (hJ : 7 * j + 7 ≤ g.2.2 41) (hL : g.2.2 41 < 2 ^ 31) (ih : LWI g ad j r) : DW g M_Lw_law lwQ w 378 [(5, .int (nI (7 * j))), (4, .ref (ad 70)), (3, .ref (ad 69)), (2, .ref (ad 52)), (1, .ref (ad 0)), (0, .ref (g.2.2 40))] [] (100 * (r + 1)) (1000 * (r + 1)) := by
  refine y_base (cs := []) (z_I.nil w) ?_
  refine y_aload_n d_Lw_law_378 rfl 4 rfl ?_
  refine y_aload_n d_Lw_law_379 rfl 5 rfl ?_
  refine y_iload d_Lw_law_380 0 rfl ?_
  refine y_iconst d_Lw_law_382 (v := 1) (by decide) ?_
  refine y_iadd d_Lw_law_383 (v := nI ((7 * j) + 1)) (nI_add _ _) ?_
  refine y_sld (v := zs g (7 * j + 1)) d_Lw_law_384 (vp_in_nI (by omega) (by omega)) (by rw [nI_clamp (by omega)]; rfl) ?_
  refine y_aload_n d_Lw_law_385 rfl 2 rfl ?_
  refine yw_callSX (As := [.ref (ad 0), .int (zs g (7 * j + 1)), .ref (ad 69)]) (rest := []) ln_Lw_179 w_st_Lw_part ok_Lw_law_Lw_part d_Lw_law_386 (fun wA hA => W_part (IV.nil hA hI) _) rfl rfl (Nat.le_of_ble_eq_true rfl) (by omega) (by omega) (fun wA386 hA386 E wB386 hx => ?_) (fun wA386 hA386 v wB386 hx => ?_)
  · obtain ⟨⟨v9, e1⟩, -⟩ := hx
    cases e1
  · obtain ⟨⟨v9, e1⟩, u2, hI2⟩ := hx
    cases e1
    refine yw_st (st2 := [.int v9]) rfl ?_
    have hI := hI2
    refine y_base (cs := []) (z_I.nil _) ?_
    refine y_istore (lv' := [(6, .int v9), (5, .int (nI (7 * j))), (4, .ref (ad 70)), (3, .ref (ad 69)), (2, .ref (ad 52)), (1, .ref (ad 0)), (0, .ref (g.2.2 40))]) d_Lw_law_389 (by decide) rfl ?_
    refine y_aload_n d_Lw_law_391 rfl 4 rfl ?_
    refine y_aload_n d_Lw_law_392 rfl 6 rfl ?_
    refine y_iload d_Lw_law_393 1 rfl ?_
    refine y_iconst d_Lw_law_395 (v := 1) (by decide) ?_
    refine y_iadd d_Lw_law_396 (v := nI ((7 * j) + 1)) (nI_add _ _) ?_
    refine y_sld (v := zs g (7 * j + 1)) d_Lw_law_397 (vp_in_nI (by omega) (by omega)) (by rw [nI_clamp (by omega)]; rfl) ?_
    refine yw_callVL (As := [.int (zs g (7 * j + 1))]) (rest := []) (ci := 12) rfl (fun wA hA => (IV.nil hA hI).rm) ln_Lw_182 w_im_Mm_part w_se_Mm_part ok_Lw_law_Mm_part d_Lw_law_398 (fun wA hA => K_Mm_part (IV.nil hA hI) _) rfl rfl (Nat.le_of_ble_eq_true rfl) (by omega) (by omega) (fun wA398 hA398 E wB398 hx => ?_) (fun wA398 hA398 v wB398 hx => ?_)
    · obtain ⟨⟨v8, e1⟩, -⟩ := hx
      cases e1
    · obtain ⟨⟨v8, e1⟩, u2, hI2⟩ := hx
      cases e1
      refine yw_st (st2 := [.int v8]) rfl ?_
      have hI := hI2
      refine y_base (cs := []) (z_I.nil _) ?_
      refine y_istore (lv' := [(7, .int v8), (6, .int v9), (5, .int (nI (7 * j))), (4, .ref (ad 70)), (3, .ref (ad 69)), (2, .ref (ad 52)), (1, .ref (ad 0)), (0, .ref (g.2.2 40))]) d_Lw_law_401 (by decide) rfl ?_
      refine y_goto (tgt := 1808) d_Lw_law_403 (by decide) ?_
      refine y_lv (lv' := [(5, .int (nI (7 * j))), (4, .ref (ad 70)), (3, .ref (ad 69)), (2, .ref (ad 52)), (1, .ref (ad 0)), (0, .ref (g.2.2 40))]) [2, 3, 4, 5, 6, 7] rfl ?_
      refine y_end (fun wC hC => ?_)
      exact LC_next (IV.nil hC hI) ⟨hR.1, by show partT _ t.2.2.2.1 = partT _ t.2.2.1; rw [hR.2.1], hR.2.2⟩ hJ hL ih (by omega) (by omega)
