theorem y_pop2 {g : zG} {M : zM} {Ψ : zO → zW → Prop} {w0 : zW} {n pc : Nat} {lv : List (Nat × Value)} {st : List Value} {cs : zC} {kc ks : Nat} {v : Value} (hd : decode M.2.1 pc = .ok (.pop2, 1)) (hv : v.category = 2) (k : DU g M Ψ w0 n (pc + 1) lv st cs kc ks) : DU g M Ψ w0 n pc lv (v :: st) cs kc ks := fun w p l e R s m args below meth c A mc ms H locs cells slots ls ws I C T => lv_pop2_2 C.1.1 C.1.2.1 hd hv (k w p l e R s m args below meth c A mc ms H locs cells slots ls ws I C T)
def zs (g : zG) (k : Nat) : Int32 := Int32.ofNat (g.2.2 (100 + k))
def zc (g : zG) (k : Nat) : Int32 := ((zs g k).toUInt32 % 65536).toInt32
def lwQ : zO → zW → Prop := fun o _ => o = .inl (some (.int 1))
theorem z_shL {L : Nat} (h : L < 7) : nI L - 7 < (0 : Int32) := by
  have h9 : L = 0 ∨ L = 1 ∨ L = 2 ∨ L = 3 ∨ L = 4 ∨ L = 5 ∨ L = 6 := by omega
  rcases h9 with rfl | rfl | rfl | rfl | rfl | rfl | rfl <;> decide
theorem z_shl {L k : Nat} (h : ¬ k + 7 ≤ L) (hL : L < 2 ^ 31) (hk : k < 2 ^ 31) : nI L - 7 < nI k := by
  by_cases h7 : L < 7
  · exact Int32.lt_of_lt_of_le (z_shL h7) (Int32.not_lt.mp (nI_nneg hk))
  · rw [show nI L - 7 = nI (L - 7) from pk_sub (a := L) (b := 7) (by omega)]
    exact (nI_ltI (by omega) hk).mpr (by omega)
abbrev M_Lw_law : zM := (⟨"IronpourLaw", "law", "([I)Z"⟩, code, 9, (Option.some FieldType.boolean), 11, 274, [])
theorem d_Lw_law_1808 : decode code 1808 = .ok (.iinc 5 7, 3) := by decide +kernel
theorem d_Lw_law_1811 : decode code 1811 = .ok (.goto (-1783), 3) := zo_167 (d := 249) (e := 9) (zd_b zq_code_56 19 rfl rfl rfl) (zd_b zq_code_56 20 rfl rfl rfl) (zd_b zq_code_56 21 rfl rfl rfl) (by decide +kernel)
def LWI (g : zG) (ad : Nat → Nat) (j r : Nat) : Prop := ∀ (t : zTT) (u : zNN) (w : zW), IVm g ad t u w → REL t u.1 (48 * (j + 1)) → DW g M_Lw_law lwQ w 28 [(5, .int (nI (7 * (j + 1)))), (4, .ref (ad 70)), (3, .ref (ad 69)), (2, .ref (ad 52)), (1, .ref (ad 0)), (0, .ref (g.2.2 40))] [] (100 * r) (1000 * r)
set_option maxHeartbeats 4000000 in
set_option maxRecDepth 100000 in
theorem LC_next {g : zG} {ad : Nat → Nat} {t : zTT} {u : zNN} {w : zW} {j : Nat} (hI : IVm g ad t u w) (hR : REL t u.1 (48 * (j + 1))) {r : Nat} (hJ : 7 * j + 7 ≤ g.2.2 41) (hL : g.2.2 41 ≤ 3584) (ih : LWI g ad j r) {kc ks : Nat} (h1 : 100 * r ≤ kc) (h2 : 1000 * r ≤ ks) : DW g M_Lw_law lwQ w 1808 [(5, .int (nI (7 * j))), (4, .ref (ad 70)), (3, .ref (ad 69)), (2, .ref (ad 52)), (1, .ref (ad 0)), (0, .ref (g.2.2 40))] [] kc ks := by
  refine y_base (cs := []) (z_I.nil w) ?_
  refine y_iinc (lv' := [(5, .int (nI ((7 * j) + 7))), (4, .ref (ad 70)), (3, .ref (ad 69)), (2, .ref (ad 52)), (1, .ref (ad 0)), (0, .ref (g.2.2 40))]) (v := nI ((7 * j) + 7)) d_Lw_law_1808 (j := 0) rfl (nI_add _ _) (by decide) rfl ?_
  refine y_goto (tgt := 28) d_Lw_law_1811 (by decide) ?_
  refine y_lv (lv' := [(5, .int (nI ((7 * j) + 7))), (4, .ref (ad 70)), (3, .ref (ad 69)), (2, .ref (ad 52)), (1, .ref (ad 0)), (0, .ref (g.2.2 40))]) [0, 1, 2, 3, 4, 5] rfl ?_
  refine y_end (fun wC hC => ?_)
  exact yw_bud h1 h2 (ih _ _ _ (IVm.nil hC hI) hR)
theorem d_Lw_law_1466 : decode code 1466 = .ok (.aload_n 1, 1) := zo_43 (zd_b zq_code_45 26 rfl rfl rfl)
theorem d_Lw_law_1467 : decode code 1467 = .ok (.aload_n 0, 1) := zo_42 (zd_b zq_code_45 27 rfl rfl rfl)
theorem d_Lw_law_1468 : decode code 1468 = .ok (.iload 5, 2) := zo_21 (d := 5) (zd_b zq_code_45 28 rfl rfl rfl) (zd_b zq_code_45 29 rfl rfl rfl)
theorem d_Lw_law_1470 : decode code 1470 = .ok (.iconst 1, 1) := zo_4 (zd_b zq_code_45 30 rfl rfl rfl)
theorem d_Lw_law_1471 : decode code 1471 = .ok (.iadd, 1) := zo_96 (zd_b zq_code_45 31 rfl rfl rfl)
theorem d_Lw_law_1472 : decode code 1472 = .ok (.iaload, 1) := zo_46 (zd_b zq_code_46 0 rfl rfl rfl)
theorem d_Lw_law_1473 : decode code 1473 = .ok (.aload_n 3, 1) := zo_45 (zd_b zq_code_46 1 rfl rfl rfl)
theorem d_Lw_law_1474 : decode code 1474 = .ok (.invokestatic 298, 3) := zo_184 (d := 1) (e := 42) (zd_b zq_code_46 2 rfl rfl rfl) (zd_b zq_code_46 3 rfl rfl rfl) (zd_b zq_code_46 4 rfl rfl rfl)
theorem ok_Lw_law_Lw_alloy : z_okX M_Lw_law M_Lw_alloy 3 := ⟨z_mj6 (i := 185) rfl (by decide +kernel), by decide, ⟨by decide +kernel, by decide +kernel, by decide +kernel⟩, ⟨by decide, by decide⟩, z_mj1 (i := 0) rfl (by decide +kernel), rfl⟩
theorem ln_Lw_298 : Cond.methodLink "IronpourLaw" 298 M_Lw_alloy.1 ∈ z_gw := z_mj6 (i := 183) rfl (by decide +kernel)
theorem w_st_Lw_alloy : Cond.static M_Lw_alloy.1 ∈ z_gw := z_mj6 (i := 184) rfl (by decide +kernel)
theorem d_Lw_law_1477 : decode code 1477 = .ok (.istore 6, 2) := zo_54 (d := 6) (zd_b zq_code_46 5 rfl rfl rfl) (zd_b zq_code_46 6 rfl rfl rfl)
theorem d_Lw_law_1479 : decode code 1479 = .ok (.aload_n 2, 1) := zo_44 (zd_b zq_code_46 7 rfl rfl rfl)
theorem d_Lw_law_1480 : decode code 1480 = .ok (.aload_n 0, 1) := zo_42 (zd_b zq_code_46 8 rfl rfl rfl)
theorem d_Lw_law_1481 : decode code 1481 = .ok (.iload 5, 2) := zo_21 (d := 5) (zd_b zq_code_46 9 rfl rfl rfl) (zd_b zq_code_46 10 rfl rfl rfl)
theorem d_Lw_law_1483 : decode code 1483 = .ok (.iconst 1, 1) := zo_4 (zd_b zq_code_46 11 rfl rfl rfl)
theorem d_Lw_law_1484 : decode code 1484 = .ok (.iadd, 1) := zo_96 (zd_b zq_code_46 12 rfl rfl rfl)
theorem d_Lw_law_1485 : decode code 1485 = .ok (.iaload, 1) := zo_46 (zd_b zq_code_46 13 rfl rfl rfl)
theorem d_Lw_law_1486 : decode code 1486 = .ok (.invokevirtual 300, 3) := zo_182 (d := 1) (e := 44) (zd_b zq_code_46 14 rfl rfl rfl) (zd_b zq_code_46 15 rfl rfl rfl) (zd_b zq_code_46 16 rfl rfl rfl)
theorem ok_Lw_law_Mm_alloy : z_ok M_Lw_law M_Mm_alloy 1 := ⟨z_mj9 (i := 13) rfl (by decide +kernel), rfl, ⟨by decide +kernel, by decide +kernel, by decide +kernel⟩, ⟨by decide, by decide⟩, z_mj1 (i := 14) rfl (by decide +kernel), rfl⟩
theorem ln_Lw_300 : Cond.methodLink "IronpourLaw" 300 M_Mm_alloy.1 ∈ z_gw := z_mj9 (i := 10) rfl (by decide +kernel)
theorem w_im_Mm_alloy : Cond.instanceMethod M_Mm_alloy.1 ∈ z_gw := z_mj9 (i := 11) rfl (by decide +kernel)
theorem w_se_Mm_alloy : Cond.selects M_Mm_alloy.1.cls M_Mm_alloy.1 M_Mm_alloy.1 ∈ z_gw := z_mj9 (i := 12) rfl (by decide +kernel)
theorem d_Lw_law_1489 : decode code 1489 = .ok (.istore 7, 2) := zo_54 (d := 7) (zd_b zq_code_46 17 rfl rfl rfl) (zd_b zq_code_46 18 rfl rfl rfl)
theorem d_Lw_law_1491 : decode code 1491 = .ok (.aload_n 2, 1) := zo_44 (zd_b zq_code_46 19 rfl rfl rfl)
theorem d_Lw_law_1492 : decode code 1492 = .ok (.invokevirtual 301, 3) := zo_182 (d := 1) (e := 45) (zd_b zq_code_46 20 rfl rfl rfl) (zd_b zq_code_46 21 rfl rfl rfl) (zd_b zq_code_46 22 rfl rfl rfl)
theorem ok_Lw_law_Mm_thrown : z_ok M_Lw_law M_Mm_thrown 0 := ⟨z_mj7 (i := 180) rfl (by decide +kernel), rfl, ⟨by decide +kernel, by decide +kernel, by decide +kernel⟩, ⟨by decide, by decide⟩, z_mj1 (i := 14) rfl (by decide +kernel), rfl⟩
theorem ln_Lw_301 : Cond.methodLink "IronpourLaw" 301 M_Mm_thrown.1 ∈ z_gw := z_mj7 (i := 177) rfl (by decide +kernel)
theorem w_im_Mm_thrown : Cond.instanceMethod M_Mm_thrown.1 ∈ z_gw := z_mj7 (i := 178) rfl (by decide +kernel)
theorem w_se_Mm_thrown : Cond.selects M_Mm_thrown.1.cls M_Mm_thrown.1 M_Mm_thrown.1 ∈ z_gw := z_mj7 (i := 179) rfl (by decide +kernel)
theorem d_Lw_law_1495 : decode code 1495 = .ok (.iload 6, 2) := zo_21 (d := 6) (zd_b zq_code_46 23 rfl rfl rfl) (zd_b zq_code_46 24 rfl rfl rfl)
theorem d_Lw_law_1497 : decode code 1497 = .ok (.if_icmp .eq 5, 3) := zo_159 (d := 0) (e := 5) (zd_b zq_code_46 25 rfl rfl rfl) (zd_b zq_code_46 26 rfl rfl rfl) (zd_b zq_code_46 27 rfl rfl rfl) (by decide +kernel)
theorem d_Lw_law_1502 : decode code 1502 = .ok (.iload 6, 2) := zo_21 (d := 6) (zd_b zq_code_46 30 rfl rfl rfl) (zd_b zq_code_46 31 rfl rfl rfl)
theorem d_Lw_law_1504 : decode code 1504 = .ok (.ifCond .ne 15, 3) := zo_154 (d := 0) (e := 15) (zd_b zq_code_47 0 rfl rfl rfl) (zd_b zq_code_47 1 rfl rfl rfl) (zd_b zq_code_47 2 rfl rfl rfl) (by decide +kernel)
theorem d_Lw_law_1519 : decode code 1519 = .ok (.goto 289, 3) := zo_167 (d := 1) (e := 33) (zd_b zq_code_47 15 rfl rfl rfl) (zd_b zq_code_47 16 rfl rfl rfl) (zd_b zq_code_47 17 rfl rfl rfl) (by decide +kernel)
theorem d_Lw_law_1507 : decode code 1507 = .ok (.aload_n 3, 1) := zo_45 (zd_b zq_code_47 3 rfl rfl rfl)
theorem d_Lw_law_1508 : decode code 1508 = .ok (.iconst 0, 1) := zo_3 (zd_b zq_code_47 4 rfl rfl rfl)
theorem d_Lw_law_1509 : decode code 1509 = .ok (.laload, 1) := zo_47 (zd_b zq_code_47 5 rfl rfl rfl)
theorem d_Lw_law_1510 : decode code 1510 = .ok (.iload 7, 2) := zo_21 (d := 7) (zd_b zq_code_47 6 rfl rfl rfl) (zd_b zq_code_47 7 rfl rfl rfl)
theorem d_Lw_law_1512 : decode code 1512 = .ok (.i2l, 1) := zo_133 (zd_b zq_code_47 8 rfl rfl rfl)
theorem d_Lw_law_1513 : decode code 1513 = .ok (.lcmp, 1) := zo_148 (zd_b zq_code_47 9 rfl rfl rfl)
theorem d_Lw_law_1514 : decode code 1514 = .ok (.ifCond .eq 5, 3) := zo_153 (d := 0) (e := 5) (zd_b zq_code_47 10 rfl rfl rfl) (zd_b zq_code_47 11 rfl rfl rfl) (zd_b zq_code_47 12 rfl rfl rfl) (by decide +kernel)
set_option maxHeartbeats 4000000 in
set_option maxRecDepth 100000 in
theorem LC_alloy {g : zG} {ad : Nat → Nat} {t : zTT} {u : zNN} {w : zW} {j : Nat} (hI : IVm g ad t u w) (hR : REL t u.1 (48 * j)) {r : Nat} (hJ : 7 * j + 7 ≤ g.2.2 41) (hL : g.2.2 41 ≤ 3584) (ih : LWI g ad j r) : DW g M_Lw_law lwQ w 1466 [(5, .int (nI (7 * j))), (4, .ref (ad 70)), (3, .ref (ad 69)), (2, .ref (ad 52)), (1, .ref (ad 0)), (0, .ref (g.2.2 40))] [] (100 * (r + 1)) (1000 * (r + 1)) := by
  have hI0 := hI
  refine y_base (cs := []) (z_I.nil w) ?_
  refine y_aload_n d_Lw_law_1466 rfl 4 rfl ?_
  refine y_aload_n d_Lw_law_1467 rfl 5 rfl ?_
  refine y_iload d_Lw_law_1468 0 rfl ?_
  refine y_iconst d_Lw_law_1470 (v := 1) (by decide) ?_
  refine y_iadd d_Lw_law_1471 (v := nI ((7 * j) + 1)) (nI_add _ _) ?_
  refine y_sld (v := zs g (7 * j + 1)) d_Lw_law_1472 (vp_in_nI (by omega) (by omega)) (by rw [nI_clamp (by omega)]; rfl) ?_
  refine y_aload_n d_Lw_law_1473 rfl 2 rfl ?_
  refine yw_callSX (As := [.ref (ad 0), .int (zs g (7 * j + 1)), .ref (ad 69)]) (rest := []) ln_Lw_298 w_st_Lw_alloy ok_Lw_law_Lw_alloy d_Lw_law_1474 (fun wA hA => WE_alloy (IVm.nil hA hI) (zs g (7 * j + 1))) rfl rfl (Nat.le_of_ble_eq_true rfl) (by omega) (by omega) (fun wA1474 hA1474 E wB1474 hx => ?_) (fun wA1474 hA1474 v wB1474 hx => ?_)
  · obtain ⟨e0, -⟩ := hx
    cases e0
  · obtain ⟨e0, uC, vo, huC, hI2, hvo⟩ := hx
    cases e0
    refine yw_st (st2 := [.int ((vK_Ip_alloy ad (zs g (7 * j + 1)) t u.1).1)]) rfl ?_
    have hI := hI2
    refine y_base (cs := []) (z_I.nil _) ?_
    refine y_istore (lv' := [(6, .int ((vK_Ip_alloy ad (zs g (7 * j + 1)) t u.1).1)), (5, .int (nI (7 * j))), (4, .ref (ad 70)), (3, .ref (ad 69)), (2, .ref (ad 52)), (1, .ref (ad 0)), (0, .ref (g.2.2 40))]) d_Lw_law_1477 (by decide) rfl ?_
    refine y_aload_n d_Lw_law_1479 rfl 4 rfl ?_
    refine y_aload_n d_Lw_law_1480 rfl 6 rfl ?_
    refine y_iload d_Lw_law_1481 1 rfl ?_
    refine y_iconst d_Lw_law_1483 (v := 1) (by decide) ?_
    refine y_iadd d_Lw_law_1484 (v := nI ((7 * j) + 1)) (nI_add _ _) ?_
    refine y_sld (v := zs g (7 * j + 1)) d_Lw_law_1485 (vp_in_nI (by omega) (by omega)) (by rw [nI_clamp (by omega)]; rfl) ?_
    refine yw_callVL (As := [.int (zs g (7 * j + 1))]) (rest := []) (ci := 12) rfl (fun wA hA => (IVo.nil hA hI).m.rm) ln_Lw_300 w_im_Mm_alloy w_se_Mm_alloy ok_Lw_law_Mm_alloy d_Lw_law_1486 (fun wA hA => KE_Mm_alloy (IVo.nil hA hI) (zs g (7 * j + 1))) rfl rfl (Nat.le_of_ble_eq_true rfl) (by omega) (by omega) (fun wA1486 hA1486 E wB1486 hx => ?_) (fun wA1486 hA1486 v wB1486 hx => ?_)
    · obtain ⟨e0, -⟩ := hx
      cases e0
    · obtain ⟨e0, hT, uM, huM, hI2⟩ := hx
      cases e0
      refine yw_st (st2 := [.int ((vK_Mm_alloy ad (zs g (7 * j + 1)) t uC.1).2)]) rfl ?_
      have hI := hI2
      refine y_base (cs := []) (z_I.nil _) ?_
      refine y_istore (lv' := [(7, .int ((vK_Mm_alloy ad (zs g (7 * j + 1)) t uC.1).2)), (6, .int ((vK_Ip_alloy ad (zs g (7 * j + 1)) t u.1).1)), (5, .int (nI (7 * j))), (4, .ref (ad 70)), (3, .ref (ad 69)), (2, .ref (ad 52)), (1, .ref (ad 0)), (0, .ref (g.2.2 40))]) d_Lw_law_1489 (by decide) rfl ?_
      refine y_aload_n d_Lw_law_1491 rfl 5 rfl ?_
      refine yw_callVL (As := []) (rest := []) (ci := 12) rfl (fun wA hA => (IVo.nil hA hI).m.rm) ln_Lw_301 w_im_Mm_thrown w_se_Mm_thrown ok_Lw_law_Mm_thrown d_Lw_law_1492 (fun wA hA => (IVo.nil hA hI).th (TH.nil hA hT)) rfl rfl (Nat.le_of_ble_eq_true rfl) (by omega) (by omega) (fun wA1492 hA1492 E wB1492 hx => ?_) (fun wA1492 hA1492 v wB1492 hx => ?_)
      · exact absurd hx.1 (by simp)
      · obtain ⟨e1, e2⟩ := hx
        cases e1
        refine yw_st (st2 := [.int ((vK_Mm_alloy ad (zs g (7 * j + 1)) t uC.1).1)]) rfl ?_
        subst e2
        obtain ⟨s9, hv9, hI⟩ := IVo.nil hA1492 hI
        obtain ⟨e_o1, wf_o1, k_o1⟩ := hI.1.2 69 (by decide)
        obtain rfl := kd_69.mp k_o1
        refine y_base (cs := [((ad 69), .inl (3, 1, .inr (.inl (((mg t s9).1 69).2.1))))]) (hI.1.I [69] _ rfl (by decide) (by decide) (List.forall_mem_cons.mpr ⟨wf_o1, (fun _ h => nomatch h)⟩)) ?_
        refine y_iload d_Lw_law_1495 1 rfl ?_
        refine y_icmp_eq (tgt := 1502) d_Lw_law_1497 (by decide) (fun c_1497 => ?_) (fun c_1497 => ?_)
        · refine y_iload d_Lw_law_1502 1 rfl ?_
          refine y_if_ne (tgt := 1519) d_Lw_law_1504 (by decide) (fun c_1504 => ?_) (fun c_1504 => ?_)
          · refine y_goto (tgt := 1808) d_Lw_law_1519 (by decide) ?_
            refine y_lv (lv' := [(5, .int (nI (7 * j))), (4, .ref (ad 70)), (3, .ref (ad 69)), (2, .ref (ad 52)), (1, .ref (ad 0)), (0, .ref (g.2.2 40))]) [2, 3, 4, 5, 6, 7] rfl ?_
            refine y_end (fun wC hC => ?_)
            exact LC_next ⟨_, (hI.gen (t2 := (mg t s9)) (is := [69]) (L2 := []) hC rfl ⟨kd_69.mpr rfl, trivial⟩ (by decide) (by decide) (fun _ h => nomatch h) (fun _ h => nomatch h) (fun _ _ _ => rfl) (fun h => h) rfl)⟩ ((hR.n (huM.trans huC)).up (by omega)) hJ hL ih (by omega) (by omega)
          · refine y_aload_n d_Lw_law_1507 rfl 4 rfl ?_
            refine y_iconst d_Lw_law_1508 (v := 0) (by decide) ?_
            refine y_lald d_Lw_law_1509 (q0 := 0) rfl (fun q => q.elim (by decide) (by decide)) (v := (((mg t s9).1 69).2.1) 0) rfl ?_
            refine y_iload d_Lw_law_1510 0 rfl ?_
            refine y_i2l d_Lw_law_1512 (v := ((vK_Mm_alloy ad (zs g (7 * j + 1)) t uC.1).2).toInt64) rfl ?_
            refine y_lcmp d_Lw_law_1513 (v := 0) (by rw [show (((mg t s9).1 69).2.1) 0 = _ from hv9.trans (hvo c_1504)]; exact zl_cmp ((V_alloy (ad := ad) (zs g (7 * j + 1)) hR huC).2 c_1504)) ?_
            refine y_if_eq (tgt := 1519) d_Lw_law_1514 (by decide) (fun c_1514 => ?_) (fun c_1514 => ?_)
            · refine y_goto (tgt := 1808) d_Lw_law_1519 (by decide) ?_
              refine y_lv (lv' := [(5, .int (nI (7 * j))), (4, .ref (ad 70)), (3, .ref (ad 69)), (2, .ref (ad 52)), (1, .ref (ad 0)), (0, .ref (g.2.2 40))]) [2, 3, 4, 5, 6, 7] rfl ?_
              refine y_end (fun wC hC => ?_)
              exact LC_next ⟨_, (hI.gen (t2 := (mg t s9)) (is := [69]) (L2 := []) hC rfl ⟨kd_69.mpr rfl, trivial⟩ (by decide) (by decide) (fun _ h => nomatch h) (fun _ h => nomatch h) (fun _ _ _ => rfl) (fun h => h) rfl)⟩ ((hR.n (huM.trans huC)).up (by omega)) hJ hL ih (by omega) (by omega)
            · exact absurd c_1514 (by decide)
        · exact absurd (V_alloy (ad := ad) (zs g (7 * j + 1)) hR huC).1.symm c_1497
theorem d_Lw_law_1748 : decode code 1748 = .ok (.aload_n 1, 1) := zo_43 (zd_b zq_code_54 20 rfl rfl rfl)
theorem d_Lw_law_1749 : decode code 1749 = .ok (.invokevirtual 329, 3) := zo_182 (d := 1) (e := 73) (zd_b zq_code_54 21 rfl rfl rfl) (zd_b zq_code_54 22 rfl rfl rfl) (zd_b zq_code_54 23 rfl rfl rfl)
theorem ok_Lw_law_Ip_delivered : z_ok M_Lw_law M_Ip_delivered 0 := ⟨z_mj2 (i := 176) rfl (by decide +kernel), rfl, ⟨by decide +kernel, by decide +kernel, by decide +kernel⟩, ⟨by decide, by decide⟩, z_mj1 (i := 1) rfl (by decide +kernel), rfl⟩
theorem ln_Lw_329 : Cond.methodLink "IronpourLaw" 329 M_Ip_delivered.1 ∈ z_gw := z_mj2 (i := 173) rfl (by decide +kernel)
theorem d_Lw_law_1752 : decode code 1752 = .ok (.pop2, 1) := zo_88 (zd_b zq_code_54 24 rfl rfl rfl)
theorem d_Lw_law_1753 : decode code 1753 = .ok (.aload_n 2, 1) := zo_44 (zd_b zq_code_54 25 rfl rfl rfl)
theorem d_Lw_law_1754 : decode code 1754 = .ok (.invokevirtual 333, 3) := zo_182 (d := 1) (e := 77) (zd_b zq_code_54 26 rfl rfl rfl) (zd_b zq_code_54 27 rfl rfl rfl) (zd_b zq_code_54 28 rfl rfl rfl)
theorem ok_Lw_law_Mm_delivered : z_ok M_Lw_law M_Mm_delivered 0 := ⟨z_mj9 (i := 67) rfl (by decide +kernel), rfl, ⟨by decide +kernel, by decide +kernel, by decide +kernel⟩, ⟨by decide, by decide⟩, z_mj1 (i := 14) rfl (by decide +kernel), rfl⟩
theorem ln_Lw_333 : Cond.methodLink "IronpourLaw" 333 M_Mm_delivered.1 ∈ z_gw := z_mj9 (i := 64) rfl (by decide +kernel)
theorem w_im_Mm_delivered : Cond.instanceMethod M_Mm_delivered.1 ∈ z_gw := z_mj9 (i := 65) rfl (by decide +kernel)
theorem w_se_Mm_delivered : Cond.selects M_Mm_delivered.1.cls M_Mm_delivered.1 M_Mm_delivered.1 ∈ z_gw := z_mj9 (i := 66) rfl (by decide +kernel)
theorem d_Lw_law_1757 : decode code 1757 = .ok (.pop2, 1) := zo_88 (zd_b zq_code_54 29 rfl rfl rfl)
theorem d_Lw_law_1758 : decode code 1758 = .ok (.goto 50, 3) := zo_167 (d := 0) (e := 50) (zd_b zq_code_54 30 rfl rfl rfl) (zd_b zq_code_54 31 rfl rfl rfl) (zd_b zq_code_55 0 rfl rfl rfl) (by decide +kernel)
set_option maxHeartbeats 4000000 in
set_option maxRecDepth 100000 in
theorem LC_delivered {g : zG} {ad : Nat → Nat} {t : zTT} {u : zNN} {w : zW} {j : Nat} (hI : IVm g ad t u w) (hR : REL t u.1 (48 * j)) {r : Nat} (hJ : 7 * j + 7 ≤ g.2.2 41) (hL : g.2.2 41 ≤ 3584) (ih : LWI g ad j r) : DW g M_Lw_law lwQ w 1748 [(5, .int (nI (7 * j))), (4, .ref (ad 70)), (3, .ref (ad 69)), (2, .ref (ad 52)), (1, .ref (ad 0)), (0, .ref (g.2.2 40))] [] (100 * (r + 1)) (1000 * (r + 1)) := by
  refine y_base (cs := []) (z_I.nil w) ?_
  refine y_aload_n d_Lw_law_1748 rfl 4 rfl ?_
  refine yw_callVL (As := []) (rest := []) (ci := 11) rfl (fun wA hA => (IVm.nil hA hI).ra) ln_Lw_329 w_im_Ip_delivered w_se_Ip_delivered ok_Lw_law_Ip_delivered d_Lw_law_1749 (fun wA hA => K_Ip_delivered (IVm.nil hA hI)) rfl rfl (Nat.le_of_ble_eq_true rfl) (by omega) (by omega) (fun wA1749 hA1749 E wB1749 hx => ?_) (fun wA1749 hA1749 v wB1749 hx => ?_)
  · obtain ⟨⟨v9, e1⟩, -⟩ := hx
    cases e1
  · obtain ⟨⟨v9, e1⟩, hI2⟩ := hx
    cases e1
    refine yw_st (st2 := [.long v9]) rfl ?_
    have hI := hI2
    refine y_base (cs := []) (z_I.nil _) ?_
    refine y_pop2 d_Lw_law_1752 rfl ?_
    refine y_aload_n d_Lw_law_1753 rfl 3 rfl ?_
    refine yw_callVL (As := []) (rest := []) (ci := 12) rfl (fun wA hA => (IVm.nil hA hI).rm) ln_Lw_333 w_im_Mm_delivered w_se_Mm_delivered ok_Lw_law_Mm_delivered d_Lw_law_1754 (fun wA hA => K_Mm_delivered (IVm.nil hA hI)) rfl rfl (Nat.le_of_ble_eq_true rfl) (by omega) (by omega) (fun wA1754 hA1754 E wB1754 hx => ?_) (fun wA1754 hA1754 v wB1754 hx => ?_)
    · obtain ⟨⟨v9, e1⟩, -⟩ := hx
      cases e1
    · obtain ⟨⟨v8, e1⟩, hI2⟩ := hx
      cases e1
      refine yw_st (st2 := [.long v8]) rfl ?_
      have hI := hI2
      refine y_base (cs := []) (z_I.nil _) ?_
      refine y_pop2 d_Lw_law_1757 rfl ?_
      refine y_goto (tgt := 1808) d_Lw_law_1758 (by decide) ?_
      refine y_lv (lv' := [(5, .int (nI (7 * j))), (4, .ref (ad 70)), (3, .ref (ad 69)), (2, .ref (ad 52)), (1, .ref (ad 0)), (0, .ref (g.2.2 40))]) [0, 1, 2, 3, 4, 5] rfl ?_
      refine y_end (fun wC hC => ?_)
      exact LC_next (IVm.nil hC hI) (hR.up (by omega)) hJ hL ih (by omega) (by omega)
theorem d_Lw_law_1761 : decode code 1761 = .ok (.aload_n 1, 1) := zo_43 (zd_b zq_code_55 1 rfl rfl rfl)
theorem d_Lw_law_1762 : decode code 1762 = .ok (.aload 4, 2) := zo_25 (d := 4) (zd_b zq_code_55 2 rfl rfl rfl) (zd_b zq_code_55 3 rfl rfl rfl)
theorem d_Lw_law_1764 : decode code 1764 = .ok (.invokestatic 334, 3) := zo_184 (d := 1) (e := 78) (zd_b zq_code_55 4 rfl rfl rfl) (zd_b zq_code_55 5 rfl rfl rfl) (zd_b zq_code_55 6 rfl rfl rfl)
theorem ok_Lw_law_Lw_goodShare : z_okX M_Lw_law M_Lw_goodShare 2 := ⟨z_mj7 (i := 44) rfl (by decide +kernel), by decide, ⟨by decide +kernel, by decide +kernel, by decide +kernel⟩, ⟨by decide, by decide⟩, z_mj1 (i := 0) rfl (by decide +kernel), rfl⟩
theorem ln_Lw_334 : Cond.methodLink "IronpourLaw" 334 M_Lw_goodShare.1 ∈ z_gw := z_mj7 (i := 42) rfl (by decide +kernel)
theorem w_st_Lw_goodShare : Cond.static M_Lw_goodShare.1 ∈ z_gw := z_mj7 (i := 43) rfl (by decide +kernel)
theorem d_Lw_law_1767 : decode code 1767 = .ok (.istore 6, 2) := zo_54 (d := 6) (zd_b zq_code_55 7 rfl rfl rfl) (zd_b zq_code_55 8 rfl rfl rfl)
theorem d_Lw_law_1769 : decode code 1769 = .ok (.aload_n 2, 1) := zo_44 (zd_b zq_code_55 9 rfl rfl rfl)
theorem d_Lw_law_1770 : decode code 1770 = .ok (.invokevirtual 337, 3) := zo_182 (d := 1) (e := 81) (zd_b zq_code_55 10 rfl rfl rfl) (zd_b zq_code_55 11 rfl rfl rfl) (zd_b zq_code_55 12 rfl rfl rfl)
theorem ok_Lw_law_Mm_goodShare : z_ok M_Lw_law M_Mm_goodShare 0 := ⟨z_mj9 (i := 71) rfl (by decide +kernel), rfl, ⟨by decide +kernel, by decide +kernel, by decide +kernel⟩, ⟨by decide, by decide⟩, z_mj1 (i := 14) rfl (by decide +kernel), rfl⟩
theorem ln_Lw_337 : Cond.methodLink "IronpourLaw" 337 M_Mm_goodShare.1 ∈ z_gw := z_mj9 (i := 68) rfl (by decide +kernel)
theorem w_im_Mm_goodShare : Cond.instanceMethod M_Mm_goodShare.1 ∈ z_gw := z_mj9 (i := 69) rfl (by decide +kernel)
theorem w_se_Mm_goodShare : Cond.selects M_Mm_goodShare.1.cls M_Mm_goodShare.1 M_Mm_goodShare.1 ∈ z_gw := z_mj9 (i := 70) rfl (by decide +kernel)
theorem d_Lw_law_1773 : decode code 1773 = .ok (.fstore 7, 2) := zo_56 (d := 7) (zd_b zq_code_55 13 rfl rfl rfl) (zd_b zq_code_55 14 rfl rfl rfl)
theorem d_Lw_law_1775 : decode code 1775 = .ok (.goto 33, 3) := zo_167 (d := 0) (e := 33) (zd_b zq_code_55 15 rfl rfl rfl) (zd_b zq_code_55 16 rfl rfl rfl) (zd_b zq_code_55 17 rfl rfl rfl) (by decide +kernel)
set_option maxHeartbeats 4000000 in
set_option maxRecDepth 100000 in
theorem LC_goodShare {g : zG} {ad : Nat → Nat} {t : zTT} {u : zNN} {w : zW} {j : Nat} (hI : IVm g ad t u w) (hR : REL t u.1 (48 * j)) {r : Nat} (hJ : 7 * j + 7 ≤ g.2.2 41) (hL : g.2.2 41 ≤ 3584) (ih : LWI g ad j r) : DW g M_Lw_law lwQ w 1761 [(5, .int (nI (7 * j))), (4, .ref (ad 70)), (3, .ref (ad 69)), (2, .ref (ad 52)), (1, .ref (ad 0)), (0, .ref (g.2.2 40))] [] (100 * (r + 1)) (1000 * (r + 1)) := by
  refine y_base (cs := []) (z_I.nil w) ?_
  refine y_aload_n d_Lw_law_1761 rfl 4 rfl ?_
  refine y_aload d_Lw_law_1762 1 rfl ?_
  refine yw_callSX (As := [.ref (ad 0), .ref (ad 70)]) (rest := []) ln_Lw_334 w_st_Lw_goodShare ok_Lw_law_Lw_goodShare d_Lw_law_1764 (fun wA hA => W_goodShare (IVm.nil hA hI)) rfl rfl (Nat.le_of_ble_eq_true rfl) (by omega) (by omega) (fun wA1764 hA1764 E wB1764 hx => ?_) (fun wA1764 hA1764 v wB1764 hx => ?_)
  · obtain ⟨⟨v9, e1⟩, -⟩ := hx
    cases e1
  · obtain ⟨⟨v9, e1⟩, hI2⟩ := hx
    cases e1
    refine yw_st (st2 := [.int v9]) rfl ?_
    have hI := hI2
    refine y_base (cs := []) (z_I.nil _) ?_
    refine y_istore (lv' := [(6, .int v9), (5, .int (nI (7 * j))), (4, .ref (ad 70)), (3, .ref (ad 69)), (2, .ref (ad 52)), (1, .ref (ad 0)), (0, .ref (g.2.2 40))]) d_Lw_law_1767 (by decide) rfl ?_
    refine y_aload_n d_Lw_law_1769 rfl 4 rfl ?_
    refine yw_callVL (As := []) (rest := []) (ci := 12) rfl (fun wA hA => (IVm.nil hA hI).rm) ln_Lw_337 w_im_Mm_goodShare w_se_Mm_goodShare ok_Lw_law_Mm_goodShare d_Lw_law_1770 (fun wA hA => K_Mm_goodShare (IVm.nil hA hI)) rfl rfl (Nat.le_of_ble_eq_true rfl) (by omega) (by omega) (fun wA1770 hA1770 E wB1770 hx => ?_) (fun wA1770 hA1770 v wB1770 hx => ?_)
    · obtain ⟨⟨v9, e1⟩, -⟩ := hx
      cases e1
    · obtain ⟨⟨v8, e1⟩, hI2⟩ := hx
      cases e1
      refine yw_st (st2 := [.float v8]) rfl ?_
      have hI := hI2
      refine y_base (cs := []) (z_I.nil _) ?_
      refine y_fstore (lv' := [(7, .float v8), (6, .int v9), (5, .int (nI (7 * j))), (4, .ref (ad 70)), (3, .ref (ad 69)), (2, .ref (ad 52)), (1, .ref (ad 0)), (0, .ref (g.2.2 40))]) d_Lw_law_1773 (by decide) rfl ?_
      refine y_goto (tgt := 1808) d_Lw_law_1775 (by decide) ?_
      refine y_lv (lv' := [(5, .int (nI (7 * j))), (4, .ref (ad 70)), (3, .ref (ad 69)), (2, .ref (ad 52)), (1, .ref (ad 0)), (0, .ref (g.2.2 40))]) [2, 3, 4, 5, 6, 7] rfl ?_
      refine y_end (fun wC hC => ?_)
      exact LC_next (IVm.nil hC hI) (hR.up (by omega)) hJ hL ih (by omega) (by omega)
theorem d_Lw_law_1778 : decode code 1778 = .ok (.aload_n 1, 1) := zo_43 (zd_b zq_code_55 18 rfl rfl rfl)
theorem d_Lw_law_1779 : decode code 1779 = .ok (.aload 4, 2) := zo_25 (d := 4) (zd_b zq_code_55 19 rfl rfl rfl) (zd_b zq_code_55 20 rfl rfl rfl)
theorem d_Lw_law_1781 : decode code 1781 = .ok (.invokestatic 338, 3) := zo_184 (d := 1) (e := 82) (zd_b zq_code_55 21 rfl rfl rfl) (zd_b zq_code_55 22 rfl rfl rfl) (zd_b zq_code_55 23 rfl rfl rfl)
theorem ok_Lw_law_Lw_meanBar : z_okX M_Lw_law M_Lw_meanBar 2 := ⟨z_mj7 (i := 69) rfl (by decide +kernel), by decide, ⟨by decide +kernel, by decide +kernel, by decide +kernel⟩, ⟨by decide, by decide⟩, z_mj1 (i := 0) rfl (by decide +kernel), rfl⟩
theorem ln_Lw_338 : Cond.methodLink "IronpourLaw" 338 M_Lw_meanBar.1 ∈ z_gw := z_mj7 (i := 67) rfl (by decide +kernel)
theorem w_st_Lw_meanBar : Cond.static M_Lw_meanBar.1 ∈ z_gw := z_mj7 (i := 68) rfl (by decide +kernel)
theorem d_Lw_law_1784 : decode code 1784 = .ok (.istore 6, 2) := zo_54 (d := 6) (zd_b zq_code_55 24 rfl rfl rfl) (zd_b zq_code_55 25 rfl rfl rfl)
theorem d_Lw_law_1786 : decode code 1786 = .ok (.aload_n 2, 1) := zo_44 (zd_b zq_code_55 26 rfl rfl rfl)
theorem d_Lw_law_1787 : decode code 1787 = .ok (.invokevirtual 340, 3) := zo_182 (d := 1) (e := 84) (zd_b zq_code_55 27 rfl rfl rfl) (zd_b zq_code_55 28 rfl rfl rfl) (zd_b zq_code_55 29 rfl rfl rfl)
theorem ok_Lw_law_Mm_meanBar : z_ok M_Lw_law M_Mm_meanBar 0 := ⟨z_mj9 (i := 75) rfl (by decide +kernel), rfl, ⟨by decide +kernel, by decide +kernel, by decide +kernel⟩, ⟨by decide, by decide⟩, z_mj1 (i := 14) rfl (by decide +kernel), rfl⟩
theorem ln_Lw_340 : Cond.methodLink "IronpourLaw" 340 M_Mm_meanBar.1 ∈ z_gw := z_mj9 (i := 72) rfl (by decide +kernel)
theorem w_im_Mm_meanBar : Cond.instanceMethod M_Mm_meanBar.1 ∈ z_gw := z_mj9 (i := 73) rfl (by decide +kernel)
theorem w_se_Mm_meanBar : Cond.selects M_Mm_meanBar.1.cls M_Mm_meanBar.1 M_Mm_meanBar.1 ∈ z_gw := z_mj9 (i := 74) rfl (by decide +kernel)
theorem d_Lw_law_1790 : decode code 1790 = .ok (.dstore 7, 2) := zo_57 (d := 7) (zd_b zq_code_55 30 rfl rfl rfl) (zd_b zq_code_55 31 rfl rfl rfl)
theorem d_Lw_law_1792 : decode code 1792 = .ok (.goto 16, 3) := zo_167 (d := 0) (e := 16) (zd_b zq_code_56 0 rfl rfl rfl) (zd_b zq_code_56 1 rfl rfl rfl) (zd_b zq_code_56 2 rfl rfl rfl) (by decide +kernel)
set_option maxHeartbeats 4000000 in
set_option maxRecDepth 100000 in
theorem LC_meanBar {g : zG} {ad : Nat → Nat} {t : zTT} {u : zNN} {w : zW} {j : Nat} (hI : IVm g ad t u w) (hR : REL t u.1 (48 * j)) {r : Nat} (hJ : 7 * j + 7 ≤ g.2.2 41) (hL : g.2.2 41 ≤ 3584) (ih : LWI g ad j r) : DW g M_Lw_law lwQ w 1778 [(5, .int (nI (7 * j))), (4, .ref (ad 70)), (3, .ref (ad 69)), (2, .ref (ad 52)), (1, .ref (ad 0)), (0, .ref (g.2.2 40))] [] (100 * (r + 1)) (1000 * (r + 1)) := by
  refine y_base (cs := []) (z_I.nil w) ?_
  refine y_aload_n d_Lw_law_1778 rfl 4 rfl ?_
  refine y_aload d_Lw_law_1779 1 rfl ?_
  refine yw_callSX (As := [.ref (ad 0), .ref (ad 70)]) (rest := []) ln_Lw_338 w_st_Lw_meanBar ok_Lw_law_Lw_meanBar d_Lw_law_1781 (fun wA hA => W_meanBar (IVm.nil hA hI)) rfl rfl (Nat.le_of_ble_eq_true rfl) (by omega) (by omega) (fun wA1781 hA1781 E wB1781 hx => ?_) (fun wA1781 hA1781 v wB1781 hx => ?_)
  · obtain ⟨⟨v9, e1⟩, -⟩ := hx
    cases e1
  · obtain ⟨⟨v9, e1⟩, hI2⟩ := hx
    cases e1
    refine yw_st (st2 := [.int v9]) rfl ?_
    have hI := hI2
    refine y_base (cs := []) (z_I.nil _) ?_
    refine y_istore (lv' := [(6, .int v9), (5, .int (nI (7 * j))), (4, .ref (ad 70)), (3, .ref (ad 69)), (2, .ref (ad 52)), (1, .ref (ad 0)), (0, .ref (g.2.2 40))]) d_Lw_law_1784 (by decide) rfl ?_
    refine y_aload_n d_Lw_law_1786 rfl 4 rfl ?_
    refine yw_callVL (As := []) (rest := []) (ci := 12) rfl (fun wA hA => (IVm.nil hA hI).rm) ln_Lw_340 w_im_Mm_meanBar w_se_Mm_meanBar ok_Lw_law_Mm_meanBar d_Lw_law_1787 (fun wA hA => K_Mm_meanBar (IVm.nil hA hI)) rfl rfl (Nat.le_of_ble_eq_true rfl) (by omega) (by omega) (fun wA1787 hA1787 E wB1787 hx => ?_) (fun wA1787 hA1787 v wB1787 hx => ?_)
    · obtain ⟨⟨v9, e1⟩, -⟩ := hx
      cases e1
    · obtain ⟨⟨v8, e1⟩, hI2⟩ := hx
      cases e1
      refine yw_st (st2 := [.double v8]) rfl ?_
      have hI := hI2
      refine y_base (cs := []) (z_I.nil _) ?_
      refine y_dstore (lv' := [(7, .double v8), (6, .int v9), (5, .int (nI (7 * j))), (4, .ref (ad 70)), (3, .ref (ad 69)), (2, .ref (ad 52)), (1, .ref (ad 0)), (0, .ref (g.2.2 40))]) d_Lw_law_1790 (by decide) rfl ?_
      refine y_goto (tgt := 1808) d_Lw_law_1792 (by decide) ?_
      refine y_lv (lv' := [(5, .int (nI (7 * j))), (4, .ref (ad 70)), (3, .ref (ad 69)), (2, .ref (ad 52)), (1, .ref (ad 0)), (0, .ref (g.2.2 40))]) [2, 3, 4, 5, 6, 7] rfl ?_
      refine y_end (fun wC hC => ?_)
      exact LC_next (IVm.nil hC hI) (hR.up (by omega)) hJ hL ih (by omega) (by omega)
