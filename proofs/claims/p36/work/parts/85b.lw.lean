theorem y_pop2 {g : zG} {M : zM} {Ψ : zO → zW → Prop} {w0 : zW} {n pc : Nat} {lv : List (Nat × Value)} {st : List Value} {cs : zC} {kc ks : Nat} {v : Value} (hd : decode M.2.1 pc = .ok (.pop2, 1)) (hv : v.category = 2) (k : DU g M Ψ w0 n (pc + 1) lv st cs kc ks) : DU g M Ψ w0 n pc lv (v :: st) cs kc ks := fun w p l e R s m args below meth c A mc ms H locs cells slots ls ws I C T => lv_pop2_2 C.1.1 C.1.2.1 hd hv (k w p l e R s m args below meth c A mc ms H locs cells slots ls ws I C T)
def zs (g : zG) (k : Nat) : Int32 := Int32.ofNat (g.2.2 (100 + k))
def zc (g : zG) (k : Nat) : Int32 := ((zs g k).toUInt32 % 65536).toInt32
def lwQ : zO → zW → Prop := fun o _ => o = .inl (some (.int 1))
theorem z_shL {L : Nat} (h : L < 7) : nI L - 7 < (0 : Int32) := by
  have h9 : L = 0 ∨ L = 1 ∨ L = 2 ∨ L = 3 ∨ L = 4 ∨ L = 5 ∨ L = 6 := by omega
  rcases h9 with rfl | rfl | rfl | rfl | rfl | rfl | rfl <;> decide
theorem z_shl {L k : Nat} (h : ¬ k + 7 ≤ L) (hL : L < 2 ^ 31) (hk : k < 2 ^ 31) : nI L - 7 < nI k := by
  by_cases h7 : L < 7
  · exact Int32.lt_of_lt_of_le (z_shL h7) (Int32.not_lt.mp (nI_nneg hk))
  · rw [show nI L - 7 = nI (L - 7) from pk_sub (a := L) (b := 7) (by omega)]
    exact (nI_ltI (by omega) hk).mpr (by omega)
abbrev M_Lw_law : zM := (⟨"IronpourLaw", "law", "([I)Z"⟩, code, 9, (Option.some FieldType.boolean), 11, 274, [])
theorem d_Lw_law_1808 : decode code 1808 = .ok (.iinc 5 7, 3) := by decide +kernel
theorem d_Lw_law_1811 : decode code 1811 = .ok (.goto (-1783), 3) := zo_167 (d := 249) (e := 9) (zd_b zq_code_56 19 rfl rfl rfl) (zd_b zq_code_56 20 rfl rfl rfl) (zd_b zq_code_56 21 rfl rfl rfl) (by decide +kernel)
def LWI (g : zG) (ad : Nat → Nat) (j r : Nat) : Prop := ∀ (t : zTT) (u : zNN) (w : zW), IVm g ad t u w → REL t u.1 (48 * (j + 1)) → DW g M_Lw_law lwQ w 28 [(5, .int (nI (7 * (j + 1)))), (4, .ref (ad 70)), (3, .ref (ad 69)), (2, .ref (ad 52)), (1, .ref (ad 0)), (0, .ref (g.2.2 40))] [] (100 * r) (1000 * r)
set_option maxHeartbeats 4000000 in
set_option maxRecDepth 100000 in
theorem LC_next {g : zG} {ad : Nat → Nat} {t : zTT} {u : zNN} {w : zW} {j : Nat} (hI : IVm g ad t u w) (hR : REL t u.1 (48 * (j + 1))) {r : Nat} (hJ : 7 * j + 7 ≤ g.2.2 41) (hL : g.2.2 41 ≤ 3584) (ih : LWI g ad j r) {kc ks : Nat} (h1 : 100 * r ≤ kc) (h2 : 1000 * r ≤ ks) : DW g M_Lw_law lwQ w 1808 [(5, .int (nI (7 * j))), (4, .ref (ad 70)), (3, .ref (ad 69)), (2, .ref (ad 52)), (1, .ref (ad 0)), (0, .ref (g.2.2 40))] [] kc ks := by
  refine y_base (cs := []) (z_I.nil w) ?_
  refine y_iinc (lv' := [(5, .int (nI ((7 * j) + 7))), (4, .ref (ad 70)), (3, .ref (ad 69)), (2, .ref (ad 52)), (1, .ref (ad 0)), (0, .ref (g.2.2 40))]) (v := nI ((7 * j) + 7)) d_Lw_law_1808 (j := 0) rfl (nI_add _ _) (by decide) rfl ?_
  refine y_goto (tgt := 28) d_Lw_law_1811 (by decide) ?_
  refine y_lv (lv' := [(5, .int (nI ((7 * j) + 7))), (4, .ref (ad 70)), (3, .ref (ad 69)), (2, .ref (ad 52)), (1, .ref (ad 0)), (0, .ref (g.2.2 40))]) [0, 1, 2, 3, 4, 5] rfl ?_
  refine y_end (fun wC hC => ?_)
  exact yw_bud h1 h2 (ih _ _ _ (IVm.nil hC hI) hR)
theorem d_Lw_law_1409 : decode code 1409 = .ok (.aload_n 1, 1) := zo_43 (zd_b zq_code_44 1 rfl rfl rfl)
theorem d_Lw_law_1410 : decode code 1410 = .ok (.aload_n 0, 1) := zo_42 (zd_b zq_code_44 2 rfl rfl rfl)
theorem d_Lw_law_1411 : decode code 1411 = .ok (.iload 5, 2) := zo_21 (d := 5) (zd_b zq_code_44 3 rfl rfl rfl) (zd_b zq_code_44 4 rfl rfl rfl)
theorem d_Lw_law_1413 : decode code 1413 = .ok (.iconst 1, 1) := zo_4 (zd_b zq_code_44 5 rfl rfl rfl)
theorem d_Lw_law_1414 : decode code 1414 = .ok (.iadd, 1) := zo_96 (zd_b zq_code_44 6 rfl rfl rfl)
theorem d_Lw_law_1415 : decode code 1415 = .ok (.iaload, 1) := zo_46 (zd_b zq_code_44 7 rfl rfl rfl)
theorem d_Lw_law_1416 : decode code 1416 = .ok (.aload_n 3, 1) := zo_45 (zd_b zq_code_44 8 rfl rfl rfl)
theorem d_Lw_law_1417 : decode code 1417 = .ok (.invokestatic 288, 3) := zo_184 (d := 1) (e := 32) (zd_b zq_code_44 9 rfl rfl rfl) (zd_b zq_code_44 10 rfl rfl rfl) (zd_b zq_code_44 11 rfl rfl rfl)
theorem ok_Lw_law_Lw_waiting : z_okX M_Lw_law M_Lw_waiting 3 := ⟨z_mj6 (i := 99) rfl (by decide +kernel), by decide, ⟨by decide +kernel, by decide +kernel, by decide +kernel⟩, ⟨by decide, by decide⟩, z_mj1 (i := 0) rfl (by decide +kernel), rfl⟩
theorem ln_Lw_288 : Cond.methodLink "IronpourLaw" 288 M_Lw_waiting.1 ∈ z_gw := z_mj6 (i := 97) rfl (by decide +kernel)
theorem w_st_Lw_waiting : Cond.static M_Lw_waiting.1 ∈ z_gw := z_mj6 (i := 98) rfl (by decide +kernel)
theorem d_Lw_law_1420 : decode code 1420 = .ok (.istore 6, 2) := zo_54 (d := 6) (zd_b zq_code_44 12 rfl rfl rfl) (zd_b zq_code_44 13 rfl rfl rfl)
theorem d_Lw_law_1422 : decode code 1422 = .ok (.aload_n 2, 1) := zo_44 (zd_b zq_code_44 14 rfl rfl rfl)
theorem d_Lw_law_1423 : decode code 1423 = .ok (.aload_n 0, 1) := zo_42 (zd_b zq_code_44 15 rfl rfl rfl)
theorem d_Lw_law_1424 : decode code 1424 = .ok (.iload 5, 2) := zo_21 (d := 5) (zd_b zq_code_44 16 rfl rfl rfl) (zd_b zq_code_44 17 rfl rfl rfl)
theorem d_Lw_law_1426 : decode code 1426 = .ok (.iconst 1, 1) := zo_4 (zd_b zq_code_44 18 rfl rfl rfl)
theorem d_Lw_law_1427 : decode code 1427 = .ok (.iadd, 1) := zo_96 (zd_b zq_code_44 19 rfl rfl rfl)
theorem d_Lw_law_1428 : decode code 1428 = .ok (.iaload, 1) := zo_46 (zd_b zq_code_44 20 rfl rfl rfl)
theorem d_Lw_law_1429 : decode code 1429 = .ok (.invokevirtual 290, 3) := zo_182 (d := 1) (e := 34) (zd_b zq_code_44 21 rfl rfl rfl) (zd_b zq_code_44 22 rfl rfl rfl) (zd_b zq_code_44 23 rfl rfl rfl)
theorem ok_Lw_law_Mm_waiting : z_ok M_Lw_law M_Mm_waiting 1 := ⟨z_mj8 (i := 235) rfl (by decide +kernel), rfl, ⟨by decide +kernel, by decide +kernel, by decide +kernel⟩, ⟨by decide, by decide⟩, z_mj1 (i := 14) rfl (by decide +kernel), rfl⟩
theorem ln_Lw_290 : Cond.methodLink "IronpourLaw" 290 M_Mm_waiting.1 ∈ z_gw := z_mj8 (i := 232) rfl (by decide +kernel)
theorem w_im_Mm_waiting : Cond.instanceMethod M_Mm_waiting.1 ∈ z_gw := z_mj8 (i := 233) rfl (by decide +kernel)
theorem w_se_Mm_waiting : Cond.selects M_Mm_waiting.1.cls M_Mm_waiting.1 M_Mm_waiting.1 ∈ z_gw := z_mj8 (i := 234) rfl (by decide +kernel)
theorem d_Lw_law_1432 : decode code 1432 = .ok (.istore 7, 2) := zo_54 (d := 7) (zd_b zq_code_44 24 rfl rfl rfl) (zd_b zq_code_44 25 rfl rfl rfl)
theorem d_Lw_law_1434 : decode code 1434 = .ok (.aload_n 2, 1) := zo_44 (zd_b zq_code_44 26 rfl rfl rfl)
theorem d_Lw_law_1435 : decode code 1435 = .ok (.invokevirtual 291, 3) := zo_182 (d := 1) (e := 35) (zd_b zq_code_44 27 rfl rfl rfl) (zd_b zq_code_44 28 rfl rfl rfl) (zd_b zq_code_44 29 rfl rfl rfl)
theorem ok_Lw_law_Mm_thrown : z_ok M_Lw_law M_Mm_thrown 0 := ⟨z_mj7 (i := 180) rfl (by decide +kernel), rfl, ⟨by decide +kernel, by decide +kernel, by decide +kernel⟩, ⟨by decide, by decide⟩, z_mj1 (i := 14) rfl (by decide +kernel), rfl⟩
theorem ln_Lw_291 : Cond.methodLink "IronpourLaw" 291 M_Mm_thrown.1 ∈ z_gw := z_mj7 (i := 177) rfl (by decide +kernel)
theorem w_im_Mm_thrown : Cond.instanceMethod M_Mm_thrown.1 ∈ z_gw := z_mj7 (i := 178) rfl (by decide +kernel)
theorem w_se_Mm_thrown : Cond.selects M_Mm_thrown.1.cls M_Mm_thrown.1 M_Mm_thrown.1 ∈ z_gw := z_mj7 (i := 179) rfl (by decide +kernel)
theorem d_Lw_law_1438 : decode code 1438 = .ok (.iload 6, 2) := zo_21 (d := 6) (zd_b zq_code_44 30 rfl rfl rfl) (zd_b zq_code_44 31 rfl rfl rfl)
theorem d_Lw_law_1440 : decode code 1440 = .ok (.if_icmp .eq 5, 3) := zo_159 (d := 0) (e := 5) (zd_b zq_code_45 0 rfl rfl rfl) (zd_b zq_code_45 1 rfl rfl rfl) (zd_b zq_code_45 2 rfl rfl rfl) (by decide +kernel)
theorem d_Lw_law_1445 : decode code 1445 = .ok (.iload 6, 2) := zo_21 (d := 6) (zd_b zq_code_45 5 rfl rfl rfl) (zd_b zq_code_45 6 rfl rfl rfl)
theorem d_Lw_law_1447 : decode code 1447 = .ok (.ifCond .ne 15, 3) := zo_154 (d := 0) (e := 15) (zd_b zq_code_45 7 rfl rfl rfl) (zd_b zq_code_45 8 rfl rfl rfl) (zd_b zq_code_45 9 rfl rfl rfl) (by decide +kernel)
theorem d_Lw_law_1462 : decode code 1462 = .ok (.goto 346, 3) := zo_167 (d := 1) (e := 90) (zd_b zq_code_45 22 rfl rfl rfl) (zd_b zq_code_45 23 rfl rfl rfl) (zd_b zq_code_45 24 rfl rfl rfl) (by decide +kernel)
theorem d_Lw_law_1450 : decode code 1450 = .ok (.aload_n 3, 1) := zo_45 (zd_b zq_code_45 10 rfl rfl rfl)
theorem d_Lw_law_1451 : decode code 1451 = .ok (.iconst 0, 1) := zo_3 (zd_b zq_code_45 11 rfl rfl rfl)
theorem d_Lw_law_1452 : decode code 1452 = .ok (.laload, 1) := zo_47 (zd_b zq_code_45 12 rfl rfl rfl)
theorem d_Lw_law_1453 : decode code 1453 = .ok (.iload 7, 2) := zo_21 (d := 7) (zd_b zq_code_45 13 rfl rfl rfl) (zd_b zq_code_45 14 rfl rfl rfl)
theorem d_Lw_law_1455 : decode code 1455 = .ok (.i2l, 1) := zo_133 (zd_b zq_code_45 15 rfl rfl rfl)
theorem d_Lw_law_1456 : decode code 1456 = .ok (.lcmp, 1) := zo_148 (zd_b zq_code_45 16 rfl rfl rfl)
theorem d_Lw_law_1457 : decode code 1457 = .ok (.ifCond .eq 5, 3) := zo_153 (d := 0) (e := 5) (zd_b zq_code_45 17 rfl rfl rfl) (zd_b zq_code_45 18 rfl rfl rfl) (zd_b zq_code_45 19 rfl rfl rfl) (by decide +kernel)
set_option maxHeartbeats 4000000 in
set_option maxRecDepth 100000 in
theorem LC_waiting {g : zG} {ad : Nat → Nat} {t : zTT} {u : zNN} {w : zW} {j : Nat} (hI : IVm g ad t u w) (hR : REL t u.1 (48 * j)) {r : Nat} (hJ : 7 * j + 7 ≤ g.2.2 41) (hL : g.2.2 41 ≤ 3584) (ih : LWI g ad j r) : DW g M_Lw_law lwQ w 1409 [(5, .int (nI (7 * j))), (4, .ref (ad 70)), (3, .ref (ad 69)), (2, .ref (ad 52)), (1, .ref (ad 0)), (0, .ref (g.2.2 40))] [] (100 * (r + 1)) (1000 * (r + 1)) := by
  have hI0 := hI
  refine y_base (cs := []) (z_I.nil w) ?_
  refine y_aload_n d_Lw_law_1409 rfl 4 rfl ?_
  refine y_aload_n d_Lw_law_1410 rfl 5 rfl ?_
  refine y_iload d_Lw_law_1411 0 rfl ?_
  refine y_iconst d_Lw_law_1413 (v := 1) (by decide) ?_
  refine y_iadd d_Lw_law_1414 (v := nI ((7 * j) + 1)) (nI_add _ _) ?_
  refine y_sld (v := zs g (7 * j + 1)) d_Lw_law_1415 (vp_in_nI (by omega) (by omega)) (by rw [nI_clamp (by omega)]; rfl) ?_
  refine y_aload_n d_Lw_law_1416 rfl 2 rfl ?_
  refine yw_callSX (As := [.ref (ad 0), .int (zs g (7 * j + 1)), .ref (ad 69)]) (rest := []) ln_Lw_288 w_st_Lw_waiting ok_Lw_law_Lw_waiting d_Lw_law_1417 (fun wA hA => WE_waiting (IVm.nil hA hI) (zs g (7 * j + 1))) rfl rfl (Nat.le_of_ble_eq_true rfl) (by omega) (by omega) (fun wA1417 hA1417 E wB1417 hx => ?_) (fun wA1417 hA1417 v wB1417 hx => ?_)
  · obtain ⟨e0, -⟩ := hx
    cases e0
  · obtain ⟨e0, uC, vo, huC, hI2, hvo⟩ := hx
    cases e0
    refine yw_st (st2 := [.int ((vK_Ip_waiting ad (zs g (7 * j + 1)) t u.1).1)]) rfl ?_
    have hI := hI2
    refine y_base (cs := []) (z_I.nil _) ?_
    refine y_istore (lv' := [(6, .int ((vK_Ip_waiting ad (zs g (7 * j + 1)) t u.1).1)), (5, .int (nI (7 * j))), (4, .ref (ad 70)), (3, .ref (ad 69)), (2, .ref (ad 52)), (1, .ref (ad 0)), (0, .ref (g.2.2 40))]) d_Lw_law_1420 (by decide) rfl ?_
    refine y_aload_n d_Lw_law_1422 rfl 4 rfl ?_
    refine y_aload_n d_Lw_law_1423 rfl 6 rfl ?_
    refine y_iload d_Lw_law_1424 1 rfl ?_
    refine y_iconst d_Lw_law_1426 (v := 1) (by decide) ?_
    refine y_iadd d_Lw_law_1427 (v := nI ((7 * j) + 1)) (nI_add _ _) ?_
    refine y_sld (v := zs g (7 * j + 1)) d_Lw_law_1428 (vp_in_nI (by omega) (by omega)) (by rw [nI_clamp (by omega)]; rfl) ?_
    refine yw_callVL (As := [.int (zs g (7 * j + 1))]) (rest := []) (ci := 12) rfl (fun wA hA => (IVo.nil hA hI).m.rm) ln_Lw_290 w_im_Mm_waiting w_se_Mm_waiting ok_Lw_law_Mm_waiting d_Lw_law_1429 (fun wA hA => KE_Mm_waiting (IVo.nil hA hI) (zs g (7 * j + 1))) rfl rfl (Nat.le_of_ble_eq_true rfl) (by omega) (by omega) (fun wA1429 hA1429 E wB1429 hx => ?_) (fun wA1429 hA1429 v wB1429 hx => ?_)
    · obtain ⟨e0, -⟩ := hx
      cases e0
    · obtain ⟨e0, hT, uM, huM, hI2⟩ := hx
      cases e0
      refine yw_st (st2 := [.int ((vK_Mm_waiting ad (zs g (7 * j + 1)) t uC.1).2)]) rfl ?_
      have hI := hI2
      refine y_base (cs := []) (z_I.nil _) ?_
      refine y_istore (lv' := [(7, .int ((vK_Mm_waiting ad (zs g (7 * j + 1)) t uC.1).2)), (6, .int ((vK_Ip_waiting ad (zs g (7 * j + 1)) t u.1).1)), (5, .int (nI (7 * j))), (4, .ref (ad 70)), (3, .ref (ad 69)), (2, .ref (ad 52)), (1, .ref (ad 0)), (0, .ref (g.2.2 40))]) d_Lw_law_1432 (by decide) rfl ?_
      refine y_aload_n d_Lw_law_1434 rfl 5 rfl ?_
      refine yw_callVL (As := []) (rest := []) (ci := 12) rfl (fun wA hA => (IVo.nil hA hI).m.rm) ln_Lw_291 w_im_Mm_thrown w_se_Mm_thrown ok_Lw_law_Mm_thrown d_Lw_law_1435 (fun wA hA => (IVo.nil hA hI).th (TH.nil hA hT)) rfl rfl (Nat.le_of_ble_eq_true rfl) (by omega) (by omega) (fun wA1435 hA1435 E wB1435 hx => ?_) (fun wA1435 hA1435 v wB1435 hx => ?_)
      · exact absurd hx.1 (by simp)
      · obtain ⟨e1, e2⟩ := hx
        cases e1
        refine yw_st (st2 := [.int ((vK_Mm_waiting ad (zs g (7 * j + 1)) t uC.1).1)]) rfl ?_
        subst e2
        obtain ⟨s9, hv9, hI⟩ := IVo.nil hA1435 hI
        obtain ⟨e_o1, wf_o1, k_o1⟩ := hI.1.2 69 (by decide)
        obtain rfl := kd_69.mp k_o1
        refine y_base (cs := [((ad 69), .inl (3, 1, .inr (.inl (((mg t s9).1 69).2.1))))]) (hI.1.I [69] _ rfl (by decide) (by decide) (List.forall_mem_cons.mpr ⟨wf_o1, (fun _ h => nomatch h)⟩)) ?_
        refine y_iload d_Lw_law_1438 1 rfl ?_
        refine y_icmp_eq (tgt := 1445) d_Lw_law_1440 (by decide) (fun c_1440 => ?_) (fun c_1440 => ?_)
        · refine y_iload d_Lw_law_1445 1 rfl ?_
          refine y_if_ne (tgt := 1462) d_Lw_law_1447 (by decide) (fun c_1447 => ?_) (fun c_1447 => ?_)
          · refine y_goto (tgt := 1808) d_Lw_law_1462 (by decide) ?_
            refine y_lv (lv' := [(5, .int (nI (7 * j))), (4, .ref (ad 70)), (3, .ref (ad 69)), (2, .ref (ad 52)), (1, .ref (ad 0)), (0, .ref (g.2.2 40))]) [2, 3, 4, 5, 6, 7] rfl ?_
            refine y_end (fun wC hC => ?_)
            exact LC_next ⟨_, (hI.gen (t2 := (mg t s9)) (is := [69]) (L2 := []) hC rfl ⟨kd_69.mpr rfl, trivial⟩ (by decide) (by decide) (fun _ h => nomatch h) (fun _ h => nomatch h) (fun _ _ _ => rfl) (fun h => h) rfl)⟩ ((hR.n (huM.trans huC)).up (by omega)) hJ hL ih (by omega) (by omega)
          · refine y_aload_n d_Lw_law_1450 rfl 4 rfl ?_
            refine y_iconst d_Lw_law_1451 (v := 0) (by decide) ?_
            refine y_lald d_Lw_law_1452 (q0 := 0) rfl (fun q => q.elim (by decide) (by decide)) (v := (((mg t s9).1 69).2.1) 0) rfl ?_
            refine y_iload d_Lw_law_1453 0 rfl ?_
            refine y_i2l d_Lw_law_1455 (v := ((vK_Mm_waiting ad (zs g (7 * j + 1)) t uC.1).2).toInt64) rfl ?_
            refine y_lcmp d_Lw_law_1456 (v := 0) (by rw [show (((mg t s9).1 69).2.1) 0 = _ from hv9.trans (hvo c_1447)]; exact zl_cmp ((V_waiting (ad := ad) (zs g (7 * j + 1)) hR huC).2 c_1447)) ?_
            refine y_if_eq (tgt := 1462) d_Lw_law_1457 (by decide) (fun c_1457 => ?_) (fun c_1457 => ?_)
            · refine y_goto (tgt := 1808) d_Lw_law_1462 (by decide) ?_
              refine y_lv (lv' := [(5, .int (nI (7 * j))), (4, .ref (ad 70)), (3, .ref (ad 69)), (2, .ref (ad 52)), (1, .ref (ad 0)), (0, .ref (g.2.2 40))]) [2, 3, 4, 5, 6, 7] rfl ?_
              refine y_end (fun wC hC => ?_)
              exact LC_next ⟨_, (hI.gen (t2 := (mg t s9)) (is := [69]) (L2 := []) hC rfl ⟨kd_69.mpr rfl, trivial⟩ (by decide) (by decide) (fun _ h => nomatch h) (fun _ h => nomatch h) (fun _ _ _ => rfl) (fun h => h) rfl)⟩ ((hR.n (huM.trans huC)).up (by omega)) hJ hL ih (by omega) (by omega)
            · exact absurd c_1457 (by decide)
        · exact absurd (V_waiting (ad := ad) (zs g (7 * j + 1)) hR huC).1.symm c_1440
theorem d_Lw_law_1748 : decode code 1748 = .ok (.aload_n 1, 1) := zo_43 (zd_b zq_code_54 20 rfl rfl rfl)
theorem d_Lw_law_1749 : decode code 1749 = .ok (.invokevirtual 329, 3) := zo_182 (d := 1) (e := 73) (zd_b zq_code_54 21 rfl rfl rfl) (zd_b zq_code_54 22 rfl rfl rfl) (zd_b zq_code_54 23 rfl rfl rfl)
theorem ok_Lw_law_Ip_delivered : z_ok M_Lw_law M_Ip_delivered 0 := ⟨z_mj2 (i := 176) rfl (by decide +kernel), rfl, ⟨by decide +kernel, by decide +kernel, by decide +kernel⟩, ⟨by decide, by decide⟩, z_mj1 (i := 1) rfl (by decide +kernel), rfl⟩
theorem ln_Lw_329 : Cond.methodLink "IronpourLaw" 329 M_Ip_delivered.1 ∈ z_gw := z_mj2 (i := 173) rfl (by decide +kernel)
theorem d_Lw_law_1752 : decode code 1752 = .ok (.pop2, 1) := zo_88 (zd_b zq_code_54 24 rfl rfl rfl)
theorem d_Lw_law_1753 : decode code 1753 = .ok (.aload_n 2, 1) := zo_44 (zd_b zq_code_54 25 rfl rfl rfl)
theorem d_Lw_law_1754 : decode code 1754 = .ok (.invokevirtual 333, 3) := zo_182 (d := 1) (e := 77) (zd_b zq_code_54 26 rfl rfl rfl) (zd_b zq_code_54 27 rfl rfl rfl) (zd_b zq_code_54 28 rfl rfl rfl)
theorem ok_Lw_law_Mm_delivered : z_ok M_Lw_law M_Mm_delivered 0 := ⟨z_mj9 (i := 67) rfl (by decide +kernel), rfl, ⟨by decide +kernel, by decide +kernel, by decide +kernel⟩, ⟨by decide, by decide⟩, z_mj1 (i := 14) rfl (by decide +kernel), rfl⟩
theorem ln_Lw_333 : Cond.methodLink "IronpourLaw" 333 M_Mm_delivered.1 ∈ z_gw := z_mj9 (i := 64) rfl (by decide +kernel)
theorem w_im_Mm_delivered : Cond.instanceMethod M_Mm_delivered.1 ∈ z_gw := z_mj9 (i := 65) rfl (by decide +kernel)
theorem w_se_Mm_delivered : Cond.selects M_Mm_delivered.1.cls M_Mm_delivered.1 M_Mm_delivered.1 ∈ z_gw := z_mj9 (i := 66) rfl (by decide +kernel)
theorem d_Lw_law_1757 : decode code 1757 = .ok (.pop2, 1) := zo_88 (zd_b zq_code_54 29 rfl rfl rfl)
theorem d_Lw_law_1758 : decode code 1758 = .ok (.goto 50, 3) := zo_167 (d := 0) (e := 50) (zd_b zq_code_54 30 rfl rfl rfl) (zd_b zq_code_54 31 rfl rfl rfl) (zd_b zq_code_55 0 rfl rfl rfl) (by decide +kernel)
set_option maxHeartbeats 4000000 in
set_option maxRecDepth 100000 in
theorem LC_delivered {g : zG} {ad : Nat → Nat} {t : zTT} {u : zNN} {w : zW} {j : Nat} (hI : IVm g ad t u w) (hR : REL t u.1 (48 * j)) {r : Nat} (hJ : 7 * j + 7 ≤ g.2.2 41) (hL : g.2.2 41 ≤ 3584) (ih : LWI g ad j r) : DW g M_Lw_law lwQ w 1748 [(5, .int (nI (7 * j))), (4, .ref (ad 70)), (3, .ref (ad 69)), (2, .ref (ad 52)), (1, .ref (ad 0)), (0, .ref (g.2.2 40))] [] (100 * (r + 1)) (1000 * (r + 1)) := by
  refine y_base (cs := []) (z_I.nil w) ?_
  refine y_aload_n d_Lw_law_1748 rfl 4 rfl ?_
  refine yw_callVL (As := []) (rest := []) (ci := 11) rfl (fun wA hA => (IVm.nil hA hI).ra) ln_Lw_329 w_im_Ip_delivered w_se_Ip_delivered ok_Lw_law_Ip_delivered d_Lw_law_1749 (fun wA hA => K_Ip_delivered (IVm.nil hA hI)) rfl rfl (Nat.le_of_ble_eq_true rfl) (by omega) (by omega) (fun wA1749 hA1749 E wB1749 hx => ?_) (fun wA1749 hA1749 v wB1749 hx => ?_)
  · obtain ⟨⟨v9, e1⟩, -⟩ := hx
    cases e1
  · obtain ⟨⟨v9, e1⟩, hI2⟩ := hx
    cases e1
    refine yw_st (st2 := [.long v9]) rfl ?_
    have hI := hI2
    refine y_base (cs := []) (z_I.nil _) ?_
    refine y_pop2 d_Lw_law_1752 rfl ?_
    refine y_aload_n d_Lw_law_1753 rfl 3 rfl ?_
    refine yw_callVL (As := []) (rest := []) (ci := 12) rfl (fun wA hA => (IVm.nil hA hI).rm) ln_Lw_333 w_im_Mm_delivered w_se_Mm_delivered ok_Lw_law_Mm_delivered d_Lw_law_1754 (fun wA hA => K_Mm_delivered (IVm.nil hA hI)) rfl rfl (Nat.le_of_ble_eq_true rfl) (by omega) (by omega) (fun wA1754 hA1754 E wB1754 hx => ?_) (fun wA1754 hA1754 v wB1754 hx => ?_)
    · obtain ⟨⟨v9, e1⟩, -⟩ := hx
      cases e1
    · obtain ⟨⟨v8, e1⟩, hI2⟩ := hx
      cases e1
      refine yw_st (st2 := [.long v8]) rfl ?_
      have hI := hI2
      refine y_base (cs := []) (z_I.nil _) ?_
      refine y_pop2 d_Lw_law_1757 rfl ?_
      refine y_goto (tgt := 1808) d_Lw_law_1758 (by decide) ?_
      refine y_lv (lv' := [(5, .int (nI (7 * j))), (4, .ref (ad 70)), (3, .ref (ad 69)), (2, .ref (ad 52)), (1, .ref (ad 0)), (0, .ref (g.2.2 40))]) [0, 1, 2, 3, 4, 5] rfl ?_
      refine y_end (fun wC hC => ?_)
      exact LC_next (IVm.nil hC hI) (hR.up (by omega)) hJ hL ih (by omega) (by omega)
theorem d_Lw_law_1761 : decode code 1761 = .ok (.aload_n 1, 1) := zo_43 (zd_b zq_code_55 1 rfl rfl rfl)
theorem d_Lw_law_1762 : decode code 1762 = .ok (.aload 4, 2) := zo_25 (d := 4) (zd_b zq_code_55 2 rfl rfl rfl) (zd_b zq_code_55 3 rfl rfl rfl)
theorem d_Lw_law_1764 : decode code 1764 = .ok (.invokestatic 334, 3) := zo_184 (d := 1) (e := 78) (zd_b zq_code_55 4 rfl rfl rfl) (zd_b zq_code_55 5 rfl rfl rfl) (zd_b zq_code_55 6 rfl rfl rfl)
theorem ok_Lw_law_Lw_goodShare : z_okX M_Lw_law M_Lw_goodShare 2 := ⟨z_mj7 (i := 44) rfl (by decide +kernel), by decide, ⟨by decide +kernel, by decide +kernel, by decide +kernel⟩, ⟨by decide, by decide⟩, z_mj1 (i := 0) rfl (by decide +kernel), rfl⟩
theorem ln_Lw_334 : Cond.methodLink "IronpourLaw" 334 M_Lw_goodShare.1 ∈ z_gw := z_mj7 (i := 42) rfl (by decide +kernel)
theorem w_st_Lw_goodShare : Cond.static M_Lw_goodShare.1 ∈ z_gw := z_mj7 (i := 43) rfl (by decide +kernel)
theorem d_Lw_law_1767 : decode code 1767 = .ok (.istore 6, 2) := zo_54 (d := 6) (zd_b zq_code_55 7 rfl rfl rfl) (zd_b zq_code_55 8 rfl rfl rfl)
theorem d_Lw_law_1769 : decode code 1769 = .ok (.aload_n 2, 1) := zo_44 (zd_b zq_code_55 9 rfl rfl rfl)
theorem d_Lw_law_1770 : decode code 1770 = .ok (.invokevirtual 337, 3) := zo_182 (d := 1) (e := 81) (zd_b zq_code_55 10 rfl rfl rfl) (zd_b zq_code_55 11 rfl rfl rfl) (zd_b zq_code_55 12 rfl rfl rfl)
theorem ok_Lw_law_Mm_goodShare : z_ok M_Lw_law M_Mm_goodShare 0 := ⟨z_mj9 (i := 71) rfl (by decide +kernel), rfl, ⟨by decide +kernel, by decide +kernel, by decide +kernel⟩, ⟨by decide, by decide⟩, z_mj1 (i := 14) rfl (by decide +kernel), rfl⟩
theorem ln_Lw_337 : Cond.methodLink "IronpourLaw" 337 M_Mm_goodShare.1 ∈ z_gw := z_mj9 (i := 68) rfl (by decide +kernel)
theorem w_im_Mm_goodShare : Cond.instanceMethod M_Mm_goodShare.1 ∈ z_gw := z_mj9 (i := 69) rfl (by decide +kernel)
theorem w_se_Mm_goodShare : Cond.selects M_Mm_goodShare.1.cls M_Mm_goodShare.1 M_Mm_goodShare.1 ∈ z_gw := z_mj9 (i := 70) rfl (by decide +kernel)
theorem d_Lw_law_1773 : decode code 1773 = .ok (.fstore 7, 2) := zo_56 (d := 7) (zd_b zq_code_55 13 rfl rfl rfl) (zd_b zq_code_55 14 rfl rfl rfl)
theorem d_Lw_law_1775 : decode code 1775 = .ok (.goto 33, 3) := zo_167 (d := 0) (e := 33) (zd_b zq_code_55 15 rfl rfl rfl) (zd_b zq_code_55 16 rfl rfl rfl) (zd_b zq_code_55 17 rfl rfl rfl) (by decide +kernel)
set_option maxHeartbeats 4000000 in
set_option maxRecDepth 100000 in
theorem LC_goodShare {g : zG} {ad : Nat → Nat} {t : zTT} {u : zNN} {w : zW} {j : Nat} (hI : IVm g ad t u w) (hR : REL t u.1 (48 * j)) {r : Nat} (hJ : 7 * j + 7 ≤ g.2.2 41) (hL : g.2.2 41 ≤ 3584) (ih : LWI g ad j r) : DW g M_Lw_law lwQ w 1761 [(5, .int (nI (7 * j))), (4, .ref (ad 70)), (3, .ref (ad 69)), (2, .ref (ad 52)), (1, .ref (ad 0)), (0, .ref (g.2.2 40))] [] (100 * (r + 1)) (1000 * (r + 1)) := by
  refine y_base (cs := []) (z_I.nil w) ?_
  refine y_aload_n d_Lw_law_1761 rfl 4 rfl ?_
  refine y_aload d_Lw_law_1762 1 rfl ?_
  refine yw_callSX (As := [.ref (ad 0), .ref (ad 70)]) (rest := []) ln_Lw_334 w_st_Lw_goodShare ok_Lw_law_Lw_goodShare d_Lw_law_1764 (fun wA hA => W_goodShare (IVm.nil hA hI)) rfl rfl (Nat.le_of_ble_eq_true rfl) (by omega) (by omega) (fun wA1764 hA1764 E wB1764 hx => ?_) (fun wA1764 hA1764 v wB1764 hx => ?_)
  · obtain ⟨⟨v9, e1⟩, -⟩ := hx
    cases e1
  · obtain ⟨⟨v9, e1⟩, hI2⟩ := hx
    cases e1
    refine yw_st (st2 := [.int v9]) rfl ?_
    have hI := hI2
    refine y_base (cs := []) (z_I.nil _) ?_
    refine y_istore (lv' := [(6, .int v9), (5, .int (nI (7 * j))), (4, .ref (ad 70)), (3, .ref (ad 69)), (2, .ref (ad 52)), (1, .ref (ad 0)), (0, .ref (g.2.2 40))]) d_Lw_law_1767 (by decide) rfl ?_
    refine y_aload_n d_Lw_law_1769 rfl 4 rfl ?_
    refine yw_callVL (As := []) (rest := []) (ci := 12) rfl (fun wA hA => (IVm.nil hA hI).rm) ln_Lw_337 w_im_Mm_goodShare w_se_Mm_goodShare ok_Lw_law_Mm_goodShare d_Lw_law_1770 (fun wA hA => K_Mm_goodShare (IVm.nil hA hI)) rfl rfl (Nat.le_of_ble_eq_true rfl) (by omega) (by omega) (fun wA1770 hA1770 E wB1770 hx => ?_) (fun wA1770 hA1770 v wB1770 hx => ?_)
    · obtain ⟨⟨v9, e1⟩, -⟩ := hx
      cases e1
    · obtain ⟨⟨v8, e1⟩, hI2⟩ := hx
      cases e1
      refine yw_st (st2 := [.float v8]) rfl ?_
      have hI := hI2
      refine y_base (cs := []) (z_I.nil _) ?_
      refine y_fstore (lv' := [(7, .float v8), (6, .int v9), (5, .int (nI (7 * j))), (4, .ref (ad 70)), (3, .ref (ad 69)), (2, .ref (ad 52)), (1, .ref (ad 0)), (0, .ref (g.2.2 40))]) d_Lw_law_1773 (by decide) rfl ?_
      refine y_goto (tgt := 1808) d_Lw_law_1775 (by decide) ?_
      refine y_lv (lv' := [(5, .int (nI (7 * j))), (4, .ref (ad 70)), (3, .ref (ad 69)), (2, .ref (ad 52)), (1, .ref (ad 0)), (0, .ref (g.2.2 40))]) [2, 3, 4, 5, 6, 7] rfl ?_
      refine y_end (fun wC hC => ?_)
      exact LC_next (IVm.nil hC hI) (hR.up (by omega)) hJ hL ih (by omega) (by omega)
theorem d_Lw_law_1778 : decode code 1778 = .ok (.aload_n 1, 1) := zo_43 (zd_b zq_code_55 18 rfl rfl rfl)
theorem d_Lw_law_1779 : decode code 1779 = .ok (.aload 4, 2) := zo_25 (d := 4) (zd_b zq_code_55 19 rfl rfl rfl) (zd_b zq_code_55 20 rfl rfl rfl)
theorem d_Lw_law_1781 : decode code 1781 = .ok (.invokestatic 338, 3) := zo_184 (d := 1) (e := 82) (zd_b zq_code_55 21 rfl rfl rfl) (zd_b zq_code_55 22 rfl rfl rfl) (zd_b zq_code_55 23 rfl rfl rfl)
theorem ok_Lw_law_Lw_meanBar : z_okX M_Lw_law M_Lw_meanBar 2 := ⟨z_mj7 (i := 69) rfl (by decide +kernel), by decide, ⟨by decide +kernel, by decide +kernel, by decide +kernel⟩, ⟨by decide, by decide⟩, z_mj1 (i := 0) rfl (by decide +kernel), rfl⟩
theorem ln_Lw_338 : Cond.methodLink "IronpourLaw" 338 M_Lw_meanBar.1 ∈ z_gw := z_mj7 (i := 67) rfl (by decide +kernel)
theorem w_st_Lw_meanBar : Cond.static M_Lw_meanBar.1 ∈ z_gw := z_mj7 (i := 68) rfl (by decide +kernel)
theorem d_Lw_law_1784 : decode code 1784 = .ok (.istore 6, 2) := zo_54 (d := 6) (zd_b zq_code_55 24 rfl rfl rfl) (zd_b zq_code_55 25 rfl rfl rfl)
theorem d_Lw_law_1786 : decode code 1786 = .ok (.aload_n 2, 1) := zo_44 (zd_b zq_code_55 26 rfl rfl rfl)
theorem d_Lw_law_1787 : decode code 1787 = .ok (.invokevirtual 340, 3) := zo_182 (d := 1) (e := 84) (zd_b zq_code_55 27 rfl rfl rfl) (zd_b zq_code_55 28 rfl rfl rfl) (zd_b zq_code_55 29 rfl rfl rfl)
theorem ok_Lw_law_Mm_meanBar : z_ok M_Lw_law M_Mm_meanBar 0 := ⟨z_mj9 (i := 75) rfl (by decide +kernel), rfl, ⟨by decide +kernel, by decide +kernel, by decide +kernel⟩, ⟨by decide, by decide⟩, z_mj1 (i := 14) rfl (by decide +kernel), rfl⟩
theorem ln_Lw_340 : Cond.methodLink "IronpourLaw" 340 M_Mm_meanBar.1 ∈ z_gw := z_mj9 (i := 72) rfl (by decide +kernel)
theorem w_im_Mm_meanBar : Cond.instanceMethod M_Mm_meanBar.1 ∈ z_gw := z_mj9 (i := 73) rfl (by decide +kernel)
theorem w_se_Mm_meanBar : Cond.selects M_Mm_meanBar.1.cls M_Mm_meanBar.1 M_Mm_meanBar.1 ∈ z_gw := z_mj9 (i := 74) rfl (by decide +kernel)
theorem d_Lw_law_1790 : decode code 1790 = .ok (.dstore 7, 2) := zo_57 (d := 7) (zd_b zq_code_55 30 rfl rfl rfl) (zd_b zq_code_55 31 rfl rfl rfl)
theorem d_Lw_law_1792 : decode code 1792 = .ok (.goto 16, 3) := zo_167 (d := 0) (e := 16) (zd_b zq_code_56 0 rfl rfl rfl) (zd_b zq_code_56 1 rfl rfl rfl) (zd_b zq_code_56 2 rfl rfl rfl) (by decide +kernel)
set_option maxHeartbeats 4000000 in
set_option maxRecDepth 100000 in
theorem LC_meanBar {g : zG} {ad : Nat → Nat} {t : zTT} {u : zNN} {w : zW} {j : Nat} (hI : IVm g ad t u w) (hR : REL t u.1 (48 * j)) {r : Nat} (hJ : 7 * j + 7 ≤ g.2.2 41) (hL : g.2.2 41 ≤ 3584) (ih : LWI g ad j r) : DW g M_Lw_law lwQ w 1778 [(5, .int (nI (7 * j))), (4, .ref (ad 70)), (3, .ref (ad 69)), (2, .ref (ad 52)), (1, .ref (ad 0)), (0, .ref (g.2.2 40))] [] (100 * (r + 1)) (1000 * (r + 1)) := by
  refine y_base (cs := []) (z_I.nil w) ?_
  refine y_aload_n d_Lw_law_1778 rfl 4 rfl ?_
  refine y_aload d_Lw_law_1779 1 rfl ?_
  refine yw_callSX (As := [.ref (ad 0), .ref (ad 70)]) (rest := []) ln_Lw_338 w_st_Lw_meanBar ok_Lw_law_Lw_meanBar d_Lw_law_1781 (fun wA hA => W_meanBar (IVm.nil hA hI)) rfl rfl (Nat.le_of_ble_eq_true rfl) (by omega) (by omega) (fun wA1781 hA1781 E wB1781 hx => ?_) (fun wA1781 hA1781 v wB1781 hx => ?_)
  · obtain ⟨⟨v9, e1⟩, -⟩ := hx
    cases e1
  · obtain ⟨⟨v9, e1⟩, hI2⟩ := hx
    cases e1
    refine yw_st (st2 := [.int v9]) rfl ?_
    have hI := hI2
    refine y_base (cs := []) (z_I.nil _) ?_
    refine y_istore (lv' := [(6, .int v9), (5, .int (nI (7 * j))), (4, .ref (ad 70)), (3, .ref (ad 69)), (2, .ref (ad 52)), (1, .ref (ad 0)), (0, .ref (g.2.2 40))]) d_Lw_law_1784 (by decide) rfl ?_
    refine y_aload_n d_Lw_law_1786 rfl 4 rfl ?_
    refine yw_callVL (As := []) (rest := []) (ci := 12) rfl (fun wA hA => (IVm.nil hA hI).rm) ln_Lw_340 w_im_Mm_meanBar w_se_Mm_meanBar ok_Lw_law_Mm_meanBar d_Lw_law_1787 (fun wA hA => K_Mm_meanBar (IVm.nil hA hI)) rfl rfl (Nat.le_of_ble_eq_true rfl) (by omega) (by omega) (fun wA1787 hA1787 E wB1787 hx => ?_) (fun wA1787 hA1787 v wB1787 hx => ?_)
    · obtain ⟨⟨v9, e1⟩, -⟩ := hx
      cases e1
    · obtain ⟨⟨v8, e1⟩, hI2⟩ := hx
      cases e1
      refine yw_st (st2 := [.double v8]) rfl ?_
      have hI := hI2
      refine y_base (cs := []) (z_I.nil _) ?_
      refine y_dstore (lv' := [(7, .double v8), (6, .int v9), (5, .int (nI (7 * j))), (4, .ref (ad 70)), (3, .ref (ad 69)), (2, .ref (ad 52)), (1, .ref (ad 0)), (0, .ref (g.2.2 40))]) d_Lw_law_1790 (by decide) rfl ?_
      refine y_goto (tgt := 1808) d_Lw_law_1792 (by decide) ?_
      refine y_lv (lv' := [(5, .int (nI (7 * j))), (4, .ref (ad 70)), (3, .ref (ad 69)), (2, .ref (ad 52)), (1, .ref (ad 0)), (0, .ref (g.2.2 40))]) [2, 3, 4, 5, 6, 7] rfl ?_
      refine y_end (fun wC hC => ?_)
      exact LC_next (IVm.nil hC hI) (hR.up (by omega)) hJ hL ih (by omega) (by omega)
