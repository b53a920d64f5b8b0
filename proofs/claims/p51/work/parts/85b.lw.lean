theorem y_pop2 {g : zG} {M : zM} {Ψ : zO → zW → Prop} {w0 : zW} {n pc : Nat} {lv : List (Nat × Value)} {st : List Value} {cs : zC} {kc ks : Nat} {v : Value} (hd : decode M.2.1 pc = .ok (.pop2, 1)) (hv : v.category = 2) (k : DU g M Ψ w0 n (pc + 1) lv st cs kc ks) : DU g M Ψ w0 n pc lv (v :: st) cs kc ks := fun w p l e R s m args below meth c A mc ms H locs cells slots ls ws I C T => lv_pop2_2 C.1.1 C.1.2.1 hd hv (k w p l e R s m args below meth c A mc ms H locs cells slots ls ws I C T)
def zs (g : zG) (k : Nat) : Int32 := Int32.ofNat (g.2.2 (100 + k))
def zc (g : zG) (k : Nat) : Int32 := ((zs g k).toUInt32 % 65536).toInt32
def lwQ : zO → zW → Prop := fun o _ => o = .inl (some (.int 1))
theorem z_shL {L : Nat} (h : L < 7) : nI L - 7 < (0 : Int32) := by
  have h9 : L = 0 ∨ L = 1 ∨ L = 2 ∨ L = 3 ∨ L = 4 ∨ L = 5 ∨ L = 6 := by omega
  rcases h9 with rfl | rfl | rfl | rfl | rfl | rfl | rfl <;> decide
theorem z_shl {L k : Nat} (h : ¬ k + 7 ≤ L) (hL : L < 2 ^ 31) (hk : k < 2 ^ 31) : nI L - 7 < nI k := by
  by_cases h7 : L < 7
  · exact Int32.lt_of_lt_of_le (z_shL h7) (Int32.not_lt.mp (nI_nneg hk))
  · rw [show nI L - 7 = nI (L - 7) from pk_sub (a := L) (b := 7) (by omega)]
    exact (nI_ltI (by omega) hk).mpr (by omega)
abbrev M_Lw_law : zM := (⟨"IronpourLaw", "law", "([I)Z"⟩, code, 9, (Option.some FieldType.boolean), 11, 274, [])
theorem d_Lw_law_1780 : decode code 1780 = .ok (.iinc 5 7, 3) := by decide +kernel
theorem d_Lw_law_1783 : decode code 1783 = .ok (.goto (-1755), 3) := zo_167 (d := 249) (e := 37) (zd_b zq_code_55 23 rfl rfl rfl) (zd_b zq_code_55 24 rfl rfl rfl) (zd_b zq_code_55 25 rfl rfl rfl) (by decide +kernel)
def LWI (g : zG) (ad : Nat → Nat) (j r : Nat) : Prop := ∀ (t : zTT) (u : zNN) (w : zW), IVm g ad t u w → REZ t u.1 (48 * (j + 1)) → DW g M_Lw_law lwQ w 28 [(5, .int (nI (7 * (j + 1)))), (4, .ref (ad 70)), (3, .ref (ad 69)), (2, .ref (ad 52)), (1, .ref (ad 0)), (0, .ref (g.2.2 40))] [] (100 * r) (1000 * r)
set_option maxHeartbeats 4000000 in
set_option maxRecDepth 100000 in
theorem LC_next {g : zG} {ad : Nat → Nat} {t : zTT} {u : zNN} {w : zW} {j : Nat} (hI : IVm g ad t u w) (hR : REZ t u.1 (48 * (j + 1))) {r : Nat} (hJ : 7 * j + 7 ≤ g.2.2 41) (hL : g.2.2 41 ≤ 3584) (ih : LWI g ad j r) {kc ks : Nat} (h1 : 100 * r ≤ kc) (h2 : 1000 * r ≤ ks) : DW g M_Lw_law lwQ w 1780 [(5, .int (nI (7 * j))), (4, .ref (ad 70)), (3, .ref (ad 69)), (2, .ref (ad 52)), (1, .ref (ad 0)), (0, .ref (g.2.2 40))] [] kc ks := by
  refine y_base (cs := []) (z_I.nil w) ?_
  refine y_iinc (lv' := [(5, .int (nI ((7 * j) + 7))), (4, .ref (ad 70)), (3, .ref (ad 69)), (2, .ref (ad 52)), (1, .ref (ad 0)), (0, .ref (g.2.2 40))]) (v := nI ((7 * j) + 7)) d_Lw_law_1780 (j := 0) rfl (nI_add _ _) (by decide) rfl ?_
  refine y_goto (tgt := 28) d_Lw_law_1783 (by decide) ?_
  refine y_lv (lv' := [(5, .int (nI ((7 * j) + 7))), (4, .ref (ad 70)), (3, .ref (ad 69)), (2, .ref (ad 52)), (1, .ref (ad 0)), (0, .ref (g.2.2 40))]) [0, 1, 2, 3, 4, 5] rfl ?_
  refine y_end (fun wC hC => ?_)
  exact yw_bud h1 h2 (ih _ _ _ (IVm.nil hC hI) hR)
theorem d_Lw_law_1767 : decode code 1767 = .ok (.aload_n 1, 1) := zo_43 (zd_b zq_code_55 7 rfl rfl rfl)
theorem d_Lw_law_1768 : decode code 1768 = .ok (.invokevirtual 338, 3) := zo_182 (d := 1) (e := 82) (zd_b zq_code_55 8 rfl rfl rfl) (zd_b zq_code_55 9 rfl rfl rfl) (zd_b zq_code_55 10 rfl rfl rfl)
theorem ok_Lw_law_Ip_isSound : z_ok M_Lw_law M_Ip_isSound 0 := ⟨z_mj2 (i := 195) rfl (by decide +kernel), rfl, ⟨by decide +kernel, by decide +kernel, by decide +kernel⟩, ⟨by decide, by decide⟩, z_mj1 (i := 1) rfl (by decide +kernel), rfl⟩
theorem ln_Lw_338 : Cond.methodLink "IronpourLaw" 338 M_Ip_isSound.1 ∈ z_gw := z_mj2 (i := 192) rfl (by decide +kernel)
theorem w_im_Ip_isSound : Cond.instanceMethod M_Ip_isSound.1 ∈ z_gw := z_mj2 (i := 193) rfl (by decide +kernel)
theorem w_se_Ip_isSound : Cond.selects M_Ip_isSound.1.cls M_Ip_isSound.1 M_Ip_isSound.1 ∈ z_gw := z_mj2 (i := 194) rfl (by decide +kernel)
theorem d_Lw_law_1771 : decode code 1771 = .ok (.aload_n 2, 1) := zo_44 (zd_b zq_code_55 11 rfl rfl rfl)
theorem d_Lw_law_1772 : decode code 1772 = .ok (.invokevirtual 342, 3) := zo_182 (d := 1) (e := 86) (zd_b zq_code_55 12 rfl rfl rfl) (zd_b zq_code_55 13 rfl rfl rfl) (zd_b zq_code_55 14 rfl rfl rfl)
theorem ok_Lw_law_Mm_isSound : z_ok M_Lw_law M_Mm_isSound 0 := ⟨z_mj9 (i := 75) rfl (by decide +kernel), rfl, ⟨by decide +kernel, by decide +kernel, by decide +kernel⟩, ⟨by decide, by decide⟩, z_mj1 (i := 14) rfl (by decide +kernel), rfl⟩
theorem ln_Lw_342 : Cond.methodLink "IronpourLaw" 342 M_Mm_isSound.1 ∈ z_gw := z_mj9 (i := 72) rfl (by decide +kernel)
theorem w_im_Mm_isSound : Cond.instanceMethod M_Mm_isSound.1 ∈ z_gw := z_mj9 (i := 73) rfl (by decide +kernel)
theorem w_se_Mm_isSound : Cond.selects M_Mm_isSound.1.cls M_Mm_isSound.1 M_Mm_isSound.1 ∈ z_gw := z_mj9 (i := 74) rfl (by decide +kernel)
theorem d_Lw_law_1775 : decode code 1775 = .ok (.if_icmp .eq 5, 3) := zo_159 (d := 0) (e := 5) (zd_b zq_code_55 15 rfl rfl rfl) (zd_b zq_code_55 16 rfl rfl rfl) (zd_b zq_code_55 17 rfl rfl rfl) (by decide +kernel)
set_option maxHeartbeats 4000000 in
set_option maxRecDepth 100000 in
theorem LC_isSound {g : zG} {ad : Nat → Nat} {t : zTT} {u : zNN} {w : zW} {j : Nat} (hI : IVm g ad t u w) (hR : REZ t u.1 (48 * j)) {r : Nat} (hJ : 7 * j + 7 ≤ g.2.2 41) (hL : g.2.2 41 ≤ 3584) (ih : LWI g ad j r) : DW g M_Lw_law lwQ w 1767 [(5, .int (nI (7 * j))), (4, .ref (ad 70)), (3, .ref (ad 69)), (2, .ref (ad 52)), (1, .ref (ad 0)), (0, .ref (g.2.2 40))] [] (100 * (r + 1)) (1000 * (r + 1)) := by
  refine y_base (cs := []) (z_I.nil w) ?_
  refine y_aload_n d_Lw_law_1767 rfl 4 rfl ?_
  refine yw_callVL (As := []) (rest := []) (ci := 11) rfl (fun wA hA => (IVm.nil hA hI).ra) ln_Lw_338 w_im_Ip_isSound w_se_Ip_isSound ok_Lw_law_Ip_isSound d_Lw_law_1768 (fun wA hA => KE_Ip_isSound (IVm.nil hA hI) hR.2) rfl rfl (Nat.le_of_ble_eq_true rfl) (by omega) (by omega) (fun wA1768 hA1768 E wB1768 hx => ?_) (fun wA1768 hA1768 v wB1768 hx => ?_)
  · obtain ⟨e0, -⟩ := hx
    cases e0
  · obtain ⟨e0, hI2⟩ := hx
    cases e0
    refine yw_st (st2 := [.int 1]) rfl ?_
    have hI := hI2
    refine y_base (cs := []) (z_I.nil _) ?_
    refine y_aload_n d_Lw_law_1771 rfl 3 rfl ?_
    refine yw_callVL (As := []) (rest := [.int 1]) (ci := 12) rfl (fun wA hA => (IVm.nil hA hI).rm) ln_Lw_342 w_im_Mm_isSound w_se_Mm_isSound ok_Lw_law_Mm_isSound d_Lw_law_1772 (fun wA hA => KE_Mm_isSound (IVm.nil hA hI)) rfl rfl (Nat.le_of_ble_eq_true rfl) (by omega) (by omega) (fun wA1772 hA1772 E wB1772 hx => ?_) (fun wA1772 hA1772 v wB1772 hx => ?_)
    · obtain ⟨e0, -⟩ := hx
      cases e0
    · obtain ⟨e0, hI2⟩ := hx
      cases e0
      refine yw_st (st2 := [.int 1, .int 1]) rfl ?_
      have hI := hI2
      refine y_base (cs := []) (z_I.nil _) ?_
      refine y_icmp_eq (tgt := 1780) d_Lw_law_1775 (by decide) (fun c_1775 => ?_) (fun c_1775 => ?_)
      · refine y_lv (lv' := [(5, .int (nI (7 * j))), (4, .ref (ad 70)), (3, .ref (ad 69)), (2, .ref (ad 52)), (1, .ref (ad 0)), (0, .ref (g.2.2 40))]) [0, 1, 2, 3, 4, 5] rfl ?_
        refine y_end (fun wC hC => ?_)
        exact LC_next (IVm.nil hC hI) (hR.up (by omega)) hJ hL ih (by omega) (by omega)
      · exact absurd c_1775 (by decide)
theorem d_Lw_law_1720 : decode code 1720 = .ok (.aload_n 1, 1) := zo_43 (zd_b zq_code_53 24 rfl rfl rfl)
theorem d_Lw_law_1721 : decode code 1721 = .ok (.invokevirtual 326, 3) := zo_182 (d := 1) (e := 70) (zd_b zq_code_53 25 rfl rfl rfl) (zd_b zq_code_53 26 rfl rfl rfl) (zd_b zq_code_53 27 rfl rfl rfl)
theorem ok_Lw_law_Ip_delivered : z_ok M_Lw_law M_Ip_delivered 0 := ⟨z_mj2 (i := 176) rfl (by decide +kernel), rfl, ⟨by decide +kernel, by decide +kernel, by decide +kernel⟩, ⟨by decide, by decide⟩, z_mj1 (i := 1) rfl (by decide +kernel), rfl⟩
theorem ln_Lw_326 : Cond.methodLink "IronpourLaw" 326 M_Ip_delivered.1 ∈ z_gw := z_mj2 (i := 173) rfl (by decide +kernel)
theorem d_Lw_law_1724 : decode code 1724 = .ok (.pop2, 1) := zo_88 (zd_b zq_code_53 28 rfl rfl rfl)
theorem d_Lw_law_1725 : decode code 1725 = .ok (.aload_n 2, 1) := zo_44 (zd_b zq_code_53 29 rfl rfl rfl)
theorem d_Lw_law_1726 : decode code 1726 = .ok (.invokevirtual 330, 3) := zo_182 (d := 1) (e := 74) (zd_b zq_code_53 30 rfl rfl rfl) (zd_b zq_code_53 31 rfl rfl rfl) (zd_b zq_code_54 0 rfl rfl rfl)
theorem ok_Lw_law_Mm_delivered : z_ok M_Lw_law M_Mm_delivered 0 := ⟨z_mj9 (i := 63) rfl (by decide +kernel), rfl, ⟨by decide +kernel, by decide +kernel, by decide +kernel⟩, ⟨by decide, by decide⟩, z_mj1 (i := 14) rfl (by decide +kernel), rfl⟩
theorem ln_Lw_330 : Cond.methodLink "IronpourLaw" 330 M_Mm_delivered.1 ∈ z_gw := z_mj9 (i := 60) rfl (by decide +kernel)
theorem w_im_Mm_delivered : Cond.instanceMethod M_Mm_delivered.1 ∈ z_gw := z_mj9 (i := 61) rfl (by decide +kernel)
theorem w_se_Mm_delivered : Cond.selects M_Mm_delivered.1.cls M_Mm_delivered.1 M_Mm_delivered.1 ∈ z_gw := z_mj9 (i := 62) rfl (by decide +kernel)
theorem d_Lw_law_1729 : decode code 1729 = .ok (.pop2, 1) := zo_88 (zd_b zq_code_54 1 rfl rfl rfl)
theorem d_Lw_law_1730 : decode code 1730 = .ok (.goto 50, 3) := zo_167 (d := 0) (e := 50) (zd_b zq_code_54 2 rfl rfl rfl) (zd_b zq_code_54 3 rfl rfl rfl) (zd_b zq_code_54 4 rfl rfl rfl) (by decide +kernel)
set_option maxHeartbeats 4000000 in
set_option maxRecDepth 100000 in
theorem LC_delivered {g : zG} {ad : Nat → Nat} {t : zTT} {u : zNN} {w : zW} {j : Nat} (hI : IVm g ad t u w) (hR : REZ t u.1 (48 * j)) {r : Nat} (hJ : 7 * j + 7 ≤ g.2.2 41) (hL : g.2.2 41 ≤ 3584) (ih : LWI g ad j r) : DW g M_Lw_law lwQ w 1720 [(5, .int (nI (7 * j))), (4, .ref (ad 70)), (3, .ref (ad 69)), (2, .ref (ad 52)), (1, .ref (ad 0)), (0, .ref (g.2.2 40))] [] (100 * (r + 1)) (1000 * (r + 1)) := by
  refine y_base (cs := []) (z_I.nil w) ?_
  refine y_aload_n d_Lw_law_1720 rfl 4 rfl ?_
  refine yw_callVL (As := []) (rest := []) (ci := 11) rfl (fun wA hA => (IVm.nil hA hI).ra) ln_Lw_326 w_im_Ip_delivered w_se_Ip_delivered ok_Lw_law_Ip_delivered d_Lw_law_1721 (fun wA hA => K_Ip_delivered (IVm.nil hA hI)) rfl rfl (Nat.le_of_ble_eq_true rfl) (by omega) (by omega) (fun wA1721 hA1721 E wB1721 hx => ?_) (fun wA1721 hA1721 v wB1721 hx => ?_)
  · obtain ⟨⟨v9, e1⟩, -⟩ := hx
    cases e1
  · obtain ⟨⟨v9, e1⟩, hI2⟩ := hx
    cases e1
    refine yw_st (st2 := [.long v9]) rfl ?_
    have hI := hI2
    refine y_base (cs := []) (z_I.nil _) ?_
    refine y_pop2 d_Lw_law_1724 rfl ?_
    refine y_aload_n d_Lw_law_1725 rfl 3 rfl ?_
    refine yw_callVL (As := []) (rest := []) (ci := 12) rfl (fun wA hA => (IVm.nil hA hI).rm) ln_Lw_330 w_im_Mm_delivered w_se_Mm_delivered ok_Lw_law_Mm_delivered d_Lw_law_1726 (fun wA hA => K_Mm_delivered (IVm.nil hA hI)) rfl rfl (Nat.le_of_ble_eq_true rfl) (by omega) (by omega) (fun wA1726 hA1726 E wB1726 hx => ?_) (fun wA1726 hA1726 v wB1726 hx => ?_)
    · obtain ⟨⟨v9, e1⟩, -⟩ := hx
      cases e1
    · obtain ⟨⟨v8, e1⟩, hI2⟩ := hx
      cases e1
      refine yw_st (st2 := [.long v8]) rfl ?_
      have hI := hI2
      refine y_base (cs := []) (z_I.nil _) ?_
      refine y_pop2 d_Lw_law_1729 rfl ?_
      refine y_goto (tgt := 1780) d_Lw_law_1730 (by decide) ?_
      refine y_lv (lv' := [(5, .int (nI (7 * j))), (4, .ref (ad 70)), (3, .ref (ad 69)), (2, .ref (ad 52)), (1, .ref (ad 0)), (0, .ref (g.2.2 40))]) [0, 1, 2, 3, 4, 5] rfl ?_
      refine y_end (fun wC hC => ?_)
      exact LC_next (IVm.nil hC hI) (hR.up (by omega)) hJ hL ih (by omega) (by omega)
theorem d_Lw_law_1733 : decode code 1733 = .ok (.aload_n 1, 1) := zo_43 (zd_b zq_code_54 5 rfl rfl rfl)
theorem d_Lw_law_1734 : decode code 1734 = .ok (.aload 4, 2) := zo_25 (d := 4) (zd_b zq_code_54 6 rfl rfl rfl) (zd_b zq_code_54 7 rfl rfl rfl)
theorem d_Lw_law_1736 : decode code 1736 = .ok (.invokestatic 331, 3) := zo_184 (d := 1) (e := 75) (zd_b zq_code_54 8 rfl rfl rfl) (zd_b zq_code_54 9 rfl rfl rfl) (zd_b zq_code_54 10 rfl rfl rfl)
theorem ok_Lw_law_Lw_goodShare : z_okX M_Lw_law M_Lw_goodShare 2 := ⟨z_mj7 (i := 44) rfl (by decide +kernel), by decide, ⟨by decide +kernel, by decide +kernel, by decide +kernel⟩, ⟨by decide, by decide⟩, z_mj1 (i := 0) rfl (by decide +kernel), rfl⟩
theorem ln_Lw_331 : Cond.methodLink "IronpourLaw" 331 M_Lw_goodShare.1 ∈ z_gw := z_mj7 (i := 42) rfl (by decide +kernel)
theorem w_st_Lw_goodShare : Cond.static M_Lw_goodShare.1 ∈ z_gw := z_mj7 (i := 43) rfl (by decide +kernel)
theorem d_Lw_law_1739 : decode code 1739 = .ok (.istore 6, 2) := zo_54 (d := 6) (zd_b zq_code_54 11 rfl rfl rfl) (zd_b zq_code_54 12 rfl rfl rfl)
theorem d_Lw_law_1741 : decode code 1741 = .ok (.aload_n 2, 1) := zo_44 (zd_b zq_code_54 13 rfl rfl rfl)
theorem d_Lw_law_1742 : decode code 1742 = .ok (.invokevirtual 334, 3) := zo_182 (d := 1) (e := 78) (zd_b zq_code_54 14 rfl rfl rfl) (zd_b zq_code_54 15 rfl rfl rfl) (zd_b zq_code_54 16 rfl rfl rfl)
theorem ok_Lw_law_Mm_goodShare : z_ok M_Lw_law M_Mm_goodShare 0 := ⟨z_mj9 (i := 67) rfl (by decide +kernel), rfl, ⟨by decide +kernel, by decide +kernel, by decide +kernel⟩, ⟨by decide, by decide⟩, z_mj1 (i := 14) rfl (by decide +kernel), rfl⟩
theorem ln_Lw_334 : Cond.methodLink "IronpourLaw" 334 M_Mm_goodShare.1 ∈ z_gw := z_mj9 (i := 64) rfl (by decide +kernel)
theorem w_im_Mm_goodShare : Cond.instanceMethod M_Mm_goodShare.1 ∈ z_gw := z_mj9 (i := 65) rfl (by decide +kernel)
theorem w_se_Mm_goodShare : Cond.selects M_Mm_goodShare.1.cls M_Mm_goodShare.1 M_Mm_goodShare.1 ∈ z_gw := z_mj9 (i := 66) rfl (by decide +kernel)
theorem d_Lw_law_1745 : decode code 1745 = .ok (.fstore 7, 2) := zo_56 (d := 7) (zd_b zq_code_54 17 rfl rfl rfl) (zd_b zq_code_54 18 rfl rfl rfl)
theorem d_Lw_law_1747 : decode code 1747 = .ok (.goto 33, 3) := zo_167 (d := 0) (e := 33) (zd_b zq_code_54 19 rfl rfl rfl) (zd_b zq_code_54 20 rfl rfl rfl) (zd_b zq_code_54 21 rfl rfl rfl) (by decide +kernel)
set_option maxHeartbeats 4000000 in
set_option maxRecDepth 100000 in
theorem LC_goodShare {g : zG} {ad : Nat → Nat} {t : zTT} {u : zNN} {w : zW} {j : Nat} (hI : IVm g ad t u w) (hR : REZ t u.1 (48 * j)) {r : Nat} (hJ : 7 * j + 7 ≤ g.2.2 41) (hL : g.2.2 41 ≤ 3584) (ih : LWI g ad j r) : DW g M_Lw_law lwQ w 1733 [(5, .int (nI (7 * j))), (4, .ref (ad 70)), (3, .ref (ad 69)), (2, .ref (ad 52)), (1, .ref (ad 0)), (0, .ref (g.2.2 40))] [] (100 * (r + 1)) (1000 * (r + 1)) := by
  refine y_base (cs := []) (z_I.nil w) ?_
  refine y_aload_n d_Lw_law_1733 rfl 4 rfl ?_
  refine y_aload d_Lw_law_1734 1 rfl ?_
  refine yw_callSX (As := [.ref (ad 0), .ref (ad 70)]) (rest := []) ln_Lw_331 w_st_Lw_goodShare ok_Lw_law_Lw_goodShare d_Lw_law_1736 (fun wA hA => W_goodShare (IVm.nil hA hI)) rfl rfl (Nat.le_of_ble_eq_true rfl) (by omega) (by omega) (fun wA1736 hA1736 E wB1736 hx => ?_) (fun wA1736 hA1736 v wB1736 hx => ?_)
  · obtain ⟨⟨v9, e1⟩, -⟩ := hx
    cases e1
  · obtain ⟨⟨v9, e1⟩, hI2⟩ := hx
    cases e1
    refine yw_st (st2 := [.int v9]) rfl ?_
    have hI := hI2
    refine y_base (cs := []) (z_I.nil _) ?_
    refine y_istore (lv' := [(6, .int v9), (5, .int (nI (7 * j))), (4, .ref (ad 70)), (3, .ref (ad 69)), (2, .ref (ad 52)), (1, .ref (ad 0)), (0, .ref (g.2.2 40))]) d_Lw_law_1739 (by decide) rfl ?_
    refine y_aload_n d_Lw_law_1741 rfl 4 rfl ?_
    refine yw_callVL (As := []) (rest := []) (ci := 12) rfl (fun wA hA => (IVm.nil hA hI).rm) ln_Lw_334 w_im_Mm_goodShare w_se_Mm_goodShare ok_Lw_law_Mm_goodShare d_Lw_law_1742 (fun wA hA => K_Mm_goodShare (IVm.nil hA hI)) rfl rfl (Nat.le_of_ble_eq_true rfl) (by omega) (by omega) (fun wA1742 hA1742 E wB1742 hx => ?_) (fun wA1742 hA1742 v wB1742 hx => ?_)
    · obtain ⟨⟨v9, e1⟩, -⟩ := hx
      cases e1
    · obtain ⟨⟨v8, e1⟩, hI2⟩ := hx
      cases e1
      refine yw_st (st2 := [.float v8]) rfl ?_
      have hI := hI2
      refine y_base (cs := []) (z_I.nil _) ?_
      refine y_fstore (lv' := [(7, .float v8), (6, .int v9), (5, .int (nI (7 * j))), (4, .ref (ad 70)), (3, .ref (ad 69)), (2, .ref (ad 52)), (1, .ref (ad 0)), (0, .ref (g.2.2 40))]) d_Lw_law_1745 (by decide) rfl ?_
      refine y_goto (tgt := 1780) d_Lw_law_1747 (by decide) ?_
      refine y_lv (lv' := [(5, .int (nI (7 * j))), (4, .ref (ad 70)), (3, .ref (ad 69)), (2, .ref (ad 52)), (1, .ref (ad 0)), (0, .ref (g.2.2 40))]) [2, 3, 4, 5, 6, 7] rfl ?_
      refine y_end (fun wC hC => ?_)
      exact LC_next (IVm.nil hC hI) (hR.up (by omega)) hJ hL ih (by omega) (by omega)
theorem d_Lw_law_1750 : decode code 1750 = .ok (.aload_n 1, 1) := zo_43 (zd_b zq_code_54 22 rfl rfl rfl)
theorem d_Lw_law_1751 : decode code 1751 = .ok (.aload 4, 2) := zo_25 (d := 4) (zd_b zq_code_54 23 rfl rfl rfl) (zd_b zq_code_54 24 rfl rfl rfl)
theorem d_Lw_law_1753 : decode code 1753 = .ok (.invokestatic 335, 3) := zo_184 (d := 1) (e := 79) (zd_b zq_code_54 25 rfl rfl rfl) (zd_b zq_code_54 26 rfl rfl rfl) (zd_b zq_code_54 27 rfl rfl rfl)
theorem ok_Lw_law_Lw_meanBar : z_okX M_Lw_law M_Lw_meanBar 2 := ⟨z_mj7 (i := 69) rfl (by decide +kernel), by decide, ⟨by decide +kernel, by decide +kernel, by decide +kernel⟩, ⟨by decide, by decide⟩, z_mj1 (i := 0) rfl (by decide +kernel), rfl⟩
theorem ln_Lw_335 : Cond.methodLink "IronpourLaw" 335 M_Lw_meanBar.1 ∈ z_gw := z_mj7 (i := 67) rfl (by decide +kernel)
theorem w_st_Lw_meanBar : Cond.static M_Lw_meanBar.1 ∈ z_gw := z_mj7 (i := 68) rfl (by decide +kernel)
theorem d_Lw_law_1756 : decode code 1756 = .ok (.istore 6, 2) := zo_54 (d := 6) (zd_b zq_code_54 28 rfl rfl rfl) (zd_b zq_code_54 29 rfl rfl rfl)
theorem d_Lw_law_1758 : decode code 1758 = .ok (.aload_n 2, 1) := zo_44 (zd_b zq_code_54 30 rfl rfl rfl)
theorem d_Lw_law_1759 : decode code 1759 = .ok (.invokevirtual 337, 3) := zo_182 (d := 1) (e := 81) (zd_b zq_code_54 31 rfl rfl rfl) (zd_b zq_code_55 0 rfl rfl rfl) (zd_b zq_code_55 1 rfl rfl rfl)
theorem ok_Lw_law_Mm_meanBar : z_ok M_Lw_law M_Mm_meanBar 0 := ⟨z_mj9 (i := 71) rfl (by decide +kernel), rfl, ⟨by decide +kernel, by decide +kernel, by decide +kernel⟩, ⟨by decide, by decide⟩, z_mj1 (i := 14) rfl (by decide +kernel), rfl⟩
theorem ln_Lw_337 : Cond.methodLink "IronpourLaw" 337 M_Mm_meanBar.1 ∈ z_gw := z_mj9 (i := 68) rfl (by decide +kernel)
theorem w_im_Mm_meanBar : Cond.instanceMethod M_Mm_meanBar.1 ∈ z_gw := z_mj9 (i := 69) rfl (by decide +kernel)
theorem w_se_Mm_meanBar : Cond.selects M_Mm_meanBar.1.cls M_Mm_meanBar.1 M_Mm_meanBar.1 ∈ z_gw := z_mj9 (i := 70) rfl (by decide +kernel)
theorem d_Lw_law_1762 : decode code 1762 = .ok (.dstore 7, 2) := zo_57 (d := 7) (zd_b zq_code_55 2 rfl rfl rfl) (zd_b zq_code_55 3 rfl rfl rfl)
theorem d_Lw_law_1764 : decode code 1764 = .ok (.goto 16, 3) := zo_167 (d := 0) (e := 16) (zd_b zq_code_55 4 rfl rfl rfl) (zd_b zq_code_55 5 rfl rfl rfl) (zd_b zq_code_55 6 rfl rfl rfl) (by decide +kernel)
set_option maxHeartbeats 4000000 in
set_option maxRecDepth 100000 in
theorem LC_meanBar {g : zG} {ad : Nat → Nat} {t : zTT} {u : zNN} {w : zW} {j : Nat} (hI : IVm g ad t u w) (hR : REZ t u.1 (48 * j)) {r : Nat} (hJ : 7 * j + 7 ≤ g.2.2 41) (hL : g.2.2 41 ≤ 3584) (ih : LWI g ad j r) : DW g M_Lw_law lwQ w 1750 [(5, .int (nI (7 * j))), (4, .ref (ad 70)), (3, .ref (ad 69)), (2, .ref (ad 52)), (1, .ref (ad 0)), (0, .ref (g.2.2 40))] [] (100 * (r + 1)) (1000 * (r + 1)) := by
  refine y_base (cs := []) (z_I.nil w) ?_
  refine y_aload_n d_Lw_law_1750 rfl 4 rfl ?_
  refine y_aload d_Lw_law_1751 1 rfl ?_
  refine yw_callSX (As := [.ref (ad 0), .ref (ad 70)]) (rest := []) ln_Lw_335 w_st_Lw_meanBar ok_Lw_law_Lw_meanBar d_Lw_law_1753 (fun wA hA => W_meanBar (IVm.nil hA hI)) rfl rfl (Nat.le_of_ble_eq_true rfl) (by omega) (by omega) (fun wA1753 hA1753 E wB1753 hx => ?_) (fun wA1753 hA1753 v wB1753 hx => ?_)
  · obtain ⟨⟨v9, e1⟩, -⟩ := hx
    cases e1
  · obtain ⟨⟨v9, e1⟩, hI2⟩ := hx
    cases e1
    refine yw_st (st2 := [.int v9]) rfl ?_
    have hI := hI2
    refine y_base (cs := []) (z_I.nil _) ?_
    refine y_istore (lv' := [(6, .int v9), (5, .int (nI (7 * j))), (4, .ref (ad 70)), (3, .ref (ad 69)), (2, .ref (ad 52)), (1, .ref (ad 0)), (0, .ref (g.2.2 40))]) d_Lw_law_1756 (by decide) rfl ?_
    refine y_aload_n d_Lw_law_1758 rfl 4 rfl ?_
    refine yw_callVL (As := []) (rest := []) (ci := 12) rfl (fun wA hA => (IVm.nil hA hI).rm) ln_Lw_337 w_im_Mm_meanBar w_se_Mm_meanBar ok_Lw_law_Mm_meanBar d_Lw_law_1759 (fun wA hA => K_Mm_meanBar (IVm.nil hA hI)) rfl rfl (Nat.le_of_ble_eq_true rfl) (by omega) (by omega) (fun wA1759 hA1759 E wB1759 hx => ?_) (fun wA1759 hA1759 v wB1759 hx => ?_)
    · obtain ⟨⟨v9, e1⟩, -⟩ := hx
      cases e1
    · obtain ⟨⟨v8, e1⟩, hI2⟩ := hx
      cases e1
      refine yw_st (st2 := [.double v8]) rfl ?_
      have hI := hI2
      refine y_base (cs := []) (z_I.nil _) ?_
      refine y_dstore (lv' := [(7, .double v8), (6, .int v9), (5, .int (nI (7 * j))), (4, .ref (ad 70)), (3, .ref (ad 69)), (2, .ref (ad 52)), (1, .ref (ad 0)), (0, .ref (g.2.2 40))]) d_Lw_law_1762 (by decide) rfl ?_
      refine y_goto (tgt := 1780) d_Lw_law_1764 (by decide) ?_
      refine y_lv (lv' := [(5, .int (nI (7 * j))), (4, .ref (ad 70)), (3, .ref (ad 69)), (2, .ref (ad 52)), (1, .ref (ad 0)), (0, .ref (g.2.2 40))]) [2, 3, 4, 5, 6, 7] rfl ?_
      refine y_end (fun wC hC => ?_)
      exact LC_next (IVm.nil hC hI) (hR.up (by omega)) hJ hL ih (by omega) (by omega)
