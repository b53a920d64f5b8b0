theorem y_pop2 {g : zG} {M : zM} {Ψ : zO → zW → Prop} {w0 : zW} {n pc : Nat} {lv : List (Nat × Value)} {st : List Value} {cs : zC} {kc ks : Nat} {v : Value} (hd : decode M.2.1 pc = .ok (.pop2, 1)) (hv : v.category = 2) (k : DU g M Ψ w0 n (pc + 1) lv st cs kc ks) : DU g M Ψ w0 n pc lv (v :: st) cs kc ks := fun w p l e R s m args below meth c A mc ms H locs cells slots ls ws I C T => lv_pop2_2 C.1.1 C.1.2.1 hd hv (k w p l e R s m args below meth c A mc ms H locs cells slots ls ws I C T)
def zs (g : zG) (k : Nat) : Int32 := Int32.ofNat (g.2.2 (100 + k))
def zc (g : zG) (k : Nat) : Int32 := ((zs g k).toUInt32 % 65536).toInt32
def lwQ : zO → zW → Prop := fun o _ => o = .inl (some (.int 1))
def REL (t : zTT) : Prop := t.2.1 = t.1 ∧ t.2.2.2.1 = t.2.2.1
theorem REL.lc {t : zTT} (x1 x2 x3 x4 x5 x6 : Int32) (h : REL t) : REL (lcM x1 x2 x3 x4 x5 x6 (lcC x1 x2 x3 x4 x5 x6 t)) := by
  have h2 : REL (lcC x1 x2 x3 x4 x5 x6 t) := by
    unfold lcC
    split
    · exact h
    · exact h
  unfold lcM
  split
  · exact h2
  · exact h2
theorem z_shL {L : Nat} (h : L < 7) : nI L - 7 < (0 : Int32) := by
  have h9 : L = 0 ∨ L = 1 ∨ L = 2 ∨ L = 3 ∨ L = 4 ∨ L = 5 ∨ L = 6 := by omega
  rcases h9 with rfl | rfl | rfl | rfl | rfl | rfl | rfl <;> decide
theorem z_shl {L k : Nat} (h : ¬ k + 7 ≤ L) (hL : L < 2 ^ 31) (hk : k < 2 ^ 31) : nI L - 7 < nI k := by
  by_cases h7 : L < 7
  · exact Int32.lt_of_lt_of_le (z_shL h7) (Int32.not_lt.mp (nI_nneg hk))
  · rw [show nI L - 7 = nI (L - 7) from pk_sub (a := L) (b := 7) (by omega)]
    exact (nI_ltI (by omega) hk).mpr (by omega)
theorem Q_Mm_meanBar {g : zG} {ad : Nat → Nat} {t : zTT} {u : zNN} {w : zW} (hI : IV g ad t u w) : zMB g M_Mm_meanBar [.ref (ad 52)] w (fun o w1 => (∃ v : UInt64, o = .inl (some (.double v))) ∧ IV g ad t u w1) 0 0 := by
  by_cases h0 : u.1 5 = 0
  · exact Q_Mm_meanBarE hI h0
  · exact Q_Mm_meanBarN hI h0
abbrev M_Lw_law : zM := (⟨"IronpourLaw", "law", "([I)Z"⟩, code, 9, (Option.some FieldType.boolean), 11, 274, [])
theorem d_Lw_law_1780 : decode code 1780 = .ok (.iinc 5 7, 3) := by decide +kernel
theorem d_Lw_law_1783 : decode code 1783 = .ok (.goto (-1755), 3) := by decide +kernel
def LWI (g : zG) (ad : Nat → Nat) (j r : Nat) : Prop := ∀ (t : zTT) (u : zNN) (w : zW), IV g ad t u w → REL t → DW g M_Lw_law lwQ w 28 [(5, .int (nI (7 * (j + 1)))), (4, .ref (ad 70)), (3, .ref (ad 69)), (2, .ref (ad 52)), (1, .ref (ad 0)), (0, .ref (g.2.2 40))] [] (100 * r) (1000 * r)
set_option maxHeartbeats 4000000 in
set_option maxRecDepth 100000 in
theorem LC_next {g : zG} {ad : Nat → Nat} {t : zTT} {u : zNN} {w : zW} (hI : IV g ad t u w) (hR : REL t) {j r : Nat} (hJ : 7 * j + 7 ≤ g.2.2 41) (hL : g.2.2 41 < 2 ^ 31) (ih : LWI g ad j r) {kc ks : Nat} (h1 : 100 * r ≤ kc) (h2 : 1000 * r ≤ ks) : DW g M_Lw_law lwQ w 1780 [(5, .int (nI (7 * j))), (4, .ref (ad 70)), (3, .ref (ad 69)), (2, .ref (ad 52)), (1, .ref (ad 0)), (0, .ref (g.2.2 40))] [] kc ks := by
  refine y_base (cs := []) (z_I.nil w) ?_
  refine y_iinc (lv' := [(5, .int (nI ((7 * j) + 7))), (4, .ref (ad 70)), (3, .ref (ad 69)), (2, .ref (ad 52)), (1, .ref (ad 0)), (0, .ref (g.2.2 40))]) (v := nI ((7 * j) + 7)) d_Lw_law_1780 (j := 0) rfl (nI_add _ _) (by decide) rfl ?_
  refine y_goto (tgt := 28) d_Lw_law_1783 (by decide) ?_
  refine y_lv (lv' := [(5, .int (nI ((7 * j) + 7))), (4, .ref (ad 70)), (3, .ref (ad 69)), (2, .ref (ad 52)), (1, .ref (ad 0)), (0, .ref (g.2.2 40))]) [0, 1, 2, 3, 4, 5] rfl ?_
  refine y_end (fun wC hC => ?_)
  exact yw_bud h1 h2 (ih _ _ _ (IV.nil hC hI) hR)
theorem d_Lw_law_432 : decode code 432 = .ok (.aload_n 1, 1) := by decide +kernel
theorem d_Lw_law_433 : decode code 433 = .ok (.invokevirtual 191, 3) := by decide +kernel
theorem ok_Lw_law_Ip_loose : z_ok M_Lw_law M_Ip_loose 0 := ⟨z_mem (i := 434) (by decide +kernel) (by decide +kernel), rfl, ⟨by decide +kernel, by decide +kernel, by decide +kernel⟩, ⟨by decide, by decide⟩, z_mem (i := 58) (by decide +kernel) (by decide +kernel), rfl⟩
theorem ln_Lw_191 : Cond.methodLink "IronpourLaw" 191 M_Ip_loose.1 ∈ z_gw := z_mem (i := 431) (by decide +kernel) (by decide +kernel)
theorem w_im_Ip_loose : Cond.instanceMethod M_Ip_loose.1 ∈ z_gw := z_mem (i := 432) (by decide +kernel) (by decide +kernel)
theorem w_se_Ip_loose : Cond.selects M_Ip_loose.1.cls M_Ip_loose.1 M_Ip_loose.1 ∈ z_gw := z_mem (i := 433) (by decide +kernel) (by decide +kernel)
theorem d_Lw_law_436 : decode code 436 = .ok (.aload_n 2, 1) := by decide +kernel
theorem d_Lw_law_437 : decode code 437 = .ok (.invokevirtual 194, 3) := by decide +kernel
theorem ok_Lw_law_Mm_loose : z_ok M_Lw_law M_Mm_loose 0 := ⟨z_mem (i := 1726) (by decide +kernel) (by decide +kernel), rfl, ⟨by decide +kernel, by decide +kernel, by decide +kernel⟩, ⟨by decide, by decide⟩, z_mem (i := 71) (by decide +kernel) (by decide +kernel), rfl⟩
theorem ln_Lw_194 : Cond.methodLink "IronpourLaw" 194 M_Mm_loose.1 ∈ z_gw := z_mem (i := 1723) (by decide +kernel) (by decide +kernel)
theorem w_im_Mm_loose : Cond.instanceMethod M_Mm_loose.1 ∈ z_gw := z_mem (i := 1724) (by decide +kernel) (by decide +kernel)
theorem w_se_Mm_loose : Cond.selects M_Mm_loose.1.cls M_Mm_loose.1 M_Mm_loose.1 ∈ z_gw := z_mem (i := 1725) (by decide +kernel) (by decide +kernel)
theorem d_Lw_law_440 : decode code 440 = .ok (.if_icmp .eq 1340, 3) := by decide +kernel
set_option maxHeartbeats 4000000 in
set_option maxRecDepth 100000 in
theorem LC_loose {g : zG} {ad : Nat → Nat} {t : zTT} {u : zNN} {w : zW} (hI : IV g ad t u w) (hR : REL t) {j r : Nat} (hJ : 7 * j + 7 ≤ g.2.2 41) (hL : g.2.2 41 < 2 ^ 31) (ih : LWI g ad j r) : DW g M_Lw_law lwQ w 432 [(5, .int (nI (7 * j))), (4, .ref (ad 70)), (3, .ref (ad 69)), (2, .ref (ad 52)), (1, .ref (ad 0)), (0, .ref (g.2.2 40))] [] (100 * (r + 1)) (1000 * (r + 1)) := by
  refine y_base (cs := []) (z_I.nil w) ?_
  refine y_aload_n d_Lw_law_432 rfl 4 rfl ?_
  refine yw_callVL (As := []) (rest := []) (ci := 11) rfl (fun wA hA => (IV.nil hA hI).ra) ln_Lw_191 w_im_Ip_loose w_se_Ip_loose ok_Lw_law_Ip_loose d_Lw_law_433 (fun wA hA => Q_Ip_looseX (IV.nil hA hI)) rfl rfl (Nat.le_of_ble_eq_true rfl) (by omega) (by omega) (fun wA433 hA433 E wB433 hx => ?_) (fun wA433 hA433 v wB433 hx => ?_)
  · obtain ⟨e1, -⟩ := hx
    cases e1
  · obtain ⟨e1, hI2⟩ := hx
    cases e1
    refine yw_st (st2 := [.int (nI (loN t.1))]) rfl ?_
    have hI := hI2
    refine y_base (cs := []) (z_I.nil _) ?_
    refine y_aload_n d_Lw_law_436 rfl 3 rfl ?_
    refine yw_callVL (As := []) (rest := [.int (nI (loN t.1))]) (ci := 12) rfl (fun wA hA => (IV.nil hA hI).rm) ln_Lw_194 w_im_Mm_loose w_se_Mm_loose ok_Lw_law_Mm_loose d_Lw_law_437 (fun wA hA => Q_Mm_looseX (IV.nil hA hI)) rfl rfl (Nat.le_of_ble_eq_true rfl) (by omega) (by omega) (fun wA437 hA437 E wB437 hx => ?_) (fun wA437 hA437 v wB437 hx => ?_)
    · obtain ⟨e1, -⟩ := hx
      cases e1
    · obtain ⟨e1, hI2⟩ := hx
      cases e1
      refine yw_st (st2 := [.int (nI (loN t.2.1)), .int (nI (loN t.1))]) rfl ?_
      have hI := hI2
      refine y_base (cs := []) (z_I.nil _) ?_
      refine y_icmp_eq (tgt := 1780) d_Lw_law_440 (by decide) (fun c_440 => ?_) (fun c_440 => ?_)
      · refine y_lv (lv' := [(5, .int (nI (7 * j))), (4, .ref (ad 70)), (3, .ref (ad 69)), (2, .ref (ad 52)), (1, .ref (ad 0)), (0, .ref (g.2.2 40))]) [0, 1, 2, 3, 4, 5] rfl ?_
        refine y_end (fun wC hC => ?_)
        exact LC_next (IV.nil hC hI) hR hJ hL ih (by omega) (by omega)
      · exact absurd (by rw [hR.1]) c_440
theorem d_Lw_law_1720 : decode code 1720 = .ok (.aload_n 1, 1) := by decide +kernel
theorem d_Lw_law_1721 : decode code 1721 = .ok (.invokevirtual 326, 3) := by decide +kernel
theorem ok_Lw_law_Ip_delivered : z_ok M_Lw_law M_Ip_delivered 0 := ⟨z_mem (i := 473) (by decide +kernel) (by decide +kernel), rfl, ⟨by decide +kernel, by decide +kernel, by decide +kernel⟩, ⟨by decide, by decide⟩, z_mem (i := 58) (by decide +kernel) (by decide +kernel), rfl⟩
theorem ln_Lw_326 : Cond.methodLink "IronpourLaw" 326 M_Ip_delivered.1 ∈ z_gw := z_mem (i := 470) (by decide +kernel) (by decide +kernel)
theorem d_Lw_law_1724 : decode code 1724 = .ok (.pop2, 1) := by decide +kernel
theorem d_Lw_law_1725 : decode code 1725 = .ok (.aload_n 2, 1) := by decide +kernel
theorem d_Lw_law_1726 : decode code 1726 = .ok (.invokevirtual 330, 3) := by decide +kernel
theorem ok_Lw_law_Mm_delivered : z_ok M_Lw_law M_Mm_delivered 0 := ⟨z_mem (i := 2040) (by decide +kernel) (by decide +kernel), rfl, ⟨by decide +kernel, by decide +kernel, by decide +kernel⟩, ⟨by decide, by decide⟩, z_mem (i := 71) (by decide +kernel) (by decide +kernel), rfl⟩
theorem ln_Lw_330 : Cond.methodLink "IronpourLaw" 330 M_Mm_delivered.1 ∈ z_gw := z_mem (i := 2037) (by decide +kernel) (by decide +kernel)
theorem w_im_Mm_delivered : Cond.instanceMethod M_Mm_delivered.1 ∈ z_gw := z_mem (i := 2038) (by decide +kernel) (by decide +kernel)
theorem w_se_Mm_delivered : Cond.selects M_Mm_delivered.1.cls M_Mm_delivered.1 M_Mm_delivered.1 ∈ z_gw := z_mem (i := 2039) (by decide +kernel) (by decide +kernel)
theorem d_Lw_law_1729 : decode code 1729 = .ok (.pop2, 1) := by decide +kernel
theorem d_Lw_law_1730 : decode code 1730 = .ok (.goto 50, 3) := by decide +kernel
set_option maxHeartbeats 4000000 in
set_option maxRecDepth 100000 in
theorem LC_delivered {g : zG} {ad : Nat → Nat} {t : zTT} {u : zNN} {w : zW} (hI : IV g ad t u w) (hR : REL t) {j r : Nat} (hJ : 7 * j + 7 ≤ g.2.2 41) (hL : g.2.2 41 < 2 ^ 31) (ih : LWI g ad j r) : DW g M_Lw_law lwQ w 1720 [(5, .int (nI (7 * j))), (4, .ref (ad 70)), (3, .ref (ad 69)), (2, .ref (ad 52)), (1, .ref (ad 0)), (0, .ref (g.2.2 40))] [] (100 * (r + 1)) (1000 * (r + 1)) := by
  refine y_base (cs := []) (z_I.nil w) ?_
  refine y_aload_n d_Lw_law_1720 rfl 4 rfl ?_
  refine yw_callVL (As := []) (rest := []) (ci := 11) rfl (fun wA hA => (IV.nil hA hI).ra) ln_Lw_326 w_im_Ip_delivered w_se_Ip_delivered ok_Lw_law_Ip_delivered d_Lw_law_1721 (fun wA hA => Q_delivered (IV.nil hA hI)) rfl rfl (Nat.le_of_ble_eq_true rfl) (by omega) (by omega) (fun wA1721 hA1721 E wB1721 hx => ?_) (fun wA1721 hA1721 v wB1721 hx => ?_)
  · obtain ⟨⟨v9, e1⟩, -⟩ := hx
    cases e1
  · obtain ⟨⟨v9, e1⟩, e2⟩ := hx
    cases e1
    subst e2
    have hI2 := IV.nil hA1721 hI
    refine yw_st (st2 := [.long v9]) rfl ?_
    have hI := hI2
    refine y_base (cs := []) (z_I.nil _) ?_
    refine y_pop2 d_Lw_law_1724 rfl ?_
    refine y_aload_n d_Lw_law_1725 rfl 3 rfl ?_
    refine yw_callVL (As := []) (rest := []) (ci := 12) rfl (fun wA hA => (IV.nil hA hI).rm) ln_Lw_330 w_im_Mm_delivered w_se_Mm_delivered ok_Lw_law_Mm_delivered d_Lw_law_1726 (fun wA hA => Q_Mm_delivered (IV.nil hA hI)) rfl rfl (Nat.le_of_ble_eq_true rfl) (by omega) (by omega) (fun wA1726 hA1726 E wB1726 hx => ?_) (fun wA1726 hA1726 v wB1726 hx => ?_)
    · obtain ⟨⟨v9, e1⟩, -⟩ := hx
      cases e1
    · obtain ⟨⟨v8, e1⟩, hI2⟩ := hx
      cases e1
      refine yw_st (st2 := [.long v8]) rfl ?_
      have hI := hI2
      refine y_base (cs := []) (z_I.nil _) ?_
      refine y_pop2 d_Lw_law_1729 rfl ?_
      refine y_goto (tgt := 1780) d_Lw_law_1730 (by decide) ?_
      refine y_lv (lv' := [(5, .int (nI (7 * j))), (4, .ref (ad 70)), (3, .ref (ad 69)), (2, .ref (ad 52)), (1, .ref (ad 0)), (0, .ref (g.2.2 40))]) [0, 1, 2, 3, 4, 5] rfl ?_
      refine y_end (fun wC hC => ?_)
      exact LC_next (IV.nil hC hI) hR hJ hL ih (by omega) (by omega)
theorem d_Lw_law_1733 : decode code 1733 = .ok (.aload_n 1, 1) := by decide +kernel
theorem d_Lw_law_1734 : decode code 1734 = .ok (.aload 4, 2) := by decide +kernel
theorem d_Lw_law_1736 : decode code 1736 = .ok (.invokestatic 331, 3) := by decide +kernel
theorem ok_Lw_law_Lw_goodShare : z_okX M_Lw_law M_Lw_goodShare 2 := ⟨z_mem (i := 1541) (by decide +kernel) (by decide +kernel), by decide, ⟨by decide +kernel, by decide +kernel, by decide +kernel⟩, ⟨by decide, by decide⟩, z_mem (i := 57) (by decide +kernel) (by decide +kernel), rfl⟩
theorem ln_Lw_331 : Cond.methodLink "IronpourLaw" 331 M_Lw_goodShare.1 ∈ z_gw := z_mem (i := 1539) (by decide +kernel) (by decide +kernel)
theorem w_st_Lw_goodShare : Cond.static M_Lw_goodShare.1 ∈ z_gw := z_mem (i := 1540) (by decide +kernel) (by decide +kernel)
theorem d_Lw_law_1739 : decode code 1739 = .ok (.istore 6, 2) := by decide +kernel
theorem d_Lw_law_1741 : decode code 1741 = .ok (.aload_n 2, 1) := by decide +kernel
theorem d_Lw_law_1742 : decode code 1742 = .ok (.invokevirtual 334, 3) := by decide +kernel
theorem ok_Lw_law_Mm_goodShare : z_ok M_Lw_law M_Mm_goodShare 0 := ⟨z_mem (i := 2044) (by decide +kernel) (by decide +kernel), rfl, ⟨by decide +kernel, by decide +kernel, by decide +kernel⟩, ⟨by decide, by decide⟩, z_mem (i := 71) (by decide +kernel) (by decide +kernel), rfl⟩
theorem ln_Lw_334 : Cond.methodLink "IronpourLaw" 334 M_Mm_goodShare.1 ∈ z_gw := z_mem (i := 2041) (by decide +kernel) (by decide +kernel)
theorem w_im_Mm_goodShare : Cond.instanceMethod M_Mm_goodShare.1 ∈ z_gw := z_mem (i := 2042) (by decide +kernel) (by decide +kernel)
theorem w_se_Mm_goodShare : Cond.selects M_Mm_goodShare.1.cls M_Mm_goodShare.1 M_Mm_goodShare.1 ∈ z_gw := z_mem (i := 2043) (by decide +kernel) (by decide +kernel)
theorem d_Lw_law_1745 : decode code 1745 = .ok (.fstore 7, 2) := by decide +kernel
theorem d_Lw_law_1747 : decode code 1747 = .ok (.goto 33, 3) := by decide +kernel
set_option maxHeartbeats 4000000 in
set_option maxRecDepth 100000 in
theorem LC_goodShare {g : zG} {ad : Nat → Nat} {t : zTT} {u : zNN} {w : zW} (hI : IV g ad t u w) (hR : REL t) {j r : Nat} (hJ : 7 * j + 7 ≤ g.2.2 41) (hL : g.2.2 41 < 2 ^ 31) (ih : LWI g ad j r) : DW g M_Lw_law lwQ w 1733 [(5, .int (nI (7 * j))), (4, .ref (ad 70)), (3, .ref (ad 69)), (2, .ref (ad 52)), (1, .ref (ad 0)), (0, .ref (g.2.2 40))] [] (100 * (r + 1)) (1000 * (r + 1)) := by
  refine y_base (cs := []) (z_I.nil w) ?_
  refine y_aload_n d_Lw_law_1733 rfl 4 rfl ?_
  refine y_aload d_Lw_law_1734 1 rfl ?_
  refine yw_callSX (As := [.ref (ad 0), .ref (ad 70)]) (rest := []) ln_Lw_331 w_st_Lw_goodShare ok_Lw_law_Lw_goodShare d_Lw_law_1736 (fun wA hA => W_goodShare (IV.nil hA hI)) rfl rfl (Nat.le_of_ble_eq_true rfl) (by omega) (by omega) (fun wA1736 hA1736 E wB1736 hx => ?_) (fun wA1736 hA1736 v wB1736 hx => ?_)
  · obtain ⟨⟨v9, e1⟩, -⟩ := hx
    cases e1
  · obtain ⟨⟨v9, e1⟩, u2, hI2⟩ := hx
    cases e1
    refine yw_st (st2 := [.int v9]) rfl ?_
    have hI := hI2
    refine y_base (cs := []) (z_I.nil _) ?_
    refine y_istore (lv' := [(6, .int v9), (5, .int (nI (7 * j))), (4, .ref (ad 70)), (3, .ref (ad 69)), (2, .ref (ad 52)), (1, .ref (ad 0)), (0, .ref (g.2.2 40))]) d_Lw_law_1739 (by decide) rfl ?_
    refine y_aload_n d_Lw_law_1741 rfl 4 rfl ?_
    refine yw_callVL (As := []) (rest := []) (ci := 12) rfl (fun wA hA => (IV.nil hA hI).rm) ln_Lw_334 w_im_Mm_goodShare w_se_Mm_goodShare ok_Lw_law_Mm_goodShare d_Lw_law_1742 (fun wA hA => Q_Mm_goodShare (IV.nil hA hI)) rfl rfl (Nat.le_of_ble_eq_true rfl) (by omega) (by omega) (fun wA1742 hA1742 E wB1742 hx => ?_) (fun wA1742 hA1742 v wB1742 hx => ?_)
    · obtain ⟨⟨v9, e1⟩, -⟩ := hx
      cases e1
    · obtain ⟨⟨v8, e1⟩, hI2⟩ := hx
      cases e1
      refine yw_st (st2 := [.float v8]) rfl ?_
      have hI := hI2
      refine y_base (cs := []) (z_I.nil _) ?_
      refine y_fstore (lv' := [(7, .float v8), (6, .int v9), (5, .int (nI (7 * j))), (4, .ref (ad 70)), (3, .ref (ad 69)), (2, .ref (ad 52)), (1, .ref (ad 0)), (0, .ref (g.2.2 40))]) d_Lw_law_1745 (by decide) rfl ?_
      refine y_goto (tgt := 1780) d_Lw_law_1747 (by decide) ?_
      refine y_lv (lv' := [(5, .int (nI (7 * j))), (4, .ref (ad 70)), (3, .ref (ad 69)), (2, .ref (ad 52)), (1, .ref (ad 0)), (0, .ref (g.2.2 40))]) [2, 3, 4, 5, 6, 7] rfl ?_
      refine y_end (fun wC hC => ?_)
      exact LC_next (IV.nil hC hI) hR hJ hL ih (by omega) (by omega)
theorem d_Lw_law_1750 : decode code 1750 = .ok (.aload_n 1, 1) := by decide +kernel
theorem d_Lw_law_1751 : decode code 1751 = .ok (.aload 4, 2) := by decide +kernel
theorem d_Lw_law_1753 : decode code 1753 = .ok (.invokestatic 335, 3) := by decide +kernel
theorem ok_Lw_law_Lw_meanBar : z_okX M_Lw_law M_Lw_meanBar 2 := ⟨z_mem (i := 1566) (by decide +kernel) (by decide +kernel), by decide, ⟨by decide +kernel, by decide +kernel, by decide +kernel⟩, ⟨by decide, by decide⟩, z_mem (i := 57) (by decide +kernel) (by decide +kernel), rfl⟩
theorem ln_Lw_335 : Cond.methodLink "IronpourLaw" 335 M_Lw_meanBar.1 ∈ z_gw := z_mem (i := 1564) (by decide +kernel) (by decide +kernel)
theorem w_st_Lw_meanBar : Cond.static M_Lw_meanBar.1 ∈ z_gw := z_mem (i := 1565) (by decide +kernel) (by decide +kernel)
theorem d_Lw_law_1756 : decode code 1756 = .ok (.istore 6, 2) := by decide +kernel
theorem d_Lw_law_1758 : decode code 1758 = .ok (.aload_n 2, 1) := by decide +kernel
theorem d_Lw_law_1759 : decode code 1759 = .ok (.invokevirtual 337, 3) := by decide +kernel
theorem ok_Lw_law_Mm_meanBar : z_ok M_Lw_law M_Mm_meanBar 0 := ⟨z_mem (i := 2048) (by decide +kernel) (by decide +kernel), rfl, ⟨by decide +kernel, by decide +kernel, by decide +kernel⟩, ⟨by decide, by decide⟩, z_mem (i := 71) (by decide +kernel) (by decide +kernel), rfl⟩
theorem ln_Lw_337 : Cond.methodLink "IronpourLaw" 337 M_Mm_meanBar.1 ∈ z_gw := z_mem (i := 2045) (by decide +kernel) (by decide +kernel)
theorem w_im_Mm_meanBar : Cond.instanceMethod M_Mm_meanBar.1 ∈ z_gw := z_mem (i := 2046) (by decide +kernel) (by decide +kernel)
theorem w_se_Mm_meanBar : Cond.selects M_Mm_meanBar.1.cls M_Mm_meanBar.1 M_Mm_meanBar.1 ∈ z_gw := z_mem (i := 2047) (by decide +kernel) (by decide +kernel)
theorem d_Lw_law_1762 : decode code 1762 = .ok (.dstore 7, 2) := by decide +kernel
theorem d_Lw_law_1764 : decode code 1764 = .ok (.goto 16, 3) := by decide +kernel
set_option maxHeartbeats 4000000 in
set_option maxRecDepth 100000 in
theorem LC_meanBar {g : zG} {ad : Nat → Nat} {t : zTT} {u : zNN} {w : zW} (hI : IV g ad t u w) (hR : REL t) {j r : Nat} (hJ : 7 * j + 7 ≤ g.2.2 41) (hL : g.2.2 41 < 2 ^ 31) (ih : LWI g ad j r) : DW g M_Lw_law lwQ w 1750 [(5, .int (nI (7 * j))), (4, .ref (ad 70)), (3, .ref (ad 69)), (2, .ref (ad 52)), (1, .ref (ad 0)), (0, .ref (g.2.2 40))] [] (100 * (r + 1)) (1000 * (r + 1)) := by
  refine y_base (cs := []) (z_I.nil w) ?_
  refine y_aload_n d_Lw_law_1750 rfl 4 rfl ?_
  refine y_aload d_Lw_law_1751 1 rfl ?_
  refine yw_callSX (As := [.ref (ad 0), .ref (ad 70)]) (rest := []) ln_Lw_335 w_st_Lw_meanBar ok_Lw_law_Lw_meanBar d_Lw_law_1753 (fun wA hA => W_meanBar (IV.nil hA hI)) rfl rfl (Nat.le_of_ble_eq_true rfl) (by omega) (by omega) (fun wA1753 hA1753 E wB1753 hx => ?_) (fun wA1753 hA1753 v wB1753 hx => ?_)
  · obtain ⟨⟨v9, e1⟩, -⟩ := hx
    cases e1
  · obtain ⟨⟨v9, e1⟩, u2, hI2⟩ := hx
    cases e1
    refine yw_st (st2 := [.int v9]) rfl ?_
    have hI := hI2
    refine y_base (cs := []) (z_I.nil _) ?_
    refine y_istore (lv' := [(6, .int v9), (5, .int (nI (7 * j))), (4, .ref (ad 70)), (3, .ref (ad 69)), (2, .ref (ad 52)), (1, .ref (ad 0)), (0, .ref (g.2.2 40))]) d_Lw_law_1756 (by decide) rfl ?_
    refine y_aload_n d_Lw_law_1758 rfl 4 rfl ?_
    refine yw_callVL (As := []) (rest := []) (ci := 12) rfl (fun wA hA => (IV.nil hA hI).rm) ln_Lw_337 w_im_Mm_meanBar w_se_Mm_meanBar ok_Lw_law_Mm_meanBar d_Lw_law_1759 (fun wA hA => Q_Mm_meanBar (IV.nil hA hI)) rfl rfl (Nat.le_of_ble_eq_true rfl) (by omega) (by omega) (fun wA1759 hA1759 E wB1759 hx => ?_) (fun wA1759 hA1759 v wB1759 hx => ?_)
    · obtain ⟨⟨v9, e1⟩, -⟩ := hx
      cases e1
    · obtain ⟨⟨v8, e1⟩, hI2⟩ := hx
      cases e1
      refine yw_st (st2 := [.double v8]) rfl ?_
      have hI := hI2
      refine y_base (cs := []) (z_I.nil _) ?_
      refine y_dstore (lv' := [(7, .double v8), (6, .int v9), (5, .int (nI (7 * j))), (4, .ref (ad 70)), (3, .ref (ad 69)), (2, .ref (ad 52)), (1, .ref (ad 0)), (0, .ref (g.2.2 40))]) d_Lw_law_1762 (by decide) rfl ?_
      refine y_goto (tgt := 1780) d_Lw_law_1764 (by decide) ?_
      refine y_lv (lv' := [(5, .int (nI (7 * j))), (4, .ref (ad 70)), (3, .ref (ad 69)), (2, .ref (ad 52)), (1, .ref (ad 0)), (0, .ref (g.2.2 40))]) [2, 3, 4, 5, 6, 7] rfl ?_
      refine y_end (fun wC hC => ?_)
      exact LC_next (IV.nil hC hI) hR hJ hL ih (by omega) (by omega)
theorem d_Lw_law_260 : decode code 260 = .ok (.aload_n 1, 1) := by decide +kernel
theorem d_Lw_law_261 : decode code 261 = .ok (.aload_n 0, 1) := by decide +kernel
theorem d_Lw_law_262 : decode code 262 = .ok (.iload 5, 2) := by decide +kernel
theorem d_Lw_law_264 : decode code 264 = .ok (.iconst 1, 1) := by decide +kernel
theorem d_Lw_law_265 : decode code 265 = .ok (.iadd, 1) := by decide +kernel
theorem d_Lw_law_266 : decode code 266 = .ok (.iaload, 1) := by decide +kernel
theorem d_Lw_law_267 : decode code 267 = .ok (.i2c, 1) := by decide +kernel
theorem d_Lw_law_268 : decode code 268 = .ok (.aload_n 0, 1) := by decide +kernel
theorem d_Lw_law_269 : decode code 269 = .ok (.iload 5, 2) := by decide +kernel
theorem d_Lw_law_271 : decode code 271 = .ok (.iconst 2, 1) := by decide +kernel
theorem d_Lw_law_272 : decode code 272 = .ok (.iadd, 1) := by decide +kernel
theorem d_Lw_law_273 : decode code 273 = .ok (.iaload, 1) := by decide +kernel
theorem d_Lw_law_274 : decode code 274 = .ok (.aload_n 0, 1) := by decide +kernel
theorem d_Lw_law_275 : decode code 275 = .ok (.iload 5, 2) := by decide +kernel
theorem d_Lw_law_277 : decode code 277 = .ok (.iconst 3, 1) := by decide +kernel
theorem d_Lw_law_278 : decode code 278 = .ok (.iadd, 1) := by decide +kernel
theorem d_Lw_law_279 : decode code 279 = .ok (.iaload, 1) := by decide +kernel
theorem d_Lw_law_280 : decode code 280 = .ok (.aload_n 0, 1) := by decide +kernel
theorem d_Lw_law_281 : decode code 281 = .ok (.iload 5, 2) := by decide +kernel
theorem d_Lw_law_283 : decode code 283 = .ok (.iconst 4, 1) := by decide +kernel
theorem d_Lw_law_284 : decode code 284 = .ok (.iadd, 1) := by decide +kernel
theorem d_Lw_law_285 : decode code 285 = .ok (.iaload, 1) := by decide +kernel
theorem d_Lw_law_286 : decode code 286 = .ok (.aload_n 0, 1) := by decide +kernel
theorem d_Lw_law_287 : decode code 287 = .ok (.iload 5, 2) := by decide +kernel
theorem d_Lw_law_289 : decode code 289 = .ok (.iconst 5, 1) := by decide +kernel
theorem d_Lw_law_290 : decode code 290 = .ok (.iadd, 1) := by decide +kernel
theorem d_Lw_law_291 : decode code 291 = .ok (.iaload, 1) := by decide +kernel
theorem d_Lw_law_292 : decode code 292 = .ok (.aload_n 3, 1) := by decide +kernel
theorem d_Lw_law_293 : decode code 293 = .ok (.invokestatic 169, 3) := by decide +kernel
theorem ok_Lw_law_Lw_draw : z_okX M_Lw_law M_Lw_draw 7 := ⟨z_mem (i := 585) (by decide +kernel) (by decide +kernel), by decide, ⟨by decide +kernel, by decide +kernel, by decide +kernel⟩, ⟨by decide, by decide⟩, z_mem (i := 57) (by decide +kernel) (by decide +kernel), rfl⟩
theorem ln_Lw_169 : Cond.methodLink "IronpourLaw" 169 M_Lw_draw.1 ∈ z_gw := z_mem (i := 583) (by decide +kernel) (by decide +kernel)
theorem w_st_Lw_draw : Cond.static M_Lw_draw.1 ∈ z_gw := z_mem (i := 584) (by decide +kernel) (by decide +kernel)
theorem d_Lw_law_296 : decode code 296 = .ok (.istore 6, 2) := by decide +kernel
theorem d_Lw_law_298 : decode code 298 = .ok (.aload_n 2, 1) := by decide +kernel
theorem d_Lw_law_299 : decode code 299 = .ok (.aload_n 0, 1) := by decide +kernel
theorem d_Lw_law_300 : decode code 300 = .ok (.iload 5, 2) := by decide +kernel
theorem d_Lw_law_302 : decode code 302 = .ok (.iconst 1, 1) := by decide +kernel
theorem d_Lw_law_303 : decode code 303 = .ok (.iadd, 1) := by decide +kernel
theorem d_Lw_law_304 : decode code 304 = .ok (.iaload, 1) := by decide +kernel
theorem d_Lw_law_305 : decode code 305 = .ok (.i2c, 1) := by decide +kernel
theorem d_Lw_law_306 : decode code 306 = .ok (.aload_n 0, 1) := by decide +kernel
theorem d_Lw_law_307 : decode code 307 = .ok (.iload 5, 2) := by decide +kernel
theorem d_Lw_law_309 : decode code 309 = .ok (.iconst 2, 1) := by decide +kernel
theorem d_Lw_law_310 : decode code 310 = .ok (.iadd, 1) := by decide +kernel
theorem d_Lw_law_311 : decode code 311 = .ok (.iaload, 1) := by decide +kernel
theorem d_Lw_law_312 : decode code 312 = .ok (.aload_n 0, 1) := by decide +kernel
theorem d_Lw_law_313 : decode code 313 = .ok (.iload 5, 2) := by decide +kernel
theorem d_Lw_law_315 : decode code 315 = .ok (.iconst 3, 1) := by decide +kernel
theorem d_Lw_law_316 : decode code 316 = .ok (.iadd, 1) := by decide +kernel
theorem d_Lw_law_317 : decode code 317 = .ok (.iaload, 1) := by decide +kernel
theorem d_Lw_law_318 : decode code 318 = .ok (.aload_n 0, 1) := by decide +kernel
theorem d_Lw_law_319 : decode code 319 = .ok (.iload 5, 2) := by decide +kernel
theorem d_Lw_law_321 : decode code 321 = .ok (.iconst 4, 1) := by decide +kernel
theorem d_Lw_law_322 : decode code 322 = .ok (.iadd, 1) := by decide +kernel
theorem d_Lw_law_323 : decode code 323 = .ok (.iaload, 1) := by decide +kernel
theorem d_Lw_law_324 : decode code 324 = .ok (.aload_n 0, 1) := by decide +kernel
theorem d_Lw_law_325 : decode code 325 = .ok (.iload 5, 2) := by decide +kernel
theorem d_Lw_law_327 : decode code 327 = .ok (.iconst 5, 1) := by decide +kernel
theorem d_Lw_law_328 : decode code 328 = .ok (.iadd, 1) := by decide +kernel
theorem d_Lw_law_329 : decode code 329 = .ok (.iaload, 1) := by decide +kernel
theorem d_Lw_law_330 : decode code 330 = .ok (.invokevirtual 174, 3) := by decide +kernel
theorem ok_Lw_law_Mm_draw : z_ok M_Lw_law M_Mm_draw 5 := ⟨z_mem (i := 1677) (by decide +kernel) (by decide +kernel), rfl, ⟨by decide +kernel, by decide +kernel, by decide +kernel⟩, ⟨by decide, by decide⟩, z_mem (i := 71) (by decide +kernel) (by decide +kernel), rfl⟩
theorem ln_Lw_174 : Cond.methodLink "IronpourLaw" 174 M_Mm_draw.1 ∈ z_gw := z_mem (i := 1674) (by decide +kernel) (by decide +kernel)
theorem w_im_Mm_draw : Cond.instanceMethod M_Mm_draw.1 ∈ z_gw := z_mem (i := 1675) (by decide +kernel) (by decide +kernel)
theorem w_se_Mm_draw : Cond.selects M_Mm_draw.1.cls M_Mm_draw.1 M_Mm_draw.1 ∈ z_gw := z_mem (i := 1676) (by decide +kernel) (by decide +kernel)
theorem d_Lw_law_333 : decode code 333 = .ok (.istore 7, 2) := by decide +kernel
theorem d_Lw_law_335 : decode code 335 = .ok (.goto 1445, 3) := by decide +kernel
set_option maxHeartbeats 4000000 in
set_option maxRecDepth 100000 in
theorem LC_draw {g : zG} {ad : Nat → Nat} {t : zTT} {u : zNN} {w : zW} (hI : IV g ad t u w) (hR : REL t) {j r : Nat} (hJ : 7 * j + 7 ≤ g.2.2 41) (hL : g.2.2 41 < 2 ^ 31) (ih : LWI g ad j r) : DW g M_Lw_law lwQ w 260 [(5, .int (nI (7 * j))), (4, .ref (ad 70)), (3, .ref (ad 69)), (2, .ref (ad 52)), (1, .ref (ad 0)), (0, .ref (g.2.2 40))] [] (100 * (r + 1)) (1000 * (r + 1)) := by
  refine y_base (cs := []) (z_I.nil w) ?_
  refine y_aload_n d_Lw_law_260 rfl 4 rfl ?_
  refine y_aload_n d_Lw_law_261 rfl 5 rfl ?_
  refine y_iload d_Lw_law_262 0 rfl ?_
  refine y_iconst d_Lw_law_264 (v := 1) (by decide) ?_
  refine y_iadd d_Lw_law_265 (v := nI ((7 * j) + 1)) (nI_add _ _) ?_
  refine y_sld (v := zs g (7 * j + 1)) d_Lw_law_266 (vp_in_nI (by omega) (by omega)) (by rw [nI_clamp (by omega)]; rfl) ?_
  refine y_i2c d_Lw_law_267 (v := zc g (7 * j + 1)) rfl ?_
  refine y_aload_n d_Lw_law_268 rfl 5 rfl ?_
  refine y_iload d_Lw_law_269 0 rfl ?_
  refine y_iconst d_Lw_law_271 (v := 2) (by decide) ?_
  refine y_iadd d_Lw_law_272 (v := nI ((7 * j) + 2)) (nI_add _ _) ?_
  refine y_sld (v := zs g (7 * j + 2)) d_Lw_law_273 (vp_in_nI (by omega) (by omega)) (by rw [nI_clamp (by omega)]; rfl) ?_
  refine y_aload_n d_Lw_law_274 rfl 5 rfl ?_
  refine y_iload d_Lw_law_275 0 rfl ?_
  refine y_iconst d_Lw_law_277 (v := 3) (by decide) ?_
  refine y_iadd d_Lw_law_278 (v := nI ((7 * j) + 3)) (nI_add _ _) ?_
  refine y_sld (v := zs g (7 * j + 3)) d_Lw_law_279 (vp_in_nI (by omega) (by omega)) (by rw [nI_clamp (by omega)]; rfl) ?_
  refine y_aload_n d_Lw_law_280 rfl 5 rfl ?_
  refine y_iload d_Lw_law_281 0 rfl ?_
  refine y_iconst d_Lw_law_283 (v := 4) (by decide) ?_
  refine y_iadd d_Lw_law_284 (v := nI ((7 * j) + 4)) (nI_add _ _) ?_
  refine y_sld (v := zs g (7 * j + 4)) d_Lw_law_285 (vp_in_nI (by omega) (by omega)) (by rw [nI_clamp (by omega)]; rfl) ?_
  refine y_aload_n d_Lw_law_286 rfl 5 rfl ?_
  refine y_iload d_Lw_law_287 0 rfl ?_
  refine y_iconst d_Lw_law_289 (v := 5) (by decide) ?_
  refine y_iadd d_Lw_law_290 (v := nI ((7 * j) + 5)) (nI_add _ _) ?_
  refine y_sld (v := zs g (7 * j + 5)) d_Lw_law_291 (vp_in_nI (by omega) (by omega)) (by rw [nI_clamp (by omega)]; rfl) ?_
  refine y_aload_n d_Lw_law_292 rfl 2 rfl ?_
  refine yw_callSX (As := [.ref (ad 0), .int (zc g (7 * j + 1)), .int (zs g (7 * j + 2)), .int (zs g (7 * j + 3)), .int (zs g (7 * j + 4)), .int (zs g (7 * j + 5)), .ref (ad 69)]) (rest := []) ln_Lw_169 w_st_Lw_draw ok_Lw_law_Lw_draw d_Lw_law_293 (fun wA hA => W_draw (IV.nil hA hI) _ _ _ _ _) rfl rfl (Nat.le_of_ble_eq_true rfl) (by omega) (by omega) (fun wA293 hA293 E wB293 hx => ?_) (fun wA293 hA293 v wB293 hx => ?_)
  · obtain ⟨⟨v9, e1⟩, -⟩ := hx
    cases e1
  · obtain ⟨⟨v9, e1⟩, u2, hI2⟩ := hx
    cases e1
    refine yw_st (st2 := [.int v9]) rfl ?_
    have hI := hI2
    refine y_base (cs := []) (z_I.nil _) ?_
    refine y_istore (lv' := [(6, .int v9), (5, .int (nI (7 * j))), (4, .ref (ad 70)), (3, .ref (ad 69)), (2, .ref (ad 52)), (1, .ref (ad 0)), (0, .ref (g.2.2 40))]) d_Lw_law_296 (by decide) rfl ?_
    refine y_aload_n d_Lw_law_298 rfl 4 rfl ?_
    refine y_aload_n d_Lw_law_299 rfl 6 rfl ?_
    refine y_iload d_Lw_law_300 1 rfl ?_
    refine y_iconst d_Lw_law_302 (v := 1) (by decide) ?_
    refine y_iadd d_Lw_law_303 (v := nI ((7 * j) + 1)) (nI_add _ _) ?_
    refine y_sld (v := zs g (7 * j + 1)) d_Lw_law_304 (vp_in_nI (by omega) (by omega)) (by rw [nI_clamp (by omega)]; rfl) ?_
    refine y_i2c d_Lw_law_305 (v := zc g (7 * j + 1)) rfl ?_
    refine y_aload_n d_Lw_law_306 rfl 6 rfl ?_
    refine y_iload d_Lw_law_307 1 rfl ?_
    refine y_iconst d_Lw_law_309 (v := 2) (by decide) ?_
    refine y_iadd d_Lw_law_310 (v := nI ((7 * j) + 2)) (nI_add _ _) ?_
    refine y_sld (v := zs g (7 * j + 2)) d_Lw_law_311 (vp_in_nI (by omega) (by omega)) (by rw [nI_clamp (by omega)]; rfl) ?_
    refine y_aload_n d_Lw_law_312 rfl 6 rfl ?_
    refine y_iload d_Lw_law_313 1 rfl ?_
    refine y_iconst d_Lw_law_315 (v := 3) (by decide) ?_
    refine y_iadd d_Lw_law_316 (v := nI ((7 * j) + 3)) (nI_add _ _) ?_
    refine y_sld (v := zs g (7 * j + 3)) d_Lw_law_317 (vp_in_nI (by omega) (by omega)) (by rw [nI_clamp (by omega)]; rfl) ?_
    refine y_aload_n d_Lw_law_318 rfl 6 rfl ?_
    refine y_iload d_Lw_law_319 1 rfl ?_
    refine y_iconst d_Lw_law_321 (v := 4) (by decide) ?_
    refine y_iadd d_Lw_law_322 (v := nI ((7 * j) + 4)) (nI_add _ _) ?_
    refine y_sld (v := zs g (7 * j + 4)) d_Lw_law_323 (vp_in_nI (by omega) (by omega)) (by rw [nI_clamp (by omega)]; rfl) ?_
    refine y_aload_n d_Lw_law_324 rfl 6 rfl ?_
    refine y_iload d_Lw_law_325 1 rfl ?_
    refine y_iconst d_Lw_law_327 (v := 5) (by decide) ?_
    refine y_iadd d_Lw_law_328 (v := nI ((7 * j) + 5)) (nI_add _ _) ?_
    refine y_sld (v := zs g (7 * j + 5)) d_Lw_law_329 (vp_in_nI (by omega) (by omega)) (by rw [nI_clamp (by omega)]; rfl) ?_
    refine yw_callVL (As := [.int (zc g (7 * j + 1)), .int (zs g (7 * j + 2)), .int (zs g (7 * j + 3)), .int (zs g (7 * j + 4)), .int (zs g (7 * j + 5))]) (rest := []) (ci := 12) rfl (fun wA hA => (IV.nil hA hI).rm) ln_Lw_174 w_im_Mm_draw w_se_Mm_draw ok_Lw_law_Mm_draw d_Lw_law_330 (fun wA hA => K_Mm_draw (IV.nil hA hI) _ _ _ _ _) rfl rfl (Nat.le_of_ble_eq_true rfl) (by omega) (by omega) (fun wA330 hA330 E wB330 hx => ?_) (fun wA330 hA330 v wB330 hx => ?_)
    · obtain ⟨⟨v8, e1⟩, -⟩ := hx
      cases e1
    · obtain ⟨⟨v8, e1⟩, u2, hI2⟩ := hx
      cases e1
      refine yw_st (st2 := [.int v8]) rfl ?_
      have hI := hI2
      refine y_base (cs := []) (z_I.nil _) ?_
      refine y_istore (lv' := [(7, .int v8), (6, .int v9), (5, .int (nI (7 * j))), (4, .ref (ad 70)), (3, .ref (ad 69)), (2, .ref (ad 52)), (1, .ref (ad 0)), (0, .ref (g.2.2 40))]) d_Lw_law_333 (by decide) rfl ?_
      refine y_goto (tgt := 1780) d_Lw_law_335 (by decide) ?_
      refine y_lv (lv' := [(5, .int (nI (7 * j))), (4, .ref (ad 70)), (3, .ref (ad 69)), (2, .ref (ad 52)), (1, .ref (ad 0)), (0, .ref (g.2.2 40))]) [2, 3, 4, 5, 6, 7] rfl ?_
      refine y_end (fun wC hC => ?_)
      exact LC_next (IV.nil hC hI) ⟨by show drawT _ _ _ _ _ t.2.1 = drawT _ _ _ _ _ t.1; rw [hR.1], hR.2⟩ hJ hL ih (by omega) (by omega)
theorem d_Lw_law_378 : decode code 378 = .ok (.aload_n 1, 1) := by decide +kernel
theorem d_Lw_law_379 : decode code 379 = .ok (.aload_n 0, 1) := by decide +kernel
theorem d_Lw_law_380 : decode code 380 = .ok (.iload 5, 2) := by decide +kernel
theorem d_Lw_law_382 : decode code 382 = .ok (.iconst 1, 1) := by decide +kernel
theorem d_Lw_law_383 : decode code 383 = .ok (.iadd, 1) := by decide +kernel
theorem d_Lw_law_384 : decode code 384 = .ok (.iaload, 1) := by decide +kernel
theorem d_Lw_law_385 : decode code 385 = .ok (.aload_n 3, 1) := by decide +kernel
theorem d_Lw_law_386 : decode code 386 = .ok (.invokestatic 179, 3) := by decide +kernel
theorem ok_Lw_law_Lw_part : z_okX M_Lw_law M_Lw_part 3 := ⟨z_mem (i := 815) (by decide +kernel) (by decide +kernel), by decide, ⟨by decide +kernel, by decide +kernel, by decide +kernel⟩, ⟨by decide, by decide⟩, z_mem (i := 57) (by decide +kernel) (by decide +kernel), rfl⟩
theorem ln_Lw_179 : Cond.methodLink "IronpourLaw" 179 M_Lw_part.1 ∈ z_gw := z_mem (i := 813) (by decide +kernel) (by decide +kernel)
theorem w_st_Lw_part : Cond.static M_Lw_part.1 ∈ z_gw := z_mem (i := 814) (by decide +kernel) (by decide +kernel)
theorem d_Lw_law_389 : decode code 389 = .ok (.istore 6, 2) := by decide +kernel
theorem d_Lw_law_391 : decode code 391 = .ok (.aload_n 2, 1) := by decide +kernel
theorem d_Lw_law_392 : decode code 392 = .ok (.aload_n 0, 1) := by decide +kernel
theorem d_Lw_law_393 : decode code 393 = .ok (.iload 5, 2) := by decide +kernel
theorem d_Lw_law_395 : decode code 395 = .ok (.iconst 1, 1) := by decide +kernel
theorem d_Lw_law_396 : decode code 396 = .ok (.iadd, 1) := by decide +kernel
theorem d_Lw_law_397 : decode code 397 = .ok (.iaload, 1) := by decide +kernel
theorem d_Lw_law_398 : decode code 398 = .ok (.invokevirtual 182, 3) := by decide +kernel
theorem ok_Lw_law_Mm_part : z_ok M_Lw_law M_Mm_part 1 := ⟨z_mem (i := 1697) (by decide +kernel) (by decide +kernel), rfl, ⟨by decide +kernel, by decide +kernel, by decide +kernel⟩, ⟨by decide, by decide⟩, z_mem (i := 71) (by decide +kernel) (by decide +kernel), rfl⟩
theorem ln_Lw_182 : Cond.methodLink "IronpourLaw" 182 M_Mm_part.1 ∈ z_gw := z_mem (i := 1694) (by decide +kernel) (by decide +kernel)
theorem w_im_Mm_part : Cond.instanceMethod M_Mm_part.1 ∈ z_gw := z_mem (i := 1695) (by decide +kernel) (by decide +kernel)
theorem w_se_Mm_part : Cond.selects M_Mm_part.1.cls M_Mm_part.1 M_Mm_part.1 ∈ z_gw := z_mem (i := 1696) (by decide +kernel) (by decide +kernel)
theorem d_Lw_law_401 : decode code 401 = .ok (.istore 7, 2) := by decide +kernel
theorem d_Lw_law_403 : decode code 403 = .ok (.goto 1377, 3) := by decide +kernel
set_option maxHeartbeats 4000000 in
set_option maxRecDepth 100000 in
theorem LC_part {g : zG} {ad : Nat → Nat} {t : zTT} {u : zNN} {w : zW} (hI : IV g ad t u w) (hR : REL t) {j r : Nat} (hJ : 7 * j + 7 ≤ g.2.2 41) (hL : g.2.2 41 < 2 ^ 31) (ih : LWI g ad j r) : DW g M_Lw_law lwQ w 378 [(5, .int (nI (7 * j))), (4, .ref (ad 70)), (3, .ref (ad 69)), (2, .ref (ad 52)), (1, .ref (ad 0)), (0, .ref (g.2.2 40))] [] (100 * (r + 1)) (1000 * (r + 1)) := by
  refine y_base (cs := []) (z_I.nil w) ?_
  refine y_aload_n d_Lw_law_378 rfl 4 rfl ?_
  refine y_aload_n d_Lw_law_379 rfl 5 rfl ?_
  refine y_iload d_Lw_law_380 0 rfl ?_
  refine y_iconst d_Lw_law_382 (v := 1) (by decide) ?_
  refine y_iadd d_Lw_law_383 (v := nI ((7 * j) + 1)) (nI_add _ _) ?_
  refine y_sld (v := zs g (7 * j + 1)) d_Lw_law_384 (vp_in_nI (by omega) (by omega)) (by rw [nI_clamp (by omega)]; rfl) ?_
  refine y_aload_n d_Lw_law_385 rfl 2 rfl ?_
  refine yw_callSX (As := [.ref (ad 0), .int (zs g (7 * j + 1)), .ref (ad 69)]) (rest := []) ln_Lw_179 w_st_Lw_part ok_Lw_law_Lw_part d_Lw_law_386 (fun wA hA => W_part (IV.nil hA hI) _) rfl rfl (Nat.le_of_ble_eq_true rfl) (by omega) (by omega) (fun wA386 hA386 E wB386 hx => ?_) (fun wA386 hA386 v wB386 hx => ?_)
  · obtain ⟨⟨v9, e1⟩, -⟩ := hx
    cases e1
  · obtain ⟨⟨v9, e1⟩, u2, hI2⟩ := hx
    cases e1
    refine yw_st (st2 := [.int v9]) rfl ?_
    have hI := hI2
    refine y_base (cs := []) (z_I.nil _) ?_
    refine y_istore (lv' := [(6, .int v9), (5, .int (nI (7 * j))), (4, .ref (ad 70)), (3, .ref (ad 69)), (2, .ref (ad 52)), (1, .ref (ad 0)), (0, .ref (g.2.2 40))]) d_Lw_law_389 (by decide) rfl ?_
    refine y_aload_n d_Lw_law_391 rfl 4 rfl ?_
    refine y_aload_n d_Lw_law_392 rfl 6 rfl ?_
    refine y_iload d_Lw_law_393 1 rfl ?_
    refine y_iconst d_Lw_law_395 (v := 1) (by decide) ?_
    refine y_iadd d_Lw_law_396 (v := nI ((7 * j) + 1)) (nI_add _ _) ?_
    refine y_sld (v := zs g (7 * j + 1)) d_Lw_law_397 (vp_in_nI (by omega) (by omega)) (by rw [nI_clamp (by omega)]; rfl) ?_
    refine yw_callVL (As := [.int (zs g (7 * j + 1))]) (rest := []) (ci := 12) rfl (fun wA hA => (IV.nil hA hI).rm) ln_Lw_182 w_im_Mm_part w_se_Mm_part ok_Lw_law_Mm_part d_Lw_law_398 (fun wA hA => K_Mm_part (IV.nil hA hI) _) rfl rfl (Nat.le_of_ble_eq_true rfl) (by omega) (by omega) (fun wA398 hA398 E wB398 hx => ?_) (fun wA398 hA398 v wB398 hx => ?_)
    · obtain ⟨⟨v8, e1⟩, -⟩ := hx
      cases e1
    · obtain ⟨⟨v8, e1⟩, u2, hI2⟩ := hx
      cases e1
      refine yw_st (st2 := [.int v8]) rfl ?_
      have hI := hI2
      refine y_base (cs := []) (z_I.nil _) ?_
      refine y_istore (lv' := [(7, .int v8), (6, .int v9), (5, .int (nI (7 * j))), (4, .ref (ad 70)), (3, .ref (ad 69)), (2, .ref (ad 52)), (1, .ref (ad 0)), (0, .ref (g.2.2 40))]) d_Lw_law_401 (by decide) rfl ?_
      refine y_goto (tgt := 1780) d_Lw_law_403 (by decide) ?_
      refine y_lv (lv' := [(5, .int (nI (7 * j))), (4, .ref (ad 70)), (3, .ref (ad 69)), (2, .ref (ad 52)), (1, .ref (ad 0)), (0, .ref (g.2.2 40))]) [2, 3, 4, 5, 6, 7] rfl ?_
      refine y_end (fun wC hC => ?_)
      exact LC_next (IV.nil hC hI) ⟨hR.1, by show partT _ t.2.2.2.1 = partT _ t.2.2.1; rw [hR.2]⟩ hJ hL ih (by omega) (by omega)
