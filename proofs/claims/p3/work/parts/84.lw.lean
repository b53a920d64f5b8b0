theorem y_pop2 {g : zG} {M : zM} {Ψ : zO → zW → Prop} {w0 : zW} {n pc : Nat} {lv : List (Nat × Value)} {st : List Value} {cs : zC} {kc ks : Nat} {v : Value} (hd : decode M.2.1 pc = .ok (.pop2, 1)) (hv : v.category = 2) (k : DU g M Ψ w0 n (pc + 1) lv st cs kc ks) : DU g M Ψ w0 n pc lv (v :: st) cs kc ks := fun w p l e R s m args below meth c A mc ms H locs cells slots ls ws I C T => lv_pop2_2 C.1.1 C.1.2.1 hd hv (k w p l e R s m args below meth c A mc ms H locs cells slots ls ws I C T)
def zs (g : zG) (k : Nat) : Int32 := Int32.ofNat (g.2.2 (100 + k))
def zc (g : zG) (k : Nat) : Int32 := ((zs g k).toUInt32 % 65536).toInt32
def lwQ : zO → zW → Prop := fun o _ => o = .inl (some (.int 1))
def REL (t : zTT) : Prop := t.2.1 = t.1 ∧ t.2.2.2.1 = t.2.2.1
theorem REL.lc {t : zTT} (x1 x2 x3 x4 x5 x6 : Int32) (h : REL t) : REL (lcM x1 x2 x3 x4 x5 x6 (lcC x1 x2 x3 x4 x5 x6 t)) := by
  have h2 : REL (lcC x1 x2 x3 x4 x5 x6 t) := by
    unfold lcC
    split
    · exact h
    · exact h
  unfold lcM
  split
  · exact h2
  · exact h2
def LWI (g : zG) (ad : Nat → Nat) (j r : Nat) : Prop := ∀ (t : zTT) (u : zNN) (w : zW), IV g ad t u w → REL t → DW g M_Lw_law lwQ w 28 [(5, .int (nI (7 * (j + 1)))), (4, .ref (ad 70)), (3, .ref (ad 69)), (2, .ref (ad 52)), (1, .ref (ad 0)), (0, .ref (g.2.2 40))] [] (100 * r) (1000 * r)
theorem lgc_self (a : Int64) : lg_cmp a a = 0 := by
  unfold lg_cmp
  simp
theorem z_63 (x : Int32) : ∃ k, k < 64 ∧ x &&& 63 = nI k := by
  have h : (x &&& 63).toBitVec.toNat = x.toBitVec.toNat % 64 := by
    rw [Int32.toBitVec_and, BitVec.toNat_and]
    exact Nat.and_two_pow_sub_one_eq_mod _ 6
  refine ⟨x.toBitVec.toNat % 64, Nat.mod_lt _ (by decide), Int32.toBitVec_inj.mp (BitVec.eq_of_toNat_eq ?_)⟩
  rw [h]
  show _ = (BitVec.ofNat 32 (x.toBitVec.toNat % 64)).toNat
  rw [BitVec.toNat_ofNat]
  exact (Nat.mod_eq_of_lt (Nat.lt_trans (Nat.mod_lt _ (by decide)) (by decide))).symm
theorem z_shL {L : Nat} (h : L < 7) : nI L - 7 < (0 : Int32) := by
  have h9 : L = 0 ∨ L = 1 ∨ L = 2 ∨ L = 3 ∨ L = 4 ∨ L = 5 ∨ L = 6 := by omega
  rcases h9 with rfl | rfl | rfl | rfl | rfl | rfl | rfl <;> decide
theorem z_shg {L k : Nat} (h : k + 7 ≤ L) (hL : L < 2 ^ 31) : ¬ nI L - 7 < nI k := by
  rw [show nI L - 7 = nI (L - 7) from pk_sub (a := L) (b := 7) (by omega)]
  exact fun q => absurd ((nI_ltI (by omega) (by omega)).mp q) (by omega)
theorem z_shl {L k : Nat} (h : ¬ k + 7 ≤ L) (hL : L < 2 ^ 31) (hk : k < 2 ^ 31) : nI L - 7 < nI k := by
  by_cases h7 : L < 7
  · exact Int32.lt_of_lt_of_le (z_shL h7) (Int32.not_lt.mp (nI_nneg hk))
  · rw [show nI L - 7 = nI (L - 7) from pk_sub (a := L) (b := 7) (by omega)]
    exact (nI_ltI (by omega) hk).mpr (by omega)
theorem Q_Mm_meanBar {g : zG} {ad : Nat → Nat} {t : zTT} {u : zNN} {w : zW} (hI : IV g ad t u w) : zMB g M_Mm_meanBar [.ref (ad 52)] w (fun o w1 => (∃ v : UInt64, o = .inl (some (.double v))) ∧ IV g ad t u w1) 0 0 := by
  by_cases h0 : u.1 5 = 0
  · exact Q_Mm_meanBarE hI h0
  · exact Q_Mm_meanBarN hI h0
abbrev M_Lw_law : zM := (⟨"IronpourLaw", "law", "([I)Z"⟩, code, 9, (Option.some FieldType.boolean), 11, 274, [])
theorem d_Lw_law_1808 : decode code 1808 = .ok (.iinc 5 7, 3) := by decide +kernel
theorem d_Lw_law_1811 : decode code 1811 = .ok (.goto (-1783), 3) := by decide +kernel
set_option maxHeartbeats 4000000 in
set_option maxRecDepth 100000 in
theorem LC_next {g : zG} {ad : Nat → Nat} {t : zTT} {u : zNN} {w : zW} (hI : IV g ad t u w) (hR : REL t) {j r : Nat} (hJ : 7 * j + 7 ≤ g.2.2 41) (hL : g.2.2 41 < 2 ^ 31) (ih : LWI g ad j r) {kc ks : Nat} (h1 : 100 * r ≤ kc) (h2 : 1000 * r ≤ ks) : DW g M_Lw_law lwQ w 1808 [(5, .int (nI (7 * j))), (4, .ref (ad 70)), (3, .ref (ad 69)), (2, .ref (ad 52)), (1, .ref (ad 0)), (0, .ref (g.2.2 40))] [] kc ks := by
  refine y_base (cs := []) (z_I.nil w) ?_
  refine y_iinc (lv' := [(5, .int (nI ((7 * j) + 7))), (4, .ref (ad 70)), (3, .ref (ad 69)), (2, .ref (ad 52)), (1, .ref (ad 0)), (0, .ref (g.2.2 40))]) (v := nI ((7 * j) + 7)) d_Lw_law_1808 (j := 0) rfl (nI_add _ _) (by decide) rfl ?_
  refine y_goto (tgt := 28) d_Lw_law_1811 (by decide) ?_
  refine y_lv (lv' := [(5, .int (nI ((7 * j) + 7))), (4, .ref (ad 70)), (3, .ref (ad 69)), (2, .ref (ad 52)), (1, .ref (ad 0)), (0, .ref (g.2.2 40))]) [0, 1, 2, 3, 4, 5] rfl ?_
  refine y_end (fun wC hC => ?_)
  exact yw_bud h1 h2 (ih _ _ _ (IV.nil hC hI) hR)
theorem d_Lw_law_260 : decode code 260 = .ok (.aload_n 1, 1) := by decide +kernel
theorem d_Lw_law_261 : decode code 261 = .ok (.aload_n 0, 1) := by decide +kernel
theorem d_Lw_law_262 : decode code 262 = .ok (.iload 5, 2) := by decide +kernel
theorem d_Lw_law_264 : decode code 264 = .ok (.iconst 1, 1) := by decide +kernel
theorem d_Lw_law_265 : decode code 265 = .ok (.iadd, 1) := by decide +kernel
theorem d_Lw_law_266 : decode code 266 = .ok (.iaload, 1) := by decide +kernel
theorem d_Lw_law_267 : decode code 267 = .ok (.i2c, 1) := by decide +kernel
theorem d_Lw_law_268 : decode code 268 = .ok (.aload_n 0, 1) := by decide +kernel
theorem d_Lw_law_269 : decode code 269 = .ok (.iload 5, 2) := by decide +kernel
theorem d_Lw_law_271 : decode code 271 = .ok (.iconst 2, 1) := by decide +kernel
theorem d_Lw_law_272 : decode code 272 = .ok (.iadd, 1) := by decide +kernel
theorem d_Lw_law_273 : decode code 273 = .ok (.iaload, 1) := by decide +kernel
theorem d_Lw_law_274 : decode code 274 = .ok (.aload_n 0, 1) := by decide +kernel
theorem d_Lw_law_275 : decode code 275 = .ok (.iload 5, 2) := by decide +kernel
theorem d_Lw_law_277 : decode code 277 = .ok (.iconst 3, 1) := by decide +kernel
theorem d_Lw_law_278 : decode code 278 = .ok (.iadd, 1) := by decide +kernel
theorem d_Lw_law_279 : decode code 279 = .ok (.iaload, 1) := by decide +kernel
theorem d_Lw_law_280 : decode code 280 = .ok (.aload_n 0, 1) := by decide +kernel
theorem d_Lw_law_281 : decode code 281 = .ok (.iload 5, 2) := by decide +kernel
theorem d_Lw_law_283 : decode code 283 = .ok (.iconst 4, 1) := by decide +kernel
theorem d_Lw_law_284 : decode code 284 = .ok (.iadd, 1) := by decide +kernel
theorem d_Lw_law_285 : decode code 285 = .ok (.iaload, 1) := by decide +kernel
theorem d_Lw_law_286 : decode code 286 = .ok (.aload_n 0, 1) := by decide +kernel
theorem d_Lw_law_287 : decode code 287 = .ok (.iload 5, 2) := by decide +kernel
theorem d_Lw_law_289 : decode code 289 = .ok (.iconst 5, 1) := by decide +kernel
theorem d_Lw_law_290 : decode code 290 = .ok (.iadd, 1) := by decide +kernel
theorem d_Lw_law_291 : decode code 291 = .ok (.iaload, 1) := by decide +kernel
theorem d_Lw_law_292 : decode code 292 = .ok (.aload_n 3, 1) := by decide +kernel
theorem d_Lw_law_293 : decode code 293 = .ok (.invokestatic 169, 3) := by decide +kernel
theorem ok_Lw_law_Lw_draw : z_okX M_Lw_law M_Lw_draw 7 := ⟨z_mem (i := 585) (by decide +kernel) (by decide +kernel), by decide, ⟨by decide +kernel, by decide +kernel, by decide +kernel⟩, ⟨by decide, by decide⟩, z_mem (i := 57) (by decide +kernel) (by decide +kernel), rfl⟩
theorem ln_Lw_169 : Cond.methodLink "IronpourLaw" 169 M_Lw_draw.1 ∈ z_gw := z_mem (i := 583) (by decide +kernel) (by decide +kernel)
theorem w_st_Lw_draw : Cond.static M_Lw_draw.1 ∈ z_gw := z_mem (i := 584) (by decide +kernel) (by decide +kernel)
theorem d_Lw_law_296 : decode code 296 = .ok (.istore 6, 2) := by decide +kernel
theorem d_Lw_law_298 : decode code 298 = .ok (.aload_n 2, 1) := by decide +kernel
theorem d_Lw_law_299 : decode code 299 = .ok (.aload_n 0, 1) := by decide +kernel
theorem d_Lw_law_300 : decode code 300 = .ok (.iload 5, 2) := by decide +kernel
theorem d_Lw_law_302 : decode code 302 = .ok (.iconst 1, 1) := by decide +kernel
theorem d_Lw_law_303 : decode code 303 = .ok (.iadd, 1) := by decide +kernel
theorem d_Lw_law_304 : decode code 304 = .ok (.iaload, 1) := by decide +kernel
theorem d_Lw_law_305 : decode code 305 = .ok (.i2c, 1) := by decide +kernel
theorem d_Lw_law_306 : decode code 306 = .ok (.aload_n 0, 1) := by decide +kernel
theorem d_Lw_law_307 : decode code 307 = .ok (.iload 5, 2) := by decide +kernel
theorem d_Lw_law_309 : decode code 309 = .ok (.iconst 2, 1) := by decide +kernel
theorem d_Lw_law_310 : decode code 310 = .ok (.iadd, 1) := by decide +kernel
theorem d_Lw_law_311 : decode code 311 = .ok (.iaload, 1) := by decide +kernel
theorem d_Lw_law_312 : decode code 312 = .ok (.aload_n 0, 1) := by decide +kernel
theorem d_Lw_law_313 : decode code 313 = .ok (.iload 5, 2) := by decide +kernel
theorem d_Lw_law_315 : decode code 315 = .ok (.iconst 3, 1) := by decide +kernel
theorem d_Lw_law_316 : decode code 316 = .ok (.iadd, 1) := by decide +kernel
theorem d_Lw_law_317 : decode code 317 = .ok (.iaload, 1) := by decide +kernel
theorem d_Lw_law_318 : decode code 318 = .ok (.aload_n 0, 1) := by decide +kernel
theorem d_Lw_law_319 : decode code 319 = .ok (.iload 5, 2) := by decide +kernel
theorem d_Lw_law_321 : decode code 321 = .ok (.iconst 4, 1) := by decide +kernel
theorem d_Lw_law_322 : decode code 322 = .ok (.iadd, 1) := by decide +kernel
theorem d_Lw_law_323 : decode code 323 = .ok (.iaload, 1) := by decide +kernel
theorem d_Lw_law_324 : decode code 324 = .ok (.aload_n 0, 1) := by decide +kernel
theorem d_Lw_law_325 : decode code 325 = .ok (.iload 5, 2) := by decide +kernel
theorem d_Lw_law_327 : decode code 327 = .ok (.iconst 5, 1) := by decide +kernel
theorem d_Lw_law_328 : decode code 328 = .ok (.iadd, 1) := by decide +kernel
theorem d_Lw_law_329 : decode code 329 = .ok (.iaload, 1) := by decide +kernel
theorem d_Lw_law_330 : decode code 330 = .ok (.invokevirtual 174, 3) := by decide +kernel
theorem ok_Lw_law_Mm_draw : z_ok M_Lw_law M_Mm_draw 5 := ⟨z_mem (i := 1681) (by decide +kernel) (by decide +kernel), rfl, ⟨by decide +kernel, by decide +kernel, by decide +kernel⟩, ⟨by decide, by decide⟩, z_mem (i := 71) (by decide +kernel) (by decide +kernel), rfl⟩
theorem ln_Lw_174 : Cond.methodLink "IronpourLaw" 174 M_Mm_draw.1 ∈ z_gw := z_mem (i := 1678) (by decide +kernel) (by decide +kernel)
theorem w_im_Mm_draw : Cond.instanceMethod M_Mm_draw.1 ∈ z_gw := z_mem (i := 1679) (by decide +kernel) (by decide +kernel)
theorem w_se_Mm_draw : Cond.selects M_Mm_draw.1.cls M_Mm_draw.1 M_Mm_draw.1 ∈ z_gw := z_mem (i := 1680) (by decide +kernel) (by decide +kernel)
theorem d_Lw_law_333 : decode code 333 = .ok (.istore 7, 2) := by decide +kernel
theorem d_Lw_law_335 : decode code 335 = .ok (.goto 1473, 3) := by decide +kernel
set_option maxHeartbeats 4000000 in
set_option maxRecDepth 100000 in
theorem LC_draw {g : zG} {ad : Nat → Nat} {t : zTT} {u : zNN} {w : zW} (hI : IV g ad t u w) (hR : REL t) {j r : Nat} (hJ : 7 * j + 7 ≤ g.2.2 41) (hL : g.2.2 41 < 2 ^ 31) (ih : LWI g ad j r) : DW g M_Lw_law lwQ w 260 [(5, .int (nI (7 * j))), (4, .ref (ad 70)), (3, .ref (ad 69)), (2, .ref (ad 52)), (1, .ref (ad 0)), (0, .ref (g.2.2 40))] [] (100 * (r + 1)) (1000 * (r + 1)) := by
  refine y_base (cs := []) (z_I.nil w) ?_
  refine y_aload_n d_Lw_law_260 rfl 4 rfl ?_
  refine y_aload_n d_Lw_law_261 rfl 5 rfl ?_
  refine y_iload d_Lw_law_262 0 rfl ?_
  refine y_iconst d_Lw_law_264 (v := 1) (by decide) ?_
  refine y_iadd d_Lw_law_265 (v := nI ((7 * j) + 1)) (nI_add _ _) ?_
  refine y_sld (v := zs g (7 * j + 1)) d_Lw_law_266 (vp_in_nI (by omega) (by omega)) (by rw [nI_clamp (by omega)]; rfl) ?_
  refine y_i2c d_Lw_law_267 (v := zc g (7 * j + 1)) rfl ?_
  refine y_aload_n d_Lw_law_268 rfl 5 rfl ?_
  refine y_iload d_Lw_law_269 0 rfl ?_
  refine y_iconst d_Lw_law_271 (v := 2) (by decide) ?_
  refine y_iadd d_Lw_law_272 (v := nI ((7 * j) + 2)) (nI_add _ _) ?_
  refine y_sld (v := zs g (7 * j + 2)) d_Lw_law_273 (vp_in_nI (by omega) (by omega)) (by rw [nI_clamp (by omega)]; rfl) ?_
  refine y_aload_n d_Lw_law_274 rfl 5 rfl ?_
  refine y_iload d_Lw_law_275 0 rfl ?_
  refine y_iconst d_Lw_law_277 (v := 3) (by decide) ?_
  refine y_iadd d_Lw_law_278 (v := nI ((7 * j) + 3)) (nI_add _ _) ?_
  refine y_sld (v := zs g (7 * j + 3)) d_Lw_law_279 (vp_in_nI (by omega) (by omega)) (by rw [nI_clamp (by omega)]; rfl) ?_
  refine y_aload_n d_Lw_law_280 rfl 5 rfl ?_
  refine y_iload d_Lw_law_281 0 rfl ?_
  refine y_iconst d_Lw_law_283 (v := 4) (by decide) ?_
  refine y_iadd d_Lw_law_284 (v := nI ((7 * j) + 4)) (nI_add _ _) ?_
  refine y_sld (v := zs g (7 * j + 4)) d_Lw_law_285 (vp_in_nI (by omega) (by omega)) (by rw [nI_clamp (by omega)]; rfl) ?_
  refine y_aload_n d_Lw_law_286 rfl 5 rfl ?_
  refine y_iload d_Lw_law_287 0 rfl ?_
  refine y_iconst d_Lw_law_289 (v := 5) (by decide) ?_
  refine y_iadd d_Lw_law_290 (v := nI ((7 * j) + 5)) (nI_add _ _) ?_
  refine y_sld (v := zs g (7 * j + 5)) d_Lw_law_291 (vp_in_nI (by omega) (by omega)) (by rw [nI_clamp (by omega)]; rfl) ?_
  refine y_aload_n d_Lw_law_292 rfl 2 rfl ?_
  refine yw_callSX (As := [.ref (ad 0), .int (zc g (7 * j + 1)), .int (zs g (7 * j + 2)), .int (zs g (7 * j + 3)), .int (zs g (7 * j + 4)), .int (zs g (7 * j + 5)), .ref (ad 69)]) (rest := []) ln_Lw_169 w_st_Lw_draw ok_Lw_law_Lw_draw d_Lw_law_293 (fun wA hA => W_draw (IV.nil hA hI) _ _ _ _ _) rfl rfl (Nat.le_of_ble_eq_true rfl) (by omega) (by omega) (fun wA293 hA293 E wB293 hx => ?_) (fun wA293 hA293 v wB293 hx => ?_)
  · obtain ⟨⟨v9, e1⟩, -⟩ := hx
    cases e1
  · obtain ⟨⟨v9, e1⟩, u2, hI2⟩ := hx
    cases e1
    refine yw_st (st2 := [.int v9]) rfl ?_
    have hI := hI2
    refine y_base (cs := []) (z_I.nil _) ?_
    refine y_istore (lv' := [(6, .int v9), (5, .int (nI (7 * j))), (4, .ref (ad 70)), (3, .ref (ad 69)), (2, .ref (ad 52)), (1, .ref (ad 0)), (0, .ref (g.2.2 40))]) d_Lw_law_296 (by decide) rfl ?_
    refine y_aload_n d_Lw_law_298 rfl 4 rfl ?_
    refine y_aload_n d_Lw_law_299 rfl 6 rfl ?_
    refine y_iload d_Lw_law_300 1 rfl ?_
    refine y_iconst d_Lw_law_302 (v := 1) (by decide) ?_
    refine y_iadd d_Lw_law_303 (v := nI ((7 * j) + 1)) (nI_add _ _) ?_
    refine y_sld (v := zs g (7 * j + 1)) d_Lw_law_304 (vp_in_nI (by omega) (by omega)) (by rw [nI_clamp (by omega)]; rfl) ?_
    refine y_i2c d_Lw_law_305 (v := zc g (7 * j + 1)) rfl ?_
    refine y_aload_n d_Lw_law_306 rfl 6 rfl ?_
    refine y_iload d_Lw_law_307 1 rfl ?_
    refine y_iconst d_Lw_law_309 (v := 2) (by decide) ?_
    refine y_iadd d_Lw_law_310 (v := nI ((7 * j) + 2)) (nI_add _ _) ?_
    refine y_sld (v := zs g (7 * j + 2)) d_Lw_law_311 (vp_in_nI (by omega) (by omega)) (by rw [nI_clamp (by omega)]; rfl) ?_
    refine y_aload_n d_Lw_law_312 rfl 6 rfl ?_
    refine y_iload d_Lw_law_313 1 rfl ?_
    refine y_iconst d_Lw_law_315 (v := 3) (by decide) ?_
    refine y_iadd d_Lw_law_316 (v := nI ((7 * j) + 3)) (nI_add _ _) ?_
    refine y_sld (v := zs g (7 * j + 3)) d_Lw_law_317 (vp_in_nI (by omega) (by omega)) (by rw [nI_clamp (by omega)]; rfl) ?_
    refine y_aload_n d_Lw_law_318 rfl 6 rfl ?_
    refine y_iload d_Lw_law_319 1 rfl ?_
    refine y_iconst d_Lw_law_321 (v := 4) (by decide) ?_
    refine y_iadd d_Lw_law_322 (v := nI ((7 * j) + 4)) (nI_add _ _) ?_
    refine y_sld (v := zs g (7 * j + 4)) d_Lw_law_323 (vp_in_nI (by omega) (by omega)) (by rw [nI_clamp (by omega)]; rfl) ?_
    refine y_aload_n d_Lw_law_324 rfl 6 rfl ?_
    refine y_iload d_Lw_law_325 1 rfl ?_
    refine y_iconst d_Lw_law_327 (v := 5) (by decide) ?_
    refine y_iadd d_Lw_law_328 (v := nI ((7 * j) + 5)) (nI_add _ _) ?_
    refine y_sld (v := zs g (7 * j + 5)) d_Lw_law_329 (vp_in_nI (by omega) (by omega)) (by rw [nI_clamp (by omega)]; rfl) ?_
    refine yw_callVL (As := [.int (zc g (7 * j + 1)), .int (zs g (7 * j + 2)), .int (zs g (7 * j + 3)), .int (zs g (7 * j + 4)), .int (zs g (7 * j + 5))]) (rest := []) (ci := 12) rfl (fun wA hA => (IV.nil hA hI).rm) ln_Lw_174 w_im_Mm_draw w_se_Mm_draw ok_Lw_law_Mm_draw d_Lw_law_330 (fun wA hA => K_Mm_draw (IV.nil hA hI) _ _ _ _ _) rfl rfl (Nat.le_of_ble_eq_true rfl) (by omega) (by omega) (fun wA330 hA330 E wB330 hx => ?_) (fun wA330 hA330 v wB330 hx => ?_)
    · obtain ⟨⟨v8, e1⟩, -⟩ := hx
      cases e1
    · obtain ⟨⟨v8, e1⟩, u2, hI2⟩ := hx
      cases e1
      refine yw_st (st2 := [.int v8]) rfl ?_
      have hI := hI2
      refine y_base (cs := []) (z_I.nil _) ?_
      refine y_istore (lv' := [(7, .int v8), (6, .int v9), (5, .int (nI (7 * j))), (4, .ref (ad 70)), (3, .ref (ad 69)), (2, .ref (ad 52)), (1, .ref (ad 0)), (0, .ref (g.2.2 40))]) d_Lw_law_333 (by decide) rfl ?_
      refine y_goto (tgt := 1808) d_Lw_law_335 (by decide) ?_
      refine y_lv (lv' := [(5, .int (nI (7 * j))), (4, .ref (ad 70)), (3, .ref (ad 69)), (2, .ref (ad 52)), (1, .ref (ad 0)), (0, .ref (g.2.2 40))]) [2, 3, 4, 5, 6, 7] rfl ?_
      refine y_end (fun wC hC => ?_)
      exact LC_next (IV.nil hC hI) ⟨by show drawT _ _ _ _ _ t.2.1 = drawT _ _ _ _ _ t.1; rw [hR.1], hR.2⟩ hJ hL ih (by omega) (by omega)
theorem d_Lw_law_406 : decode code 406 = .ok (.aload_n 1, 1) := by decide +kernel
theorem d_Lw_law_407 : decode code 407 = .ok (.aload_n 0, 1) := by decide +kernel
theorem d_Lw_law_408 : decode code 408 = .ok (.iload 5, 2) := by decide +kernel
theorem d_Lw_law_410 : decode code 410 = .ok (.iconst 1, 1) := by decide +kernel
theorem d_Lw_law_411 : decode code 411 = .ok (.iadd, 1) := by decide +kernel
theorem d_Lw_law_412 : decode code 412 = .ok (.iaload, 1) := by decide +kernel
theorem d_Lw_law_413 : decode code 413 = .ok (.aload_n 3, 1) := by decide +kernel
theorem d_Lw_law_414 : decode code 414 = .ok (.invokestatic 182, 3) := by decide +kernel
theorem ok_Lw_law_Lw_part : z_okX M_Lw_law M_Lw_part 3 := ⟨z_mem (i := 815) (by decide +kernel) (by decide +kernel), by decide, ⟨by decide +kernel, by decide +kernel, by decide +kernel⟩, ⟨by decide, by decide⟩, z_mem (i := 57) (by decide +kernel) (by decide +kernel), rfl⟩
theorem ln_Lw_182 : Cond.methodLink "IronpourLaw" 182 M_Lw_part.1 ∈ z_gw := z_mem (i := 813) (by decide +kernel) (by decide +kernel)
theorem w_st_Lw_part : Cond.static M_Lw_part.1 ∈ z_gw := z_mem (i := 814) (by decide +kernel) (by decide +kernel)
theorem d_Lw_law_417 : decode code 417 = .ok (.istore 6, 2) := by decide +kernel
theorem d_Lw_law_419 : decode code 419 = .ok (.aload_n 2, 1) := by decide +kernel
theorem d_Lw_law_420 : decode code 420 = .ok (.aload_n 0, 1) := by decide +kernel
theorem d_Lw_law_421 : decode code 421 = .ok (.iload 5, 2) := by decide +kernel
theorem d_Lw_law_423 : decode code 423 = .ok (.iconst 1, 1) := by decide +kernel
theorem d_Lw_law_424 : decode code 424 = .ok (.iadd, 1) := by decide +kernel
theorem d_Lw_law_425 : decode code 425 = .ok (.iaload, 1) := by decide +kernel
theorem d_Lw_law_426 : decode code 426 = .ok (.invokevirtual 185, 3) := by decide +kernel
theorem ok_Lw_law_Mm_part : z_ok M_Lw_law M_Mm_part 1 := ⟨z_mem (i := 1701) (by decide +kernel) (by decide +kernel), rfl, ⟨by decide +kernel, by decide +kernel, by decide +kernel⟩, ⟨by decide, by decide⟩, z_mem (i := 71) (by decide +kernel) (by decide +kernel), rfl⟩
theorem ln_Lw_185 : Cond.methodLink "IronpourLaw" 185 M_Mm_part.1 ∈ z_gw := z_mem (i := 1698) (by decide +kernel) (by decide +kernel)
theorem w_im_Mm_part : Cond.instanceMethod M_Mm_part.1 ∈ z_gw := z_mem (i := 1699) (by decide +kernel) (by decide +kernel)
theorem w_se_Mm_part : Cond.selects M_Mm_part.1.cls M_Mm_part.1 M_Mm_part.1 ∈ z_gw := z_mem (i := 1700) (by decide +kernel) (by decide +kernel)
theorem d_Lw_law_429 : decode code 429 = .ok (.istore 7, 2) := by decide +kernel
theorem d_Lw_law_431 : decode code 431 = .ok (.goto 1377, 3) := by decide +kernel
set_option maxHeartbeats 4000000 in
set_option maxRecDepth 100000 in
theorem LC_part {g : zG} {ad : Nat → Nat} {t : zTT} {u : zNN} {w : zW} (hI : IV g ad t u w) (hR : REL t) {j r : Nat} (hJ : 7 * j + 7 ≤ g.2.2 41) (hL : g.2.2 41 < 2 ^ 31) (ih : LWI g ad j r) : DW g M_Lw_law lwQ w 406 [(5, .int (nI (7 * j))), (4, .ref (ad 70)), (3, .ref (ad 69)), (2, .ref (ad 52)), (1, .ref (ad 0)), (0, .ref (g.2.2 40))] [] (100 * (r + 1)) (1000 * (r + 1)) := by
  refine y_base (cs := []) (z_I.nil w) ?_
  refine y_aload_n d_Lw_law_406 rfl 4 rfl ?_
  refine y_aload_n d_Lw_law_407 rfl 5 rfl ?_
  refine y_iload d_Lw_law_408 0 rfl ?_
  refine y_iconst d_Lw_law_410 (v := 1) (by decide) ?_
  refine y_iadd d_Lw_law_411 (v := nI ((7 * j) + 1)) (nI_add _ _) ?_
  refine y_sld (v := zs g (7 * j + 1)) d_Lw_law_412 (vp_in_nI (by omega) (by omega)) (by rw [nI_clamp (by omega)]; rfl) ?_
  refine y_aload_n d_Lw_law_413 rfl 2 rfl ?_
  refine yw_callSX (As := [.ref (ad 0), .int (zs g (7 * j + 1)), .ref (ad 69)]) (rest := []) ln_Lw_182 w_st_Lw_part ok_Lw_law_Lw_part d_Lw_law_414 (fun wA hA => W_part (IV.nil hA hI) _) rfl rfl (Nat.le_of_ble_eq_true rfl) (by omega) (by omega) (fun wA414 hA414 E wB414 hx => ?_) (fun wA414 hA414 v wB414 hx => ?_)
  · obtain ⟨⟨v9, e1⟩, -⟩ := hx
    cases e1
  · obtain ⟨⟨v9, e1⟩, u2, hI2⟩ := hx
    cases e1
    refine yw_st (st2 := [.int v9]) rfl ?_
    have hI := hI2
    refine y_base (cs := []) (z_I.nil _) ?_
    refine y_istore (lv' := [(6, .int v9), (5, .int (nI (7 * j))), (4, .ref (ad 70)), (3, .ref (ad 69)), (2, .ref (ad 52)), (1, .ref (ad 0)), (0, .ref (g.2.2 40))]) d_Lw_law_417 (by decide) rfl ?_
    refine y_aload_n d_Lw_law_419 rfl 4 rfl ?_
    refine y_aload_n d_Lw_law_420 rfl 6 rfl ?_
    refine y_iload d_Lw_law_421 1 rfl ?_
    refine y_iconst d_Lw_law_423 (v := 1) (by decide) ?_
    refine y_iadd d_Lw_law_424 (v := nI ((7 * j) + 1)) (nI_add _ _) ?_
    refine y_sld (v := zs g (7 * j + 1)) d_Lw_law_425 (vp_in_nI (by omega) (by omega)) (by rw [nI_clamp (by omega)]; rfl) ?_
    refine yw_callVL (As := [.int (zs g (7 * j + 1))]) (rest := []) (ci := 12) rfl (fun wA hA => (IV.nil hA hI).rm) ln_Lw_185 w_im_Mm_part w_se_Mm_part ok_Lw_law_Mm_part d_Lw_law_426 (fun wA hA => K_Mm_part (IV.nil hA hI) _) rfl rfl (Nat.le_of_ble_eq_true rfl) (by omega) (by omega) (fun wA426 hA426 E wB426 hx => ?_) (fun wA426 hA426 v wB426 hx => ?_)
    · obtain ⟨⟨v8, e1⟩, -⟩ := hx
      cases e1
    · obtain ⟨⟨v8, e1⟩, u2, hI2⟩ := hx
      cases e1
      refine yw_st (st2 := [.int v8]) rfl ?_
      have hI := hI2
      refine y_base (cs := []) (z_I.nil _) ?_
      refine y_istore (lv' := [(7, .int v8), (6, .int v9), (5, .int (nI (7 * j))), (4, .ref (ad 70)), (3, .ref (ad 69)), (2, .ref (ad 52)), (1, .ref (ad 0)), (0, .ref (g.2.2 40))]) d_Lw_law_429 (by decide) rfl ?_
      refine y_goto (tgt := 1808) d_Lw_law_431 (by decide) ?_
      refine y_lv (lv' := [(5, .int (nI (7 * j))), (4, .ref (ad 70)), (3, .ref (ad 69)), (2, .ref (ad 52)), (1, .ref (ad 0)), (0, .ref (g.2.2 40))]) [2, 3, 4, 5, 6, 7] rfl ?_
      refine y_end (fun wC hC => ?_)
      exact LC_next (IV.nil hC hI) ⟨hR.1, by show partT _ t.2.2.2.1 = partT _ t.2.2.1; rw [hR.2]⟩ hJ hL ih (by omega) (by omega)
theorem d_Lw_law_434 : decode code 434 = .ok (.aload_n 1, 1) := by decide +kernel
theorem d_Lw_law_435 : decode code 435 = .ok (.invokevirtual 186, 3) := by decide +kernel
theorem ok_Lw_law_Ip_undercut : z_ok M_Lw_law M_Ip_undercut 0 := ⟨z_mem (i := 400) (by decide +kernel) (by decide +kernel), rfl, ⟨by decide +kernel, by decide +kernel, by decide +kernel⟩, ⟨by decide, by decide⟩, z_mem (i := 58) (by decide +kernel) (by decide +kernel), rfl⟩
theorem ln_Lw_186 : Cond.methodLink "IronpourLaw" 186 M_Ip_undercut.1 ∈ z_gw := z_mem (i := 397) (by decide +kernel) (by decide +kernel)
theorem w_im_Ip_undercut : Cond.instanceMethod M_Ip_undercut.1 ∈ z_gw := z_mem (i := 398) (by decide +kernel) (by decide +kernel)
theorem w_se_Ip_undercut : Cond.selects M_Ip_undercut.1.cls M_Ip_undercut.1 M_Ip_undercut.1 ∈ z_gw := z_mem (i := 399) (by decide +kernel) (by decide +kernel)
theorem d_Lw_law_438 : decode code 438 = .ok (.pop, 1) := by decide +kernel
theorem d_Lw_law_439 : decode code 439 = .ok (.aload_n 2, 1) := by decide +kernel
theorem d_Lw_law_440 : decode code 440 = .ok (.invokevirtual 189, 3) := by decide +kernel
theorem ok_Lw_law_Mm_undercut : z_ok M_Lw_law M_Mm_undercut 0 := ⟨z_mem (i := 1705) (by decide +kernel) (by decide +kernel), rfl, ⟨by decide +kernel, by decide +kernel, by decide +kernel⟩, ⟨by decide, by decide⟩, z_mem (i := 71) (by decide +kernel) (by decide +kernel), rfl⟩
theorem ln_Lw_189 : Cond.methodLink "IronpourLaw" 189 M_Mm_undercut.1 ∈ z_gw := z_mem (i := 1702) (by decide +kernel) (by decide +kernel)
theorem w_im_Mm_undercut : Cond.instanceMethod M_Mm_undercut.1 ∈ z_gw := z_mem (i := 1703) (by decide +kernel) (by decide +kernel)
theorem w_se_Mm_undercut : Cond.selects M_Mm_undercut.1.cls M_Mm_undercut.1 M_Mm_undercut.1 ∈ z_gw := z_mem (i := 1704) (by decide +kernel) (by decide +kernel)
theorem d_Lw_law_443 : decode code 443 = .ok (.pop, 1) := by decide +kernel
theorem d_Lw_law_444 : decode code 444 = .ok (.goto 1364, 3) := by decide +kernel
set_option maxHeartbeats 4000000 in
set_option maxRecDepth 100000 in
theorem LC_undercut {g : zG} {ad : Nat → Nat} {t : zTT} {u : zNN} {w : zW} (hI : IV g ad t u w) (hR : REL t) {j r : Nat} (hJ : 7 * j + 7 ≤ g.2.2 41) (hL : g.2.2 41 < 2 ^ 31) (ih : LWI g ad j r) : DW g M_Lw_law lwQ w 434 [(5, .int (nI (7 * j))), (4, .ref (ad 70)), (3, .ref (ad 69)), (2, .ref (ad 52)), (1, .ref (ad 0)), (0, .ref (g.2.2 40))] [] (100 * (r + 1)) (1000 * (r + 1)) := by
  refine y_base (cs := []) (z_I.nil w) ?_
  refine y_aload_n d_Lw_law_434 rfl 4 rfl ?_
  refine yw_callVL (As := []) (rest := []) (ci := 11) rfl (fun wA hA => (IV.nil hA hI).ra) ln_Lw_186 w_im_Ip_undercut w_se_Ip_undercut ok_Lw_law_Ip_undercut d_Lw_law_435 (fun wA hA => K_Ip_undercut (IV.nil hA hI)) rfl rfl (Nat.le_of_ble_eq_true rfl) (by omega) (by omega) (fun wA435 hA435 E wB435 hx => ?_) (fun wA435 hA435 v wB435 hx => ?_)
  · obtain ⟨h1, -⟩ := hx
    cases zriE h1
  · obtain ⟨h1, u2, hI2⟩ := hx
    obtain ⟨v9, rfl⟩ := zriV h1
    refine yw_st (st2 := [.int v9]) rfl ?_
    have hI := hI2
    refine y_base (cs := []) (z_I.nil _) ?_
    refine y_pop d_Lw_law_438 rfl ?_
    refine y_aload_n d_Lw_law_439 rfl 3 rfl ?_
    refine yw_callVL (As := []) (rest := []) (ci := 12) rfl (fun wA hA => (IV.nil hA hI).rm) ln_Lw_189 w_im_Mm_undercut w_se_Mm_undercut ok_Lw_law_Mm_undercut d_Lw_law_440 (fun wA hA => K_Mm_undercut (IV.nil hA hI)) rfl rfl (Nat.le_of_ble_eq_true rfl) (by omega) (by omega) (fun wA440 hA440 E wB440 hx => ?_) (fun wA440 hA440 v wB440 hx => ?_)
    · obtain ⟨⟨v8, e1⟩, -⟩ := hx
      cases e1
    · obtain ⟨⟨v8, e1⟩, u2, hI2⟩ := hx
      cases e1
      refine yw_st (st2 := [.int v8]) rfl ?_
      have hI := hI2
      refine y_base (cs := []) (z_I.nil _) ?_
      refine y_pop d_Lw_law_443 rfl ?_
      refine y_goto (tgt := 1808) d_Lw_law_444 (by decide) ?_
      refine y_lv (lv' := [(5, .int (nI (7 * j))), (4, .ref (ad 70)), (3, .ref (ad 69)), (2, .ref (ad 52)), (1, .ref (ad 0)), (0, .ref (g.2.2 40))]) [0, 1, 2, 3, 4, 5] rfl ?_
      refine y_end (fun wC hC => ?_)
      exact LC_next (IV.nil hC hI) hR hJ hL ih (by omega) (by omega)
theorem d_Lw_law_447 : decode code 447 = .ok (.aload_n 1, 1) := by decide +kernel
theorem d_Lw_law_448 : decode code 448 = .ok (.invokevirtual 190, 3) := by decide +kernel
theorem ok_Lw_law_Ip_cores : z_ok M_Lw_law M_Ip_cores 0 := ⟨z_mem (i := 415) (by decide +kernel) (by decide +kernel), rfl, ⟨by decide +kernel, by decide +kernel, by decide +kernel⟩, ⟨by decide, by decide⟩, z_mem (i := 58) (by decide +kernel) (by decide +kernel), rfl⟩
theorem ln_Lw_190 : Cond.methodLink "IronpourLaw" 190 M_Ip_cores.1 ∈ z_gw := z_mem (i := 412) (by decide +kernel) (by decide +kernel)
theorem w_im_Ip_cores : Cond.instanceMethod M_Ip_cores.1 ∈ z_gw := z_mem (i := 413) (by decide +kernel) (by decide +kernel)
theorem w_se_Ip_cores : Cond.selects M_Ip_cores.1.cls M_Ip_cores.1 M_Ip_cores.1 ∈ z_gw := z_mem (i := 414) (by decide +kernel) (by decide +kernel)
theorem d_Lw_law_451 : decode code 451 = .ok (.pop, 1) := by decide +kernel
theorem d_Lw_law_452 : decode code 452 = .ok (.aload_n 2, 1) := by decide +kernel
theorem d_Lw_law_453 : decode code 453 = .ok (.invokevirtual 193, 3) := by decide +kernel
theorem ok_Lw_law_Mm_cores : z_ok M_Lw_law M_Mm_cores 0 := ⟨z_mem (i := 1715) (by decide +kernel) (by decide +kernel), rfl, ⟨by decide +kernel, by decide +kernel, by decide +kernel⟩, ⟨by decide, by decide⟩, z_mem (i := 71) (by decide +kernel) (by decide +kernel), rfl⟩
theorem ln_Lw_193 : Cond.methodLink "IronpourLaw" 193 M_Mm_cores.1 ∈ z_gw := z_mem (i := 1712) (by decide +kernel) (by decide +kernel)
theorem w_im_Mm_cores : Cond.instanceMethod M_Mm_cores.1 ∈ z_gw := z_mem (i := 1713) (by decide +kernel) (by decide +kernel)
theorem w_se_Mm_cores : Cond.selects M_Mm_cores.1.cls M_Mm_cores.1 M_Mm_cores.1 ∈ z_gw := z_mem (i := 1714) (by decide +kernel) (by decide +kernel)
theorem d_Lw_law_456 : decode code 456 = .ok (.pop, 1) := by decide +kernel
theorem d_Lw_law_457 : decode code 457 = .ok (.goto 1351, 3) := by decide +kernel
set_option maxHeartbeats 4000000 in
set_option maxRecDepth 100000 in
theorem LC_cores {g : zG} {ad : Nat → Nat} {t : zTT} {u : zNN} {w : zW} (hI : IV g ad t u w) (hR : REL t) {j r : Nat} (hJ : 7 * j + 7 ≤ g.2.2 41) (hL : g.2.2 41 < 2 ^ 31) (ih : LWI g ad j r) : DW g M_Lw_law lwQ w 447 [(5, .int (nI (7 * j))), (4, .ref (ad 70)), (3, .ref (ad 69)), (2, .ref (ad 52)), (1, .ref (ad 0)), (0, .ref (g.2.2 40))] [] (100 * (r + 1)) (1000 * (r + 1)) := by
  refine y_base (cs := []) (z_I.nil w) ?_
  refine y_aload_n d_Lw_law_447 rfl 4 rfl ?_
  refine yw_callVL (As := []) (rest := []) (ci := 11) rfl (fun wA hA => (IV.nil hA hI).ra) ln_Lw_190 w_im_Ip_cores w_se_Ip_cores ok_Lw_law_Ip_cores d_Lw_law_448 (fun wA hA => K_Ip_cores (IV.nil hA hI)) rfl rfl (Nat.le_of_ble_eq_true rfl) (by omega) (by omega) (fun wA448 hA448 E wB448 hx => ?_) (fun wA448 hA448 v wB448 hx => ?_)
  · obtain ⟨h1, -⟩ := hx
    cases zriE h1
  · obtain ⟨h1, u2, hI2⟩ := hx
    obtain ⟨v9, rfl⟩ := zriV h1
    refine yw_st (st2 := [.int v9]) rfl ?_
    have hI := hI2
    refine y_base (cs := []) (z_I.nil _) ?_
    refine y_pop d_Lw_law_451 rfl ?_
    refine y_aload_n d_Lw_law_452 rfl 3 rfl ?_
    refine yw_callVL (As := []) (rest := []) (ci := 12) rfl (fun wA hA => (IV.nil hA hI).rm) ln_Lw_193 w_im_Mm_cores w_se_Mm_cores ok_Lw_law_Mm_cores d_Lw_law_453 (fun wA hA => K_Mm_cores (IV.nil hA hI)) rfl rfl (Nat.le_of_ble_eq_true rfl) (by omega) (by omega) (fun wA453 hA453 E wB453 hx => ?_) (fun wA453 hA453 v wB453 hx => ?_)
    · obtain ⟨⟨v8, e1⟩, -⟩ := hx
      cases e1
    · obtain ⟨⟨v8, e1⟩, u2, hI2⟩ := hx
      cases e1
      refine yw_st (st2 := [.int v8]) rfl ?_
      have hI := hI2
      refine y_base (cs := []) (z_I.nil _) ?_
      refine y_pop d_Lw_law_456 rfl ?_
      refine y_goto (tgt := 1808) d_Lw_law_457 (by decide) ?_
      refine y_lv (lv' := [(5, .int (nI (7 * j))), (4, .ref (ad 70)), (3, .ref (ad 69)), (2, .ref (ad 52)), (1, .ref (ad 0)), (0, .ref (g.2.2 40))]) [0, 1, 2, 3, 4, 5] rfl ?_
      refine y_end (fun wC hC => ?_)
      exact LC_next (IV.nil hC hI) hR hJ hL ih (by omega) (by omega)
theorem d_Lw_law_460 : decode code 460 = .ok (.aload_n 1, 1) := by decide +kernel
theorem d_Lw_law_461 : decode code 461 = .ok (.invokevirtual 194, 3) := by decide +kernel
theorem ok_Lw_law_Ip_loose : z_ok M_Lw_law M_Ip_loose 0 := ⟨z_mem (i := 434) (by decide +kernel) (by decide +kernel), rfl, ⟨by decide +kernel, by decide +kernel, by decide +kernel⟩, ⟨by decide, by decide⟩, z_mem (i := 58) (by decide +kernel) (by decide +kernel), rfl⟩
theorem ln_Lw_194 : Cond.methodLink "IronpourLaw" 194 M_Ip_loose.1 ∈ z_gw := z_mem (i := 431) (by decide +kernel) (by decide +kernel)
theorem w_im_Ip_loose : Cond.instanceMethod M_Ip_loose.1 ∈ z_gw := z_mem (i := 432) (by decide +kernel) (by decide +kernel)
theorem w_se_Ip_loose : Cond.selects M_Ip_loose.1.cls M_Ip_loose.1 M_Ip_loose.1 ∈ z_gw := z_mem (i := 433) (by decide +kernel) (by decide +kernel)
theorem d_Lw_law_464 : decode code 464 = .ok (.pop, 1) := by decide +kernel
theorem d_Lw_law_465 : decode code 465 = .ok (.aload_n 2, 1) := by decide +kernel
theorem d_Lw_law_466 : decode code 466 = .ok (.invokevirtual 197, 3) := by decide +kernel
theorem ok_Lw_law_Mm_loose : z_ok M_Lw_law M_Mm_loose 0 := ⟨z_mem (i := 1730) (by decide +kernel) (by decide +kernel), rfl, ⟨by decide +kernel, by decide +kernel, by decide +kernel⟩, ⟨by decide, by decide⟩, z_mem (i := 71) (by decide +kernel) (by decide +kernel), rfl⟩
theorem ln_Lw_197 : Cond.methodLink "IronpourLaw" 197 M_Mm_loose.1 ∈ z_gw := z_mem (i := 1727) (by decide +kernel) (by decide +kernel)
theorem w_im_Mm_loose : Cond.instanceMethod M_Mm_loose.1 ∈ z_gw := z_mem (i := 1728) (by decide +kernel) (by decide +kernel)
theorem w_se_Mm_loose : Cond.selects M_Mm_loose.1.cls M_Mm_loose.1 M_Mm_loose.1 ∈ z_gw := z_mem (i := 1729) (by decide +kernel) (by decide +kernel)
theorem d_Lw_law_469 : decode code 469 = .ok (.pop, 1) := by decide +kernel
theorem d_Lw_law_470 : decode code 470 = .ok (.goto 1338, 3) := by decide +kernel
set_option maxHeartbeats 4000000 in
set_option maxRecDepth 100000 in
theorem LC_loose {g : zG} {ad : Nat → Nat} {t : zTT} {u : zNN} {w : zW} (hI : IV g ad t u w) (hR : REL t) {j r : Nat} (hJ : 7 * j + 7 ≤ g.2.2 41) (hL : g.2.2 41 < 2 ^ 31) (ih : LWI g ad j r) : DW g M_Lw_law lwQ w 460 [(5, .int (nI (7 * j))), (4, .ref (ad 70)), (3, .ref (ad 69)), (2, .ref (ad 52)), (1, .ref (ad 0)), (0, .ref (g.2.2 40))] [] (100 * (r + 1)) (1000 * (r + 1)) := by
  refine y_base (cs := []) (z_I.nil w) ?_
  refine y_aload_n d_Lw_law_460 rfl 4 rfl ?_
  refine yw_callVL (As := []) (rest := []) (ci := 11) rfl (fun wA hA => (IV.nil hA hI).ra) ln_Lw_194 w_im_Ip_loose w_se_Ip_loose ok_Lw_law_Ip_loose d_Lw_law_461 (fun wA hA => K_Ip_loose (IV.nil hA hI)) rfl rfl (Nat.le_of_ble_eq_true rfl) (by omega) (by omega) (fun wA461 hA461 E wB461 hx => ?_) (fun wA461 hA461 v wB461 hx => ?_)
  · obtain ⟨h1, -⟩ := hx
    cases zriE h1
  · obtain ⟨h1, u2, hI2⟩ := hx
    obtain ⟨v9, rfl⟩ := zriV h1
    refine yw_st (st2 := [.int v9]) rfl ?_
    have hI := hI2
    refine y_base (cs := []) (z_I.nil _) ?_
    refine y_pop d_Lw_law_464 rfl ?_
    refine y_aload_n d_Lw_law_465 rfl 3 rfl ?_
    refine yw_callVL (As := []) (rest := []) (ci := 12) rfl (fun wA hA => (IV.nil hA hI).rm) ln_Lw_197 w_im_Mm_loose w_se_Mm_loose ok_Lw_law_Mm_loose d_Lw_law_466 (fun wA hA => K_Mm_loose (IV.nil hA hI)) rfl rfl (Nat.le_of_ble_eq_true rfl) (by omega) (by omega) (fun wA466 hA466 E wB466 hx => ?_) (fun wA466 hA466 v wB466 hx => ?_)
    · obtain ⟨⟨v8, e1⟩, -⟩ := hx
      cases e1
    · obtain ⟨⟨v8, e1⟩, u2, hI2⟩ := hx
      cases e1
      refine yw_st (st2 := [.int v8]) rfl ?_
      have hI := hI2
      refine y_base (cs := []) (z_I.nil _) ?_
      refine y_pop d_Lw_law_469 rfl ?_
      refine y_goto (tgt := 1808) d_Lw_law_470 (by decide) ?_
      refine y_lv (lv' := [(5, .int (nI (7 * j))), (4, .ref (ad 70)), (3, .ref (ad 69)), (2, .ref (ad 52)), (1, .ref (ad 0)), (0, .ref (g.2.2 40))]) [0, 1, 2, 3, 4, 5] rfl ?_
      refine y_end (fun wC hC => ?_)
      exact LC_next (IV.nil hC hI) hR hJ hL ih (by omega) (by omega)
theorem d_Lw_law_473 : decode code 473 = .ok (.aload_n 1, 1) := by decide +kernel
theorem d_Lw_law_474 : decode code 474 = .ok (.invokevirtual 198, 3) := by decide +kernel
theorem ok_Lw_law_Ip_weight : z_ok M_Lw_law M_Ip_weight 0 := ⟨z_mem (i := 442) (by decide +kernel) (by decide +kernel), rfl, ⟨by decide +kernel, by decide +kernel, by decide +kernel⟩, ⟨by decide, by decide⟩, z_mem (i := 58) (by decide +kernel) (by decide +kernel), rfl⟩
theorem ln_Lw_198 : Cond.methodLink "IronpourLaw" 198 M_Ip_weight.1 ∈ z_gw := z_mem (i := 439) (by decide +kernel) (by decide +kernel)
theorem w_im_Ip_weight : Cond.instanceMethod M_Ip_weight.1 ∈ z_gw := z_mem (i := 440) (by decide +kernel) (by decide +kernel)
theorem w_se_Ip_weight : Cond.selects M_Ip_weight.1.cls M_Ip_weight.1 M_Ip_weight.1 ∈ z_gw := z_mem (i := 441) (by decide +kernel) (by decide +kernel)
theorem d_Lw_law_477 : decode code 477 = .ok (.pop, 1) := by decide +kernel
theorem d_Lw_law_478 : decode code 478 = .ok (.aload_n 2, 1) := by decide +kernel
theorem d_Lw_law_479 : decode code 479 = .ok (.invokevirtual 201, 3) := by decide +kernel
theorem ok_Lw_law_Mm_weight : z_ok M_Lw_law M_Mm_weight 0 := ⟨z_mem (i := 1741) (by decide +kernel) (by decide +kernel), rfl, ⟨by decide +kernel, by decide +kernel, by decide +kernel⟩, ⟨by decide, by decide⟩, z_mem (i := 71) (by decide +kernel) (by decide +kernel), rfl⟩
theorem ln_Lw_201 : Cond.methodLink "IronpourLaw" 201 M_Mm_weight.1 ∈ z_gw := z_mem (i := 1738) (by decide +kernel) (by decide +kernel)
theorem w_im_Mm_weight : Cond.instanceMethod M_Mm_weight.1 ∈ z_gw := z_mem (i := 1739) (by decide +kernel) (by decide +kernel)
theorem w_se_Mm_weight : Cond.selects M_Mm_weight.1.cls M_Mm_weight.1 M_Mm_weight.1 ∈ z_gw := z_mem (i := 1740) (by decide +kernel) (by decide +kernel)
theorem d_Lw_law_482 : decode code 482 = .ok (.pop, 1) := by decide +kernel
theorem d_Lw_law_483 : decode code 483 = .ok (.goto 1325, 3) := by decide +kernel
set_option maxHeartbeats 4000000 in
set_option maxRecDepth 100000 in
theorem LC_weight {g : zG} {ad : Nat → Nat} {t : zTT} {u : zNN} {w : zW} (hI : IV g ad t u w) (hR : REL t) {j r : Nat} (hJ : 7 * j + 7 ≤ g.2.2 41) (hL : g.2.2 41 < 2 ^ 31) (ih : LWI g ad j r) : DW g M_Lw_law lwQ w 473 [(5, .int (nI (7 * j))), (4, .ref (ad 70)), (3, .ref (ad 69)), (2, .ref (ad 52)), (1, .ref (ad 0)), (0, .ref (g.2.2 40))] [] (100 * (r + 1)) (1000 * (r + 1)) := by
  refine y_base (cs := []) (z_I.nil w) ?_
  refine y_aload_n d_Lw_law_473 rfl 4 rfl ?_
  refine yw_callVL (As := []) (rest := []) (ci := 11) rfl (fun wA hA => (IV.nil hA hI).ra) ln_Lw_198 w_im_Ip_weight w_se_Ip_weight ok_Lw_law_Ip_weight d_Lw_law_474 (fun wA hA => K_Ip_weight (IV.nil hA hI)) rfl rfl (Nat.le_of_ble_eq_true rfl) (by omega) (by omega) (fun wA474 hA474 E wB474 hx => ?_) (fun wA474 hA474 v wB474 hx => ?_)
  · obtain ⟨h1, -⟩ := hx
    cases zriE h1
  · obtain ⟨h1, u2, hI2⟩ := hx
    obtain ⟨v9, rfl⟩ := zriV h1
    refine yw_st (st2 := [.int v9]) rfl ?_
    have hI := hI2
    refine y_base (cs := []) (z_I.nil _) ?_
    refine y_pop d_Lw_law_477 rfl ?_
    refine y_aload_n d_Lw_law_478 rfl 3 rfl ?_
    refine yw_callVL (As := []) (rest := []) (ci := 12) rfl (fun wA hA => (IV.nil hA hI).rm) ln_Lw_201 w_im_Mm_weight w_se_Mm_weight ok_Lw_law_Mm_weight d_Lw_law_479 (fun wA hA => K_Mm_weight (IV.nil hA hI)) rfl rfl (Nat.le_of_ble_eq_true rfl) (by omega) (by omega) (fun wA479 hA479 E wB479 hx => ?_) (fun wA479 hA479 v wB479 hx => ?_)
    · obtain ⟨⟨v8, e1⟩, -⟩ := hx
      cases e1
    · obtain ⟨⟨v8, e1⟩, u2, hI2⟩ := hx
      cases e1
      refine yw_st (st2 := [.int v8]) rfl ?_
      have hI := hI2
      refine y_base (cs := []) (z_I.nil _) ?_
      refine y_pop d_Lw_law_482 rfl ?_
      refine y_goto (tgt := 1808) d_Lw_law_483 (by decide) ?_
      refine y_lv (lv' := [(5, .int (nI (7 * j))), (4, .ref (ad 70)), (3, .ref (ad 69)), (2, .ref (ad 52)), (1, .ref (ad 0)), (0, .ref (g.2.2 40))]) [0, 1, 2, 3, 4, 5] rfl ?_
      refine y_end (fun wC hC => ?_)
      exact LC_next (IV.nil hC hI) hR hJ hL ih (by omega) (by omega)
theorem d_Lw_law_486 : decode code 486 = .ok (.aload_n 1, 1) := by decide +kernel
theorem d_Lw_law_487 : decode code 487 = .ok (.aload_n 0, 1) := by decide +kernel
theorem d_Lw_law_488 : decode code 488 = .ok (.iload 5, 2) := by decide +kernel
theorem d_Lw_law_490 : decode code 490 = .ok (.iconst 1, 1) := by decide +kernel
theorem d_Lw_law_491 : decode code 491 = .ok (.iadd, 1) := by decide +kernel
theorem d_Lw_law_492 : decode code 492 = .ok (.iaload, 1) := by decide +kernel
theorem d_Lw_law_493 : decode code 493 = .ok (.aload_n 0, 1) := by decide +kernel
theorem d_Lw_law_494 : decode code 494 = .ok (.iload 5, 2) := by decide +kernel
theorem d_Lw_law_496 : decode code 496 = .ok (.iconst 2, 1) := by decide +kernel
theorem d_Lw_law_497 : decode code 497 = .ok (.iadd, 1) := by decide +kernel
theorem d_Lw_law_498 : decode code 498 = .ok (.iaload, 1) := by decide +kernel
theorem d_Lw_law_499 : decode code 499 = .ok (.aload_n 3, 1) := by decide +kernel
theorem d_Lw_law_500 : decode code 500 = .ok (.invokestatic 202, 3) := by decide +kernel
theorem ok_Lw_law_Lw_filledIn : z_okX M_Lw_law M_Lw_filledIn 4 := ⟨z_mem (i := 823) (by decide +kernel) (by decide +kernel), by decide, ⟨by decide +kernel, by decide +kernel, by decide +kernel⟩, ⟨by decide, by decide⟩, z_mem (i := 57) (by decide +kernel) (by decide +kernel), rfl⟩
theorem ln_Lw_202 : Cond.methodLink "IronpourLaw" 202 M_Lw_filledIn.1 ∈ z_gw := z_mem (i := 821) (by decide +kernel) (by decide +kernel)
theorem w_st_Lw_filledIn : Cond.static M_Lw_filledIn.1 ∈ z_gw := z_mem (i := 822) (by decide +kernel) (by decide +kernel)
theorem d_Lw_law_503 : decode code 503 = .ok (.istore 6, 2) := by decide +kernel
theorem d_Lw_law_505 : decode code 505 = .ok (.aload_n 2, 1) := by decide +kernel
theorem d_Lw_law_506 : decode code 506 = .ok (.aload_n 0, 1) := by decide +kernel
theorem d_Lw_law_507 : decode code 507 = .ok (.iload 5, 2) := by decide +kernel
theorem d_Lw_law_509 : decode code 509 = .ok (.iconst 1, 1) := by decide +kernel
theorem d_Lw_law_510 : decode code 510 = .ok (.iadd, 1) := by decide +kernel
theorem d_Lw_law_511 : decode code 511 = .ok (.iaload, 1) := by decide +kernel
theorem d_Lw_law_512 : decode code 512 = .ok (.aload_n 0, 1) := by decide +kernel
theorem d_Lw_law_513 : decode code 513 = .ok (.iload 5, 2) := by decide +kernel
theorem d_Lw_law_515 : decode code 515 = .ok (.iconst 2, 1) := by decide +kernel
theorem d_Lw_law_516 : decode code 516 = .ok (.iadd, 1) := by decide +kernel
theorem d_Lw_law_517 : decode code 517 = .ok (.iaload, 1) := by decide +kernel
theorem d_Lw_law_518 : decode code 518 = .ok (.invokevirtual 204, 3) := by decide +kernel
theorem ok_Lw_law_Mm_filledIn : z_ok M_Lw_law M_Mm_filledIn 2 := ⟨z_mem (i := 1748) (by decide +kernel) (by decide +kernel), rfl, ⟨by decide +kernel, by decide +kernel, by decide +kernel⟩, ⟨by decide, by decide⟩, z_mem (i := 71) (by decide +kernel) (by decide +kernel), rfl⟩
theorem ln_Lw_204 : Cond.methodLink "IronpourLaw" 204 M_Mm_filledIn.1 ∈ z_gw := z_mem (i := 1745) (by decide +kernel) (by decide +kernel)
theorem w_im_Mm_filledIn : Cond.instanceMethod M_Mm_filledIn.1 ∈ z_gw := z_mem (i := 1746) (by decide +kernel) (by decide +kernel)
theorem w_se_Mm_filledIn : Cond.selects M_Mm_filledIn.1.cls M_Mm_filledIn.1 M_Mm_filledIn.1 ∈ z_gw := z_mem (i := 1747) (by decide +kernel) (by decide +kernel)
theorem d_Lw_law_521 : decode code 521 = .ok (.istore 7, 2) := by decide +kernel
theorem d_Lw_law_523 : decode code 523 = .ok (.goto 1285, 3) := by decide +kernel
set_option maxHeartbeats 4000000 in
set_option maxRecDepth 100000 in
theorem LC_filledIn {g : zG} {ad : Nat → Nat} {t : zTT} {u : zNN} {w : zW} (hI : IV g ad t u w) (hR : REL t) {j r : Nat} (hJ : 7 * j + 7 ≤ g.2.2 41) (hL : g.2.2 41 < 2 ^ 31) (ih : LWI g ad j r) : DW g M_Lw_law lwQ w 486 [(5, .int (nI (7 * j))), (4, .ref (ad 70)), (3, .ref (ad 69)), (2, .ref (ad 52)), (1, .ref (ad 0)), (0, .ref (g.2.2 40))] [] (100 * (r + 1)) (1000 * (r + 1)) := by
  refine y_base (cs := []) (z_I.nil w) ?_
  refine y_aload_n d_Lw_law_486 rfl 4 rfl ?_
  refine y_aload_n d_Lw_law_487 rfl 5 rfl ?_
  refine y_iload d_Lw_law_488 0 rfl ?_
  refine y_iconst d_Lw_law_490 (v := 1) (by decide) ?_
  refine y_iadd d_Lw_law_491 (v := nI ((7 * j) + 1)) (nI_add _ _) ?_
  refine y_sld (v := zs g (7 * j + 1)) d_Lw_law_492 (vp_in_nI (by omega) (by omega)) (by rw [nI_clamp (by omega)]; rfl) ?_
  refine y_aload_n d_Lw_law_493 rfl 5 rfl ?_
  refine y_iload d_Lw_law_494 0 rfl ?_
  refine y_iconst d_Lw_law_496 (v := 2) (by decide) ?_
  refine y_iadd d_Lw_law_497 (v := nI ((7 * j) + 2)) (nI_add _ _) ?_
  refine y_sld (v := zs g (7 * j + 2)) d_Lw_law_498 (vp_in_nI (by omega) (by omega)) (by rw [nI_clamp (by omega)]; rfl) ?_
  refine y_aload_n d_Lw_law_499 rfl 2 rfl ?_
  refine yw_callSX (As := [.ref (ad 0), .int (zs g (7 * j + 1)), .int (zs g (7 * j + 2)), .ref (ad 69)]) (rest := []) ln_Lw_202 w_st_Lw_filledIn ok_Lw_law_Lw_filledIn d_Lw_law_500 (fun wA hA => W_filledIn (IV.nil hA hI) _ _) rfl rfl (Nat.le_of_ble_eq_true rfl) (by omega) (by omega) (fun wA500 hA500 E wB500 hx => ?_) (fun wA500 hA500 v wB500 hx => ?_)
  · obtain ⟨⟨v9, e1⟩, -⟩ := hx
    cases e1
  · obtain ⟨⟨v9, e1⟩, u2, hI2⟩ := hx
    cases e1
    refine yw_st (st2 := [.int v9]) rfl ?_
    have hI := hI2
    refine y_base (cs := []) (z_I.nil _) ?_
    refine y_istore (lv' := [(6, .int v9), (5, .int (nI (7 * j))), (4, .ref (ad 70)), (3, .ref (ad 69)), (2, .ref (ad 52)), (1, .ref (ad 0)), (0, .ref (g.2.2 40))]) d_Lw_law_503 (by decide) rfl ?_
    refine y_aload_n d_Lw_law_505 rfl 4 rfl ?_
    refine y_aload_n d_Lw_law_506 rfl 6 rfl ?_
    refine y_iload d_Lw_law_507 1 rfl ?_
    refine y_iconst d_Lw_law_509 (v := 1) (by decide) ?_
    refine y_iadd d_Lw_law_510 (v := nI ((7 * j) + 1)) (nI_add _ _) ?_
    refine y_sld (v := zs g (7 * j + 1)) d_Lw_law_511 (vp_in_nI (by omega) (by omega)) (by rw [nI_clamp (by omega)]; rfl) ?_
    refine y_aload_n d_Lw_law_512 rfl 6 rfl ?_
    refine y_iload d_Lw_law_513 1 rfl ?_
    refine y_iconst d_Lw_law_515 (v := 2) (by decide) ?_
    refine y_iadd d_Lw_law_516 (v := nI ((7 * j) + 2)) (nI_add _ _) ?_
    refine y_sld (v := zs g (7 * j + 2)) d_Lw_law_517 (vp_in_nI (by omega) (by omega)) (by rw [nI_clamp (by omega)]; rfl) ?_
    refine yw_callVL (As := [.int (zs g (7 * j + 1)), .int (zs g (7 * j + 2))]) (rest := []) (ci := 12) rfl (fun wA hA => (IV.nil hA hI).rm) ln_Lw_204 w_im_Mm_filledIn w_se_Mm_filledIn ok_Lw_law_Mm_filledIn d_Lw_law_518 (fun wA hA => K_Mm_filledIn (IV.nil hA hI) _ _) rfl rfl (Nat.le_of_ble_eq_true rfl) (by omega) (by omega) (fun wA518 hA518 E wB518 hx => ?_) (fun wA518 hA518 v wB518 hx => ?_)
    · obtain ⟨⟨v8, e1⟩, -⟩ := hx
      cases e1
    · obtain ⟨⟨v8, e1⟩, u2, hI2⟩ := hx
      cases e1
      refine yw_st (st2 := [.int v8]) rfl ?_
      have hI := hI2
      refine y_base (cs := []) (z_I.nil _) ?_
      refine y_istore (lv' := [(7, .int v8), (6, .int v9), (5, .int (nI (7 * j))), (4, .ref (ad 70)), (3, .ref (ad 69)), (2, .ref (ad 52)), (1, .ref (ad 0)), (0, .ref (g.2.2 40))]) d_Lw_law_521 (by decide) rfl ?_
      refine y_goto (tgt := 1808) d_Lw_law_523 (by decide) ?_
      refine y_lv (lv' := [(5, .int (nI (7 * j))), (4, .ref (ad 70)), (3, .ref (ad 69)), (2, .ref (ad 52)), (1, .ref (ad 0)), (0, .ref (g.2.2 40))]) [2, 3, 4, 5, 6, 7] rfl ?_
      refine y_end (fun wC hC => ?_)
      exact LC_next (IV.nil hC hI) hR hJ hL ih (by omega) (by omega)
theorem d_Lw_law_526 : decode code 526 = .ok (.aload_n 1, 1) := by decide +kernel
theorem d_Lw_law_527 : decode code 527 = .ok (.aload_n 3, 1) := by decide +kernel
theorem d_Lw_law_528 : decode code 528 = .ok (.invokestatic 205, 3) := by decide +kernel
theorem ok_Lw_law_Lw_speed : z_okX M_Lw_law M_Lw_speed 2 := ⟨z_mem (i := 831) (by decide +kernel) (by decide +kernel), by decide, ⟨by decide +kernel, by decide +kernel, by decide +kernel⟩, ⟨by decide, by decide⟩, z_mem (i := 57) (by decide +kernel) (by decide +kernel), rfl⟩
theorem ln_Lw_205 : Cond.methodLink "IronpourLaw" 205 M_Lw_speed.1 ∈ z_gw := z_mem (i := 829) (by decide +kernel) (by decide +kernel)
theorem w_st_Lw_speed : Cond.static M_Lw_speed.1 ∈ z_gw := z_mem (i := 830) (by decide +kernel) (by decide +kernel)
theorem d_Lw_law_531 : decode code 531 = .ok (.istore 6, 2) := by decide +kernel
theorem d_Lw_law_533 : decode code 533 = .ok (.aload_n 2, 1) := by decide +kernel
theorem d_Lw_law_534 : decode code 534 = .ok (.invokevirtual 208, 3) := by decide +kernel
theorem ok_Lw_law_Mm_speed : z_ok M_Lw_law M_Mm_speed 0 := ⟨z_mem (i := 1763) (by decide +kernel) (by decide +kernel), rfl, ⟨by decide +kernel, by decide +kernel, by decide +kernel⟩, ⟨by decide, by decide⟩, z_mem (i := 71) (by decide +kernel) (by decide +kernel), rfl⟩
theorem ln_Lw_208 : Cond.methodLink "IronpourLaw" 208 M_Mm_speed.1 ∈ z_gw := z_mem (i := 1760) (by decide +kernel) (by decide +kernel)
theorem w_im_Mm_speed : Cond.instanceMethod M_Mm_speed.1 ∈ z_gw := z_mem (i := 1761) (by decide +kernel) (by decide +kernel)
theorem w_se_Mm_speed : Cond.selects M_Mm_speed.1.cls M_Mm_speed.1 M_Mm_speed.1 ∈ z_gw := z_mem (i := 1762) (by decide +kernel) (by decide +kernel)
theorem d_Lw_law_537 : decode code 537 = .ok (.istore 7, 2) := by decide +kernel
theorem d_Lw_law_539 : decode code 539 = .ok (.goto 1269, 3) := by decide +kernel
set_option maxHeartbeats 4000000 in
set_option maxRecDepth 100000 in
theorem LC_speed {g : zG} {ad : Nat → Nat} {t : zTT} {u : zNN} {w : zW} (hI : IV g ad t u w) (hR : REL t) {j r : Nat} (hJ : 7 * j + 7 ≤ g.2.2 41) (hL : g.2.2 41 < 2 ^ 31) (ih : LWI g ad j r) : DW g M_Lw_law lwQ w 526 [(5, .int (nI (7 * j))), (4, .ref (ad 70)), (3, .ref (ad 69)), (2, .ref (ad 52)), (1, .ref (ad 0)), (0, .ref (g.2.2 40))] [] (100 * (r + 1)) (1000 * (r + 1)) := by
  refine y_base (cs := []) (z_I.nil w) ?_
  refine y_aload_n d_Lw_law_526 rfl 4 rfl ?_
  refine y_aload_n d_Lw_law_527 rfl 2 rfl ?_
  refine yw_callSX (As := [.ref (ad 0), .ref (ad 69)]) (rest := []) ln_Lw_205 w_st_Lw_speed ok_Lw_law_Lw_speed d_Lw_law_528 (fun wA hA => W_speed (IV.nil hA hI)) rfl rfl (Nat.le_of_ble_eq_true rfl) (by omega) (by omega) (fun wA528 hA528 E wB528 hx => ?_) (fun wA528 hA528 v wB528 hx => ?_)
  · obtain ⟨⟨v9, e1⟩, -⟩ := hx
    cases e1
  · obtain ⟨⟨v9, e1⟩, u2, hI2⟩ := hx
    cases e1
    refine yw_st (st2 := [.int v9]) rfl ?_
    have hI := hI2
    refine y_base (cs := []) (z_I.nil _) ?_
    refine y_istore (lv' := [(6, .int v9), (5, .int (nI (7 * j))), (4, .ref (ad 70)), (3, .ref (ad 69)), (2, .ref (ad 52)), (1, .ref (ad 0)), (0, .ref (g.2.2 40))]) d_Lw_law_531 (by decide) rfl ?_
    refine y_aload_n d_Lw_law_533 rfl 4 rfl ?_
    refine yw_callVL (As := []) (rest := []) (ci := 12) rfl (fun wA hA => (IV.nil hA hI).rm) ln_Lw_208 w_im_Mm_speed w_se_Mm_speed ok_Lw_law_Mm_speed d_Lw_law_534 (fun wA hA => K_Mm_speed (IV.nil hA hI)) rfl rfl (Nat.le_of_ble_eq_true rfl) (by omega) (by omega) (fun wA534 hA534 E wB534 hx => ?_) (fun wA534 hA534 v wB534 hx => ?_)
    · obtain ⟨⟨v8, e1⟩, -⟩ := hx
      cases e1
    · obtain ⟨⟨v8, e1⟩, u2, hI2⟩ := hx
      cases e1
      refine yw_st (st2 := [.int v8]) rfl ?_
      have hI := hI2
      refine y_base (cs := []) (z_I.nil _) ?_
      refine y_istore (lv' := [(7, .int v8), (6, .int v9), (5, .int (nI (7 * j))), (4, .ref (ad 70)), (3, .ref (ad 69)), (2, .ref (ad 52)), (1, .ref (ad 0)), (0, .ref (g.2.2 40))]) d_Lw_law_537 (by decide) rfl ?_
      refine y_goto (tgt := 1808) d_Lw_law_539 (by decide) ?_
      refine y_lv (lv' := [(5, .int (nI (7 * j))), (4, .ref (ad 70)), (3, .ref (ad 69)), (2, .ref (ad 52)), (1, .ref (ad 0)), (0, .ref (g.2.2 40))]) [2, 3, 4, 5, 6, 7] rfl ?_
      refine y_end (fun wC hC => ?_)
      exact LC_next (IV.nil hC hI) hR hJ hL ih (by omega) (by omega)
theorem d_Lw_law_542 : decode code 542 = .ok (.aload_n 1, 1) := by decide +kernel
theorem d_Lw_law_543 : decode code 543 = .ok (.aload_n 0, 1) := by decide +kernel
theorem d_Lw_law_544 : decode code 544 = .ok (.iload 5, 2) := by decide +kernel
theorem d_Lw_law_546 : decode code 546 = .ok (.iconst 1, 1) := by decide +kernel
theorem d_Lw_law_547 : decode code 547 = .ok (.iadd, 1) := by decide +kernel
theorem d_Lw_law_548 : decode code 548 = .ok (.iaload, 1) := by decide +kernel
theorem d_Lw_law_549 : decode code 549 = .ok (.aload_n 0, 1) := by decide +kernel
theorem d_Lw_law_550 : decode code 550 = .ok (.iload 5, 2) := by decide +kernel
theorem d_Lw_law_552 : decode code 552 = .ok (.iconst 2, 1) := by decide +kernel
theorem d_Lw_law_553 : decode code 553 = .ok (.iadd, 1) := by decide +kernel
theorem d_Lw_law_554 : decode code 554 = .ok (.iaload, 1) := by decide +kernel
theorem d_Lw_law_555 : decode code 555 = .ok (.aload_n 0, 1) := by decide +kernel
theorem d_Lw_law_556 : decode code 556 = .ok (.iload 5, 2) := by decide +kernel
theorem d_Lw_law_558 : decode code 558 = .ok (.iconst 3, 1) := by decide +kernel
theorem d_Lw_law_559 : decode code 559 = .ok (.iadd, 1) := by decide +kernel
theorem d_Lw_law_560 : decode code 560 = .ok (.iaload, 1) := by decide +kernel
theorem d_Lw_law_561 : decode code 561 = .ok (.aload_n 3, 1) := by decide +kernel
theorem d_Lw_law_562 : decode code 562 = .ok (.invokestatic 209, 3) := by decide +kernel
theorem ok_Lw_law_Lw_frozenIn : z_okX M_Lw_law M_Lw_frozenIn 5 := ⟨z_mem (i := 864) (by decide +kernel) (by decide +kernel), by decide, ⟨by decide +kernel, by decide +kernel, by decide +kernel⟩, ⟨by decide, by decide⟩, z_mem (i := 57) (by decide +kernel) (by decide +kernel), rfl⟩
theorem ln_Lw_209 : Cond.methodLink "IronpourLaw" 209 M_Lw_frozenIn.1 ∈ z_gw := z_mem (i := 862) (by decide +kernel) (by decide +kernel)
theorem w_st_Lw_frozenIn : Cond.static M_Lw_frozenIn.1 ∈ z_gw := z_mem (i := 863) (by decide +kernel) (by decide +kernel)
theorem d_Lw_law_565 : decode code 565 = .ok (.istore 6, 2) := by decide +kernel
theorem d_Lw_law_567 : decode code 567 = .ok (.aload_n 2, 1) := by decide +kernel
theorem d_Lw_law_568 : decode code 568 = .ok (.aload_n 0, 1) := by decide +kernel
theorem d_Lw_law_569 : decode code 569 = .ok (.iload 5, 2) := by decide +kernel
theorem d_Lw_law_571 : decode code 571 = .ok (.iconst 1, 1) := by decide +kernel
theorem d_Lw_law_572 : decode code 572 = .ok (.iadd, 1) := by decide +kernel
theorem d_Lw_law_573 : decode code 573 = .ok (.iaload, 1) := by decide +kernel
theorem d_Lw_law_574 : decode code 574 = .ok (.aload_n 0, 1) := by decide +kernel
theorem d_Lw_law_575 : decode code 575 = .ok (.iload 5, 2) := by decide +kernel
theorem d_Lw_law_577 : decode code 577 = .ok (.iconst 2, 1) := by decide +kernel
theorem d_Lw_law_578 : decode code 578 = .ok (.iadd, 1) := by decide +kernel
theorem d_Lw_law_579 : decode code 579 = .ok (.iaload, 1) := by decide +kernel
theorem d_Lw_law_580 : decode code 580 = .ok (.aload_n 0, 1) := by decide +kernel
theorem d_Lw_law_581 : decode code 581 = .ok (.iload 5, 2) := by decide +kernel
theorem d_Lw_law_583 : decode code 583 = .ok (.iconst 3, 1) := by decide +kernel
theorem d_Lw_law_584 : decode code 584 = .ok (.iadd, 1) := by decide +kernel
theorem d_Lw_law_585 : decode code 585 = .ok (.iaload, 1) := by decide +kernel
theorem d_Lw_law_586 : decode code 586 = .ok (.invokevirtual 212, 3) := by decide +kernel
theorem ok_Lw_law_Mm_frozenIn : z_ok M_Lw_law M_Mm_frozenIn 3 := ⟨z_mem (i := 1770) (by decide +kernel) (by decide +kernel), rfl, ⟨by decide +kernel, by decide +kernel, by decide +kernel⟩, ⟨by decide, by decide⟩, z_mem (i := 71) (by decide +kernel) (by decide +kernel), rfl⟩
theorem ln_Lw_212 : Cond.methodLink "IronpourLaw" 212 M_Mm_frozenIn.1 ∈ z_gw := z_mem (i := 1767) (by decide +kernel) (by decide +kernel)
theorem w_im_Mm_frozenIn : Cond.instanceMethod M_Mm_frozenIn.1 ∈ z_gw := z_mem (i := 1768) (by decide +kernel) (by decide +kernel)
theorem w_se_Mm_frozenIn : Cond.selects M_Mm_frozenIn.1.cls M_Mm_frozenIn.1 M_Mm_frozenIn.1 ∈ z_gw := z_mem (i := 1769) (by decide +kernel) (by decide +kernel)
theorem d_Lw_law_589 : decode code 589 = .ok (.istore 7, 2) := by decide +kernel
theorem d_Lw_law_591 : decode code 591 = .ok (.goto 1217, 3) := by decide +kernel
set_option maxHeartbeats 4000000 in
set_option maxRecDepth 100000 in
theorem LC_frozenIn {g : zG} {ad : Nat → Nat} {t : zTT} {u : zNN} {w : zW} (hI : IV g ad t u w) (hR : REL t) {j r : Nat} (hJ : 7 * j + 7 ≤ g.2.2 41) (hL : g.2.2 41 < 2 ^ 31) (ih : LWI g ad j r) : DW g M_Lw_law lwQ w 542 [(5, .int (nI (7 * j))), (4, .ref (ad 70)), (3, .ref (ad 69)), (2, .ref (ad 52)), (1, .ref (ad 0)), (0, .ref (g.2.2 40))] [] (100 * (r + 1)) (1000 * (r + 1)) := by
  refine y_base (cs := []) (z_I.nil w) ?_
  refine y_aload_n d_Lw_law_542 rfl 4 rfl ?_
  refine y_aload_n d_Lw_law_543 rfl 5 rfl ?_
  refine y_iload d_Lw_law_544 0 rfl ?_
  refine y_iconst d_Lw_law_546 (v := 1) (by decide) ?_
  refine y_iadd d_Lw_law_547 (v := nI ((7 * j) + 1)) (nI_add _ _) ?_
  refine y_sld (v := zs g (7 * j + 1)) d_Lw_law_548 (vp_in_nI (by omega) (by omega)) (by rw [nI_clamp (by omega)]; rfl) ?_
  refine y_aload_n d_Lw_law_549 rfl 5 rfl ?_
  refine y_iload d_Lw_law_550 0 rfl ?_
  refine y_iconst d_Lw_law_552 (v := 2) (by decide) ?_
  refine y_iadd d_Lw_law_553 (v := nI ((7 * j) + 2)) (nI_add _ _) ?_
  refine y_sld (v := zs g (7 * j + 2)) d_Lw_law_554 (vp_in_nI (by omega) (by omega)) (by rw [nI_clamp (by omega)]; rfl) ?_
  refine y_aload_n d_Lw_law_555 rfl 5 rfl ?_
  refine y_iload d_Lw_law_556 0 rfl ?_
  refine y_iconst d_Lw_law_558 (v := 3) (by decide) ?_
  refine y_iadd d_Lw_law_559 (v := nI ((7 * j) + 3)) (nI_add _ _) ?_
  refine y_sld (v := zs g (7 * j + 3)) d_Lw_law_560 (vp_in_nI (by omega) (by omega)) (by rw [nI_clamp (by omega)]; rfl) ?_
  refine y_aload_n d_Lw_law_561 rfl 2 rfl ?_
  refine yw_callSX (As := [.ref (ad 0), .int (zs g (7 * j + 1)), .int (zs g (7 * j + 2)), .int (zs g (7 * j + 3)), .ref (ad 69)]) (rest := []) ln_Lw_209 w_st_Lw_frozenIn ok_Lw_law_Lw_frozenIn d_Lw_law_562 (fun wA hA => W_frozenIn (IV.nil hA hI) _ _ _) rfl rfl (Nat.le_of_ble_eq_true rfl) (by omega) (by omega) (fun wA562 hA562 E wB562 hx => ?_) (fun wA562 hA562 v wB562 hx => ?_)
  · obtain ⟨⟨v9, e1⟩, -⟩ := hx
    cases e1
  · obtain ⟨⟨v9, e1⟩, u2, hI2⟩ := hx
    cases e1
    refine yw_st (st2 := [.int v9]) rfl ?_
    have hI := hI2
    refine y_base (cs := []) (z_I.nil _) ?_
    refine y_istore (lv' := [(6, .int v9), (5, .int (nI (7 * j))), (4, .ref (ad 70)), (3, .ref (ad 69)), (2, .ref (ad 52)), (1, .ref (ad 0)), (0, .ref (g.2.2 40))]) d_Lw_law_565 (by decide) rfl ?_
    refine y_aload_n d_Lw_law_567 rfl 4 rfl ?_
    refine y_aload_n d_Lw_law_568 rfl 6 rfl ?_
    refine y_iload d_Lw_law_569 1 rfl ?_
    refine y_iconst d_Lw_law_571 (v := 1) (by decide) ?_
    refine y_iadd d_Lw_law_572 (v := nI ((7 * j) + 1)) (nI_add _ _) ?_
    refine y_sld (v := zs g (7 * j + 1)) d_Lw_law_573 (vp_in_nI (by omega) (by omega)) (by rw [nI_clamp (by omega)]; rfl) ?_
    refine y_aload_n d_Lw_law_574 rfl 6 rfl ?_
    refine y_iload d_Lw_law_575 1 rfl ?_
    refine y_iconst d_Lw_law_577 (v := 2) (by decide) ?_
    refine y_iadd d_Lw_law_578 (v := nI ((7 * j) + 2)) (nI_add _ _) ?_
    refine y_sld (v := zs g (7 * j + 2)) d_Lw_law_579 (vp_in_nI (by omega) (by omega)) (by rw [nI_clamp (by omega)]; rfl) ?_
    refine y_aload_n d_Lw_law_580 rfl 6 rfl ?_
    refine y_iload d_Lw_law_581 1 rfl ?_
    refine y_iconst d_Lw_law_583 (v := 3) (by decide) ?_
    refine y_iadd d_Lw_law_584 (v := nI ((7 * j) + 3)) (nI_add _ _) ?_
    refine y_sld (v := zs g (7 * j + 3)) d_Lw_law_585 (vp_in_nI (by omega) (by omega)) (by rw [nI_clamp (by omega)]; rfl) ?_
    refine yw_callVL (As := [.int (zs g (7 * j + 1)), .int (zs g (7 * j + 2)), .int (zs g (7 * j + 3))]) (rest := []) (ci := 12) rfl (fun wA hA => (IV.nil hA hI).rm) ln_Lw_212 w_im_Mm_frozenIn w_se_Mm_frozenIn ok_Lw_law_Mm_frozenIn d_Lw_law_586 (fun wA hA => K_Mm_frozenIn (IV.nil hA hI) _ _ _) rfl rfl (Nat.le_of_ble_eq_true rfl) (by omega) (by omega) (fun wA586 hA586 E wB586 hx => ?_) (fun wA586 hA586 v wB586 hx => ?_)
    · obtain ⟨⟨v8, e1⟩, -⟩ := hx
      cases e1
    · obtain ⟨⟨v8, e1⟩, u2, hI2⟩ := hx
      cases e1
      refine yw_st (st2 := [.int v8]) rfl ?_
      have hI := hI2
      refine y_base (cs := []) (z_I.nil _) ?_
      refine y_istore (lv' := [(7, .int v8), (6, .int v9), (5, .int (nI (7 * j))), (4, .ref (ad 70)), (3, .ref (ad 69)), (2, .ref (ad 52)), (1, .ref (ad 0)), (0, .ref (g.2.2 40))]) d_Lw_law_589 (by decide) rfl ?_
      refine y_goto (tgt := 1808) d_Lw_law_591 (by decide) ?_
      refine y_lv (lv' := [(5, .int (nI (7 * j))), (4, .ref (ad 70)), (3, .ref (ad 69)), (2, .ref (ad 52)), (1, .ref (ad 0)), (0, .ref (g.2.2 40))]) [2, 3, 4, 5, 6, 7] rfl ?_
      refine y_end (fun wC hC => ?_)
      exact LC_next (IV.nil hC hI) hR hJ hL ih (by omega) (by omega)
theorem d_Lw_law_594 : decode code 594 = .ok (.aload_n 1, 1) := by decide +kernel
theorem d_Lw_law_595 : decode code 595 = .ok (.aload_n 0, 1) := by decide +kernel
theorem d_Lw_law_596 : decode code 596 = .ok (.iload 5, 2) := by decide +kernel
theorem d_Lw_law_598 : decode code 598 = .ok (.iconst 1, 1) := by decide +kernel
theorem d_Lw_law_599 : decode code 599 = .ok (.iadd, 1) := by decide +kernel
theorem d_Lw_law_600 : decode code 600 = .ok (.iaload, 1) := by decide +kernel
theorem d_Lw_law_601 : decode code 601 = .ok (.aload_n 0, 1) := by decide +kernel
theorem d_Lw_law_602 : decode code 602 = .ok (.iload 5, 2) := by decide +kernel
theorem d_Lw_law_604 : decode code 604 = .ok (.iconst 2, 1) := by decide +kernel
theorem d_Lw_law_605 : decode code 605 = .ok (.iadd, 1) := by decide +kernel
theorem d_Lw_law_606 : decode code 606 = .ok (.iaload, 1) := by decide +kernel
theorem d_Lw_law_607 : decode code 607 = .ok (.aload_n 0, 1) := by decide +kernel
theorem d_Lw_law_608 : decode code 608 = .ok (.iload 5, 2) := by decide +kernel
theorem d_Lw_law_610 : decode code 610 = .ok (.iconst 3, 1) := by decide +kernel
theorem d_Lw_law_611 : decode code 611 = .ok (.iadd, 1) := by decide +kernel
theorem d_Lw_law_612 : decode code 612 = .ok (.iaload, 1) := by decide +kernel
theorem d_Lw_law_613 : decode code 613 = .ok (.aload_n 0, 1) := by decide +kernel
theorem d_Lw_law_614 : decode code 614 = .ok (.iload 5, 2) := by decide +kernel
theorem d_Lw_law_616 : decode code 616 = .ok (.iconst 4, 1) := by decide +kernel
theorem d_Lw_law_617 : decode code 617 = .ok (.iadd, 1) := by decide +kernel
theorem d_Lw_law_618 : decode code 618 = .ok (.iaload, 1) := by decide +kernel
theorem d_Lw_law_619 : decode code 619 = .ok (.aload_n 3, 1) := by decide +kernel
theorem d_Lw_law_620 : decode code 620 = .ok (.invokestatic 213, 3) := by decide +kernel
theorem ok_Lw_law_Lw_heatAt : z_okX M_Lw_law M_Lw_heatAt 6 := ⟨z_mem (i := 878) (by decide +kernel) (by decide +kernel), by decide, ⟨by decide +kernel, by decide +kernel, by decide +kernel⟩, ⟨by decide, by decide⟩, z_mem (i := 57) (by decide +kernel) (by decide +kernel), rfl⟩
theorem ln_Lw_213 : Cond.methodLink "IronpourLaw" 213 M_Lw_heatAt.1 ∈ z_gw := z_mem (i := 876) (by decide +kernel) (by decide +kernel)
theorem w_st_Lw_heatAt : Cond.static M_Lw_heatAt.1 ∈ z_gw := z_mem (i := 877) (by decide +kernel) (by decide +kernel)
theorem d_Lw_law_623 : decode code 623 = .ok (.istore 6, 2) := by decide +kernel
theorem d_Lw_law_625 : decode code 625 = .ok (.aload_n 2, 1) := by decide +kernel
theorem d_Lw_law_626 : decode code 626 = .ok (.aload_n 0, 1) := by decide +kernel
theorem d_Lw_law_627 : decode code 627 = .ok (.iload 5, 2) := by decide +kernel
theorem d_Lw_law_629 : decode code 629 = .ok (.iconst 1, 1) := by decide +kernel
theorem d_Lw_law_630 : decode code 630 = .ok (.iadd, 1) := by decide +kernel
theorem d_Lw_law_631 : decode code 631 = .ok (.iaload, 1) := by decide +kernel
theorem d_Lw_law_632 : decode code 632 = .ok (.aload_n 0, 1) := by decide +kernel
theorem d_Lw_law_633 : decode code 633 = .ok (.iload 5, 2) := by decide +kernel
theorem d_Lw_law_635 : decode code 635 = .ok (.iconst 2, 1) := by decide +kernel
theorem d_Lw_law_636 : decode code 636 = .ok (.iadd, 1) := by decide +kernel
theorem d_Lw_law_637 : decode code 637 = .ok (.iaload, 1) := by decide +kernel
theorem d_Lw_law_638 : decode code 638 = .ok (.aload_n 0, 1) := by decide +kernel
theorem d_Lw_law_639 : decode code 639 = .ok (.iload 5, 2) := by decide +kernel
theorem d_Lw_law_641 : decode code 641 = .ok (.iconst 3, 1) := by decide +kernel
theorem d_Lw_law_642 : decode code 642 = .ok (.iadd, 1) := by decide +kernel
theorem d_Lw_law_643 : decode code 643 = .ok (.iaload, 1) := by decide +kernel
theorem d_Lw_law_644 : decode code 644 = .ok (.aload_n 0, 1) := by decide +kernel
theorem d_Lw_law_645 : decode code 645 = .ok (.iload 5, 2) := by decide +kernel
theorem d_Lw_law_647 : decode code 647 = .ok (.iconst 4, 1) := by decide +kernel
theorem d_Lw_law_648 : decode code 648 = .ok (.iadd, 1) := by decide +kernel
theorem d_Lw_law_649 : decode code 649 = .ok (.iaload, 1) := by decide +kernel
theorem d_Lw_law_650 : decode code 650 = .ok (.invokevirtual 216, 3) := by decide +kernel
theorem ok_Lw_law_Mm_heatAt : z_ok M_Lw_law M_Mm_heatAt 4 := ⟨z_mem (i := 1797) (by decide +kernel) (by decide +kernel), rfl, ⟨by decide +kernel, by decide +kernel, by decide +kernel⟩, ⟨by decide, by decide⟩, z_mem (i := 71) (by decide +kernel) (by decide +kernel), rfl⟩
theorem ln_Lw_216 : Cond.methodLink "IronpourLaw" 216 M_Mm_heatAt.1 ∈ z_gw := z_mem (i := 1794) (by decide +kernel) (by decide +kernel)
theorem w_im_Mm_heatAt : Cond.instanceMethod M_Mm_heatAt.1 ∈ z_gw := z_mem (i := 1795) (by decide +kernel) (by decide +kernel)
theorem w_se_Mm_heatAt : Cond.selects M_Mm_heatAt.1.cls M_Mm_heatAt.1 M_Mm_heatAt.1 ∈ z_gw := z_mem (i := 1796) (by decide +kernel) (by decide +kernel)
theorem d_Lw_law_653 : decode code 653 = .ok (.istore 7, 2) := by decide +kernel
theorem d_Lw_law_655 : decode code 655 = .ok (.goto 1153, 3) := by decide +kernel
set_option maxHeartbeats 4000000 in
set_option maxRecDepth 100000 in
theorem LC_heatAt {g : zG} {ad : Nat → Nat} {t : zTT} {u : zNN} {w : zW} (hI : IV g ad t u w) (hR : REL t) {j r : Nat} (hJ : 7 * j + 7 ≤ g.2.2 41) (hL : g.2.2 41 < 2 ^ 31) (ih : LWI g ad j r) : DW g M_Lw_law lwQ w 594 [(5, .int (nI (7 * j))), (4, .ref (ad 70)), (3, .ref (ad 69)), (2, .ref (ad 52)), (1, .ref (ad 0)), (0, .ref (g.2.2 40))] [] (100 * (r + 1)) (1000 * (r + 1)) := by
  refine y_base (cs := []) (z_I.nil w) ?_
  refine y_aload_n d_Lw_law_594 rfl 4 rfl ?_
  refine y_aload_n d_Lw_law_595 rfl 5 rfl ?_
  refine y_iload d_Lw_law_596 0 rfl ?_
  refine y_iconst d_Lw_law_598 (v := 1) (by decide) ?_
  refine y_iadd d_Lw_law_599 (v := nI ((7 * j) + 1)) (nI_add _ _) ?_
  refine y_sld (v := zs g (7 * j + 1)) d_Lw_law_600 (vp_in_nI (by omega) (by omega)) (by rw [nI_clamp (by omega)]; rfl) ?_
  refine y_aload_n d_Lw_law_601 rfl 5 rfl ?_
  refine y_iload d_Lw_law_602 0 rfl ?_
  refine y_iconst d_Lw_law_604 (v := 2) (by decide) ?_
  refine y_iadd d_Lw_law_605 (v := nI ((7 * j) + 2)) (nI_add _ _) ?_
  refine y_sld (v := zs g (7 * j + 2)) d_Lw_law_606 (vp_in_nI (by omega) (by omega)) (by rw [nI_clamp (by omega)]; rfl) ?_
  refine y_aload_n d_Lw_law_607 rfl 5 rfl ?_
  refine y_iload d_Lw_law_608 0 rfl ?_
  refine y_iconst d_Lw_law_610 (v := 3) (by decide) ?_
  refine y_iadd d_Lw_law_611 (v := nI ((7 * j) + 3)) (nI_add _ _) ?_
  refine y_sld (v := zs g (7 * j + 3)) d_Lw_law_612 (vp_in_nI (by omega) (by omega)) (by rw [nI_clamp (by omega)]; rfl) ?_
  refine y_aload_n d_Lw_law_613 rfl 5 rfl ?_
  refine y_iload d_Lw_law_614 0 rfl ?_
  refine y_iconst d_Lw_law_616 (v := 4) (by decide) ?_
  refine y_iadd d_Lw_law_617 (v := nI ((7 * j) + 4)) (nI_add _ _) ?_
  refine y_sld (v := zs g (7 * j + 4)) d_Lw_law_618 (vp_in_nI (by omega) (by omega)) (by rw [nI_clamp (by omega)]; rfl) ?_
  refine y_aload_n d_Lw_law_619 rfl 2 rfl ?_
  refine yw_callSX (As := [.ref (ad 0), .int (zs g (7 * j + 1)), .int (zs g (7 * j + 2)), .int (zs g (7 * j + 3)), .int (zs g (7 * j + 4)), .ref (ad 69)]) (rest := []) ln_Lw_213 w_st_Lw_heatAt ok_Lw_law_Lw_heatAt d_Lw_law_620 (fun wA hA => W_heatAt (IV.nil hA hI) _ _ _ _) rfl rfl (Nat.le_of_ble_eq_true rfl) (by omega) (by omega) (fun wA620 hA620 E wB620 hx => ?_) (fun wA620 hA620 v wB620 hx => ?_)
  · obtain ⟨⟨v9, e1⟩, -⟩ := hx
    cases e1
  · obtain ⟨⟨v9, e1⟩, u2, hI2⟩ := hx
    cases e1
    refine yw_st (st2 := [.int v9]) rfl ?_
    have hI := hI2
    refine y_base (cs := []) (z_I.nil _) ?_
    refine y_istore (lv' := [(6, .int v9), (5, .int (nI (7 * j))), (4, .ref (ad 70)), (3, .ref (ad 69)), (2, .ref (ad 52)), (1, .ref (ad 0)), (0, .ref (g.2.2 40))]) d_Lw_law_623 (by decide) rfl ?_
    refine y_aload_n d_Lw_law_625 rfl 4 rfl ?_
    refine y_aload_n d_Lw_law_626 rfl 6 rfl ?_
    refine y_iload d_Lw_law_627 1 rfl ?_
    refine y_iconst d_Lw_law_629 (v := 1) (by decide) ?_
    refine y_iadd d_Lw_law_630 (v := nI ((7 * j) + 1)) (nI_add _ _) ?_
    refine y_sld (v := zs g (7 * j + 1)) d_Lw_law_631 (vp_in_nI (by omega) (by omega)) (by rw [nI_clamp (by omega)]; rfl) ?_
    refine y_aload_n d_Lw_law_632 rfl 6 rfl ?_
    refine y_iload d_Lw_law_633 1 rfl ?_
    refine y_iconst d_Lw_law_635 (v := 2) (by decide) ?_
    refine y_iadd d_Lw_law_636 (v := nI ((7 * j) + 2)) (nI_add _ _) ?_
    refine y_sld (v := zs g (7 * j + 2)) d_Lw_law_637 (vp_in_nI (by omega) (by omega)) (by rw [nI_clamp (by omega)]; rfl) ?_
    refine y_aload_n d_Lw_law_638 rfl 6 rfl ?_
    refine y_iload d_Lw_law_639 1 rfl ?_
    refine y_iconst d_Lw_law_641 (v := 3) (by decide) ?_
    refine y_iadd d_Lw_law_642 (v := nI ((7 * j) + 3)) (nI_add _ _) ?_
    refine y_sld (v := zs g (7 * j + 3)) d_Lw_law_643 (vp_in_nI (by omega) (by omega)) (by rw [nI_clamp (by omega)]; rfl) ?_
    refine y_aload_n d_Lw_law_644 rfl 6 rfl ?_
    refine y_iload d_Lw_law_645 1 rfl ?_
    refine y_iconst d_Lw_law_647 (v := 4) (by decide) ?_
    refine y_iadd d_Lw_law_648 (v := nI ((7 * j) + 4)) (nI_add _ _) ?_
    refine y_sld (v := zs g (7 * j + 4)) d_Lw_law_649 (vp_in_nI (by omega) (by omega)) (by rw [nI_clamp (by omega)]; rfl) ?_
    refine yw_callVL (As := [.int (zs g (7 * j + 1)), .int (zs g (7 * j + 2)), .int (zs g (7 * j + 3)), .int (zs g (7 * j + 4))]) (rest := []) (ci := 12) rfl (fun wA hA => (IV.nil hA hI).rm) ln_Lw_216 w_im_Mm_heatAt w_se_Mm_heatAt ok_Lw_law_Mm_heatAt d_Lw_law_650 (fun wA hA => K_Mm_heatAt (IV.nil hA hI) _ _ _ _) rfl rfl (Nat.le_of_ble_eq_true rfl) (by omega) (by omega) (fun wA650 hA650 E wB650 hx => ?_) (fun wA650 hA650 v wB650 hx => ?_)
    · obtain ⟨⟨v8, e1⟩, -⟩ := hx
      cases e1
    · obtain ⟨⟨v8, e1⟩, u2, hI2⟩ := hx
      cases e1
      refine yw_st (st2 := [.int v8]) rfl ?_
      have hI := hI2
      refine y_base (cs := []) (z_I.nil _) ?_
      refine y_istore (lv' := [(7, .int v8), (6, .int v9), (5, .int (nI (7 * j))), (4, .ref (ad 70)), (3, .ref (ad 69)), (2, .ref (ad 52)), (1, .ref (ad 0)), (0, .ref (g.2.2 40))]) d_Lw_law_653 (by decide) rfl ?_
      refine y_goto (tgt := 1808) d_Lw_law_655 (by decide) ?_
      refine y_lv (lv' := [(5, .int (nI (7 * j))), (4, .ref (ad 70)), (3, .ref (ad 69)), (2, .ref (ad 52)), (1, .ref (ad 0)), (0, .ref (g.2.2 40))]) [2, 3, 4, 5, 6, 7] rfl ?_
      refine y_end (fun wC hC => ?_)
      exact LC_next (IV.nil hC hI) hR hJ hL ih (by omega) (by omega)
theorem d_Lw_law_658 : decode code 658 = .ok (.aload_n 1, 1) := by decide +kernel
theorem d_Lw_law_659 : decode code 659 = .ok (.aload_n 0, 1) := by decide +kernel
theorem d_Lw_law_660 : decode code 660 = .ok (.iload 5, 2) := by decide +kernel
theorem d_Lw_law_662 : decode code 662 = .ok (.iconst 1, 1) := by decide +kernel
theorem d_Lw_law_663 : decode code 663 = .ok (.iadd, 1) := by decide +kernel
theorem d_Lw_law_664 : decode code 664 = .ok (.iaload, 1) := by decide +kernel
theorem d_Lw_law_665 : decode code 665 = .ok (.aload_n 0, 1) := by decide +kernel
theorem d_Lw_law_666 : decode code 666 = .ok (.iload 5, 2) := by decide +kernel
theorem d_Lw_law_668 : decode code 668 = .ok (.iconst 2, 1) := by decide +kernel
theorem d_Lw_law_669 : decode code 669 = .ok (.iadd, 1) := by decide +kernel
theorem d_Lw_law_670 : decode code 670 = .ok (.iaload, 1) := by decide +kernel
theorem d_Lw_law_671 : decode code 671 = .ok (.aload_n 0, 1) := by decide +kernel
theorem d_Lw_law_672 : decode code 672 = .ok (.iload 5, 2) := by decide +kernel
theorem d_Lw_law_674 : decode code 674 = .ok (.iconst 3, 1) := by decide +kernel
theorem d_Lw_law_675 : decode code 675 = .ok (.iadd, 1) := by decide +kernel
theorem d_Lw_law_676 : decode code 676 = .ok (.iaload, 1) := by decide +kernel
theorem d_Lw_law_677 : decode code 677 = .ok (.aload_n 3, 1) := by decide +kernel
theorem d_Lw_law_678 : decode code 678 = .ok (.invokestatic 217, 3) := by decide +kernel
theorem ok_Lw_law_Lw_isFed : z_okX M_Lw_law M_Lw_isFed 5 := ⟨z_mem (i := 890) (by decide +kernel) (by decide +kernel), by decide, ⟨by decide +kernel, by decide +kernel, by decide +kernel⟩, ⟨by decide, by decide⟩, z_mem (i := 57) (by decide +kernel) (by decide +kernel), rfl⟩
theorem ln_Lw_217 : Cond.methodLink "IronpourLaw" 217 M_Lw_isFed.1 ∈ z_gw := z_mem (i := 888) (by decide +kernel) (by decide +kernel)
theorem w_st_Lw_isFed : Cond.static M_Lw_isFed.1 ∈ z_gw := z_mem (i := 889) (by decide +kernel) (by decide +kernel)
theorem d_Lw_law_681 : decode code 681 = .ok (.istore 6, 2) := by decide +kernel
theorem d_Lw_law_683 : decode code 683 = .ok (.aload_n 2, 1) := by decide +kernel
theorem d_Lw_law_684 : decode code 684 = .ok (.aload_n 0, 1) := by decide +kernel
theorem d_Lw_law_685 : decode code 685 = .ok (.iload 5, 2) := by decide +kernel
theorem d_Lw_law_687 : decode code 687 = .ok (.iconst 1, 1) := by decide +kernel
theorem d_Lw_law_688 : decode code 688 = .ok (.iadd, 1) := by decide +kernel
theorem d_Lw_law_689 : decode code 689 = .ok (.iaload, 1) := by decide +kernel
theorem d_Lw_law_690 : decode code 690 = .ok (.aload_n 0, 1) := by decide +kernel
theorem d_Lw_law_691 : decode code 691 = .ok (.iload 5, 2) := by decide +kernel
theorem d_Lw_law_693 : decode code 693 = .ok (.iconst 2, 1) := by decide +kernel
theorem d_Lw_law_694 : decode code 694 = .ok (.iadd, 1) := by decide +kernel
theorem d_Lw_law_695 : decode code 695 = .ok (.iaload, 1) := by decide +kernel
theorem d_Lw_law_696 : decode code 696 = .ok (.aload_n 0, 1) := by decide +kernel
theorem d_Lw_law_697 : decode code 697 = .ok (.iload 5, 2) := by decide +kernel
theorem d_Lw_law_699 : decode code 699 = .ok (.iconst 3, 1) := by decide +kernel
theorem d_Lw_law_700 : decode code 700 = .ok (.iadd, 1) := by decide +kernel
theorem d_Lw_law_701 : decode code 701 = .ok (.iaload, 1) := by decide +kernel
theorem d_Lw_law_702 : decode code 702 = .ok (.invokevirtual 219, 3) := by decide +kernel
theorem ok_Lw_law_Mm_isFed : z_ok M_Lw_law M_Mm_isFed 3 := ⟨z_mem (i := 1801) (by decide +kernel) (by decide +kernel), rfl, ⟨by decide +kernel, by decide +kernel, by decide +kernel⟩, ⟨by decide, by decide⟩, z_mem (i := 71) (by decide +kernel) (by decide +kernel), rfl⟩
theorem ln_Lw_219 : Cond.methodLink "IronpourLaw" 219 M_Mm_isFed.1 ∈ z_gw := z_mem (i := 1798) (by decide +kernel) (by decide +kernel)
theorem w_im_Mm_isFed : Cond.instanceMethod M_Mm_isFed.1 ∈ z_gw := z_mem (i := 1799) (by decide +kernel) (by decide +kernel)
theorem w_se_Mm_isFed : Cond.selects M_Mm_isFed.1.cls M_Mm_isFed.1 M_Mm_isFed.1 ∈ z_gw := z_mem (i := 1800) (by decide +kernel) (by decide +kernel)
theorem d_Lw_law_705 : decode code 705 = .ok (.istore 7, 2) := by decide +kernel
theorem d_Lw_law_707 : decode code 707 = .ok (.goto 1101, 3) := by decide +kernel
set_option maxHeartbeats 4000000 in
set_option maxRecDepth 100000 in
theorem LC_isFed {g : zG} {ad : Nat → Nat} {t : zTT} {u : zNN} {w : zW} (hI : IV g ad t u w) (hR : REL t) {j r : Nat} (hJ : 7 * j + 7 ≤ g.2.2 41) (hL : g.2.2 41 < 2 ^ 31) (ih : LWI g ad j r) : DW g M_Lw_law lwQ w 658 [(5, .int (nI (7 * j))), (4, .ref (ad 70)), (3, .ref (ad 69)), (2, .ref (ad 52)), (1, .ref (ad 0)), (0, .ref (g.2.2 40))] [] (100 * (r + 1)) (1000 * (r + 1)) := by
  refine y_base (cs := []) (z_I.nil w) ?_
  refine y_aload_n d_Lw_law_658 rfl 4 rfl ?_
  refine y_aload_n d_Lw_law_659 rfl 5 rfl ?_
  refine y_iload d_Lw_law_660 0 rfl ?_
  refine y_iconst d_Lw_law_662 (v := 1) (by decide) ?_
  refine y_iadd d_Lw_law_663 (v := nI ((7 * j) + 1)) (nI_add _ _) ?_
  refine y_sld (v := zs g (7 * j + 1)) d_Lw_law_664 (vp_in_nI (by omega) (by omega)) (by rw [nI_clamp (by omega)]; rfl) ?_
  refine y_aload_n d_Lw_law_665 rfl 5 rfl ?_
  refine y_iload d_Lw_law_666 0 rfl ?_
  refine y_iconst d_Lw_law_668 (v := 2) (by decide) ?_
  refine y_iadd d_Lw_law_669 (v := nI ((7 * j) + 2)) (nI_add _ _) ?_
  refine y_sld (v := zs g (7 * j + 2)) d_Lw_law_670 (vp_in_nI (by omega) (by omega)) (by rw [nI_clamp (by omega)]; rfl) ?_
  refine y_aload_n d_Lw_law_671 rfl 5 rfl ?_
  refine y_iload d_Lw_law_672 0 rfl ?_
  refine y_iconst d_Lw_law_674 (v := 3) (by decide) ?_
  refine y_iadd d_Lw_law_675 (v := nI ((7 * j) + 3)) (nI_add _ _) ?_
  refine y_sld (v := zs g (7 * j + 3)) d_Lw_law_676 (vp_in_nI (by omega) (by omega)) (by rw [nI_clamp (by omega)]; rfl) ?_
  refine y_aload_n d_Lw_law_677 rfl 2 rfl ?_
  refine yw_callSX (As := [.ref (ad 0), .int (zs g (7 * j + 1)), .int (zs g (7 * j + 2)), .int (zs g (7 * j + 3)), .ref (ad 69)]) (rest := []) ln_Lw_217 w_st_Lw_isFed ok_Lw_law_Lw_isFed d_Lw_law_678 (fun wA hA => W_isFed (IV.nil hA hI) _ _ _) rfl rfl (Nat.le_of_ble_eq_true rfl) (by omega) (by omega) (fun wA678 hA678 E wB678 hx => ?_) (fun wA678 hA678 v wB678 hx => ?_)
  · obtain ⟨⟨v9, e1⟩, -⟩ := hx
    cases e1
  · obtain ⟨⟨v9, e1⟩, u2, hI2⟩ := hx
    cases e1
    refine yw_st (st2 := [.int v9]) rfl ?_
    have hI := hI2
    refine y_base (cs := []) (z_I.nil _) ?_
    refine y_istore (lv' := [(6, .int v9), (5, .int (nI (7 * j))), (4, .ref (ad 70)), (3, .ref (ad 69)), (2, .ref (ad 52)), (1, .ref (ad 0)), (0, .ref (g.2.2 40))]) d_Lw_law_681 (by decide) rfl ?_
    refine y_aload_n d_Lw_law_683 rfl 4 rfl ?_
    refine y_aload_n d_Lw_law_684 rfl 6 rfl ?_
    refine y_iload d_Lw_law_685 1 rfl ?_
    refine y_iconst d_Lw_law_687 (v := 1) (by decide) ?_
    refine y_iadd d_Lw_law_688 (v := nI ((7 * j) + 1)) (nI_add _ _) ?_
    refine y_sld (v := zs g (7 * j + 1)) d_Lw_law_689 (vp_in_nI (by omega) (by omega)) (by rw [nI_clamp (by omega)]; rfl) ?_
    refine y_aload_n d_Lw_law_690 rfl 6 rfl ?_
    refine y_iload d_Lw_law_691 1 rfl ?_
    refine y_iconst d_Lw_law_693 (v := 2) (by decide) ?_
    refine y_iadd d_Lw_law_694 (v := nI ((7 * j) + 2)) (nI_add _ _) ?_
    refine y_sld (v := zs g (7 * j + 2)) d_Lw_law_695 (vp_in_nI (by omega) (by omega)) (by rw [nI_clamp (by omega)]; rfl) ?_
    refine y_aload_n d_Lw_law_696 rfl 6 rfl ?_
    refine y_iload d_Lw_law_697 1 rfl ?_
    refine y_iconst d_Lw_law_699 (v := 3) (by decide) ?_
    refine y_iadd d_Lw_law_700 (v := nI ((7 * j) + 3)) (nI_add _ _) ?_
    refine y_sld (v := zs g (7 * j + 3)) d_Lw_law_701 (vp_in_nI (by omega) (by omega)) (by rw [nI_clamp (by omega)]; rfl) ?_
    refine yw_callVL (As := [.int (zs g (7 * j + 1)), .int (zs g (7 * j + 2)), .int (zs g (7 * j + 3))]) (rest := []) (ci := 12) rfl (fun wA hA => (IV.nil hA hI).rm) ln_Lw_219 w_im_Mm_isFed w_se_Mm_isFed ok_Lw_law_Mm_isFed d_Lw_law_702 (fun wA hA => K_Mm_isFed (IV.nil hA hI) _ _ _) rfl rfl (Nat.le_of_ble_eq_true rfl) (by omega) (by omega) (fun wA702 hA702 E wB702 hx => ?_) (fun wA702 hA702 v wB702 hx => ?_)
    · obtain ⟨⟨v8, e1⟩, -⟩ := hx
      cases e1
    · obtain ⟨⟨v8, e1⟩, u2, hI2⟩ := hx
      cases e1
      refine yw_st (st2 := [.int v8]) rfl ?_
      have hI := hI2
      refine y_base (cs := []) (z_I.nil _) ?_
      refine y_istore (lv' := [(7, .int v8), (6, .int v9), (5, .int (nI (7 * j))), (4, .ref (ad 70)), (3, .ref (ad 69)), (2, .ref (ad 52)), (1, .ref (ad 0)), (0, .ref (g.2.2 40))]) d_Lw_law_705 (by decide) rfl ?_
      refine y_goto (tgt := 1808) d_Lw_law_707 (by decide) ?_
      refine y_lv (lv' := [(5, .int (nI (7 * j))), (4, .ref (ad 70)), (3, .ref (ad 69)), (2, .ref (ad 52)), (1, .ref (ad 0)), (0, .ref (g.2.2 40))]) [2, 3, 4, 5, 6, 7] rfl ?_
      refine y_end (fun wC hC => ?_)
      exact LC_next (IV.nil hC hI) hR hJ hL ih (by omega) (by omega)
theorem d_Lw_law_710 : decode code 710 = .ok (.aload_n 1, 1) := by decide +kernel
theorem d_Lw_law_711 : decode code 711 = .ok (.aload_n 0, 1) := by decide +kernel
theorem d_Lw_law_712 : decode code 712 = .ok (.iload 5, 2) := by decide +kernel
theorem d_Lw_law_714 : decode code 714 = .ok (.iconst 1, 1) := by decide +kernel
theorem d_Lw_law_715 : decode code 715 = .ok (.iadd, 1) := by decide +kernel
theorem d_Lw_law_716 : decode code 716 = .ok (.iaload, 1) := by decide +kernel
theorem d_Lw_law_717 : decode code 717 = .ok (.aload_n 3, 1) := by decide +kernel
theorem d_Lw_law_718 : decode code 718 = .ok (.invokestatic 220, 3) := by decide +kernel
theorem ok_Lw_law_Lw_shrunk : z_okX M_Lw_law M_Lw_shrunk 3 := ⟨z_mem (i := 897) (by decide +kernel) (by decide +kernel), by decide, ⟨by decide +kernel, by decide +kernel, by decide +kernel⟩, ⟨by decide, by decide⟩, z_mem (i := 57) (by decide +kernel) (by decide +kernel), rfl⟩
theorem ln_Lw_220 : Cond.methodLink "IronpourLaw" 220 M_Lw_shrunk.1 ∈ z_gw := z_mem (i := 895) (by decide +kernel) (by decide +kernel)
theorem w_st_Lw_shrunk : Cond.static M_Lw_shrunk.1 ∈ z_gw := z_mem (i := 896) (by decide +kernel) (by decide +kernel)
theorem d_Lw_law_721 : decode code 721 = .ok (.istore 6, 2) := by decide +kernel
theorem d_Lw_law_723 : decode code 723 = .ok (.aload_n 2, 1) := by decide +kernel
theorem d_Lw_law_724 : decode code 724 = .ok (.aload_n 0, 1) := by decide +kernel
theorem d_Lw_law_725 : decode code 725 = .ok (.iload 5, 2) := by decide +kernel
theorem d_Lw_law_727 : decode code 727 = .ok (.iconst 1, 1) := by decide +kernel
theorem d_Lw_law_728 : decode code 728 = .ok (.iadd, 1) := by decide +kernel
theorem d_Lw_law_729 : decode code 729 = .ok (.iaload, 1) := by decide +kernel
theorem d_Lw_law_730 : decode code 730 = .ok (.invokevirtual 222, 3) := by decide +kernel
theorem ok_Lw_law_Mm_shrunk : z_ok M_Lw_law M_Mm_shrunk 1 := ⟨z_mem (i := 1809) (by decide +kernel) (by decide +kernel), rfl, ⟨by decide +kernel, by decide +kernel, by decide +kernel⟩, ⟨by decide, by decide⟩, z_mem (i := 71) (by decide +kernel) (by decide +kernel), rfl⟩
theorem ln_Lw_222 : Cond.methodLink "IronpourLaw" 222 M_Mm_shrunk.1 ∈ z_gw := z_mem (i := 1806) (by decide +kernel) (by decide +kernel)
theorem w_im_Mm_shrunk : Cond.instanceMethod M_Mm_shrunk.1 ∈ z_gw := z_mem (i := 1807) (by decide +kernel) (by decide +kernel)
theorem w_se_Mm_shrunk : Cond.selects M_Mm_shrunk.1.cls M_Mm_shrunk.1 M_Mm_shrunk.1 ∈ z_gw := z_mem (i := 1808) (by decide +kernel) (by decide +kernel)
theorem d_Lw_law_733 : decode code 733 = .ok (.istore 7, 2) := by decide +kernel
theorem d_Lw_law_735 : decode code 735 = .ok (.goto 1073, 3) := by decide +kernel
set_option maxHeartbeats 4000000 in
set_option maxRecDepth 100000 in
theorem LC_shrunk {g : zG} {ad : Nat → Nat} {t : zTT} {u : zNN} {w : zW} (hI : IV g ad t u w) (hR : REL t) {j r : Nat} (hJ : 7 * j + 7 ≤ g.2.2 41) (hL : g.2.2 41 < 2 ^ 31) (ih : LWI g ad j r) : DW g M_Lw_law lwQ w 710 [(5, .int (nI (7 * j))), (4, .ref (ad 70)), (3, .ref (ad 69)), (2, .ref (ad 52)), (1, .ref (ad 0)), (0, .ref (g.2.2 40))] [] (100 * (r + 1)) (1000 * (r + 1)) := by
  refine y_base (cs := []) (z_I.nil w) ?_
  refine y_aload_n d_Lw_law_710 rfl 4 rfl ?_
  refine y_aload_n d_Lw_law_711 rfl 5 rfl ?_
  refine y_iload d_Lw_law_712 0 rfl ?_
  refine y_iconst d_Lw_law_714 (v := 1) (by decide) ?_
  refine y_iadd d_Lw_law_715 (v := nI ((7 * j) + 1)) (nI_add _ _) ?_
  refine y_sld (v := zs g (7 * j + 1)) d_Lw_law_716 (vp_in_nI (by omega) (by omega)) (by rw [nI_clamp (by omega)]; rfl) ?_
  refine y_aload_n d_Lw_law_717 rfl 2 rfl ?_
  refine yw_callSX (As := [.ref (ad 0), .int (zs g (7 * j + 1)), .ref (ad 69)]) (rest := []) ln_Lw_220 w_st_Lw_shrunk ok_Lw_law_Lw_shrunk d_Lw_law_718 (fun wA hA => W_shrunk (IV.nil hA hI) _) rfl rfl (Nat.le_of_ble_eq_true rfl) (by omega) (by omega) (fun wA718 hA718 E wB718 hx => ?_) (fun wA718 hA718 v wB718 hx => ?_)
  · obtain ⟨⟨v9, e1⟩, -⟩ := hx
    cases e1
  · obtain ⟨⟨v9, e1⟩, u2, hI2⟩ := hx
    cases e1
    refine yw_st (st2 := [.int v9]) rfl ?_
    have hI := hI2
    refine y_base (cs := []) (z_I.nil _) ?_
    refine y_istore (lv' := [(6, .int v9), (5, .int (nI (7 * j))), (4, .ref (ad 70)), (3, .ref (ad 69)), (2, .ref (ad 52)), (1, .ref (ad 0)), (0, .ref (g.2.2 40))]) d_Lw_law_721 (by decide) rfl ?_
    refine y_aload_n d_Lw_law_723 rfl 4 rfl ?_
    refine y_aload_n d_Lw_law_724 rfl 6 rfl ?_
    refine y_iload d_Lw_law_725 1 rfl ?_
    refine y_iconst d_Lw_law_727 (v := 1) (by decide) ?_
    refine y_iadd d_Lw_law_728 (v := nI ((7 * j) + 1)) (nI_add _ _) ?_
    refine y_sld (v := zs g (7 * j + 1)) d_Lw_law_729 (vp_in_nI (by omega) (by omega)) (by rw [nI_clamp (by omega)]; rfl) ?_
    refine yw_callVL (As := [.int (zs g (7 * j + 1))]) (rest := []) (ci := 12) rfl (fun wA hA => (IV.nil hA hI).rm) ln_Lw_222 w_im_Mm_shrunk w_se_Mm_shrunk ok_Lw_law_Mm_shrunk d_Lw_law_730 (fun wA hA => K_Mm_shrunk (IV.nil hA hI) _) rfl rfl (Nat.le_of_ble_eq_true rfl) (by omega) (by omega) (fun wA730 hA730 E wB730 hx => ?_) (fun wA730 hA730 v wB730 hx => ?_)
    · obtain ⟨⟨v8, e1⟩, -⟩ := hx
      cases e1
    · obtain ⟨⟨v8, e1⟩, u2, hI2⟩ := hx
      cases e1
      refine yw_st (st2 := [.int v8]) rfl ?_
      have hI := hI2
      refine y_base (cs := []) (z_I.nil _) ?_
      refine y_istore (lv' := [(7, .int v8), (6, .int v9), (5, .int (nI (7 * j))), (4, .ref (ad 70)), (3, .ref (ad 69)), (2, .ref (ad 52)), (1, .ref (ad 0)), (0, .ref (g.2.2 40))]) d_Lw_law_733 (by decide) rfl ?_
      refine y_goto (tgt := 1808) d_Lw_law_735 (by decide) ?_
      refine y_lv (lv' := [(5, .int (nI (7 * j))), (4, .ref (ad 70)), (3, .ref (ad 69)), (2, .ref (ad 52)), (1, .ref (ad 0)), (0, .ref (g.2.2 40))]) [2, 3, 4, 5, 6, 7] rfl ?_
      refine y_end (fun wC hC => ?_)
      exact LC_next (IV.nil hC hI) hR hJ hL ih (by omega) (by omega)
theorem d_Lw_law_738 : decode code 738 = .ok (.aload_n 1, 1) := by decide +kernel
theorem d_Lw_law_739 : decode code 739 = .ok (.aload_n 0, 1) := by decide +kernel
theorem d_Lw_law_740 : decode code 740 = .ok (.iload 5, 2) := by decide +kernel
theorem d_Lw_law_742 : decode code 742 = .ok (.iconst 1, 1) := by decide +kernel
theorem d_Lw_law_743 : decode code 743 = .ok (.iadd, 1) := by decide +kernel
theorem d_Lw_law_744 : decode code 744 = .ok (.iaload, 1) := by decide +kernel
theorem d_Lw_law_745 : decode code 745 = .ok (.aload_n 3, 1) := by decide +kernel
theorem d_Lw_law_746 : decode code 746 = .ok (.invokestatic 223, 3) := by decide +kernel
theorem ok_Lw_law_Lw_shrunkAnew : z_okX M_Lw_law M_Lw_shrunkAnew 3 := ⟨z_mem (i := 908) (by decide +kernel) (by decide +kernel), by decide, ⟨by decide +kernel, by decide +kernel, by decide +kernel⟩, ⟨by decide, by decide⟩, z_mem (i := 57) (by decide +kernel) (by decide +kernel), rfl⟩
theorem ln_Lw_223 : Cond.methodLink "IronpourLaw" 223 M_Lw_shrunkAnew.1 ∈ z_gw := z_mem (i := 906) (by decide +kernel) (by decide +kernel)
theorem w_st_Lw_shrunkAnew : Cond.static M_Lw_shrunkAnew.1 ∈ z_gw := z_mem (i := 907) (by decide +kernel) (by decide +kernel)
theorem d_Lw_law_749 : decode code 749 = .ok (.istore 6, 2) := by decide +kernel
theorem d_Lw_law_751 : decode code 751 = .ok (.aload_n 2, 1) := by decide +kernel
theorem d_Lw_law_752 : decode code 752 = .ok (.aload_n 0, 1) := by decide +kernel
theorem d_Lw_law_753 : decode code 753 = .ok (.iload 5, 2) := by decide +kernel
theorem d_Lw_law_755 : decode code 755 = .ok (.iconst 1, 1) := by decide +kernel
theorem d_Lw_law_756 : decode code 756 = .ok (.iadd, 1) := by decide +kernel
theorem d_Lw_law_757 : decode code 757 = .ok (.iaload, 1) := by decide +kernel
theorem d_Lw_law_758 : decode code 758 = .ok (.invokevirtual 225, 3) := by decide +kernel
theorem ok_Lw_law_Mm_shrunkAnew : z_ok M_Lw_law M_Mm_shrunkAnew 1 := ⟨z_mem (i := 1817) (by decide +kernel) (by decide +kernel), rfl, ⟨by decide +kernel, by decide +kernel, by decide +kernel⟩, ⟨by decide, by decide⟩, z_mem (i := 71) (by decide +kernel) (by decide +kernel), rfl⟩
theorem ln_Lw_225 : Cond.methodLink "IronpourLaw" 225 M_Mm_shrunkAnew.1 ∈ z_gw := z_mem (i := 1814) (by decide +kernel) (by decide +kernel)
theorem w_im_Mm_shrunkAnew : Cond.instanceMethod M_Mm_shrunkAnew.1 ∈ z_gw := z_mem (i := 1815) (by decide +kernel) (by decide +kernel)
theorem w_se_Mm_shrunkAnew : Cond.selects M_Mm_shrunkAnew.1.cls M_Mm_shrunkAnew.1 M_Mm_shrunkAnew.1 ∈ z_gw := z_mem (i := 1816) (by decide +kernel) (by decide +kernel)
theorem d_Lw_law_761 : decode code 761 = .ok (.istore 7, 2) := by decide +kernel
theorem d_Lw_law_763 : decode code 763 = .ok (.goto 1045, 3) := by decide +kernel
set_option maxHeartbeats 4000000 in
set_option maxRecDepth 100000 in
theorem LC_shrunkAnew {g : zG} {ad : Nat → Nat} {t : zTT} {u : zNN} {w : zW} (hI : IV g ad t u w) (hR : REL t) {j r : Nat} (hJ : 7 * j + 7 ≤ g.2.2 41) (hL : g.2.2 41 < 2 ^ 31) (ih : LWI g ad j r) : DW g M_Lw_law lwQ w 738 [(5, .int (nI (7 * j))), (4, .ref (ad 70)), (3, .ref (ad 69)), (2, .ref (ad 52)), (1, .ref (ad 0)), (0, .ref (g.2.2 40))] [] (100 * (r + 1)) (1000 * (r + 1)) := by
  refine y_base (cs := []) (z_I.nil w) ?_
  refine y_aload_n d_Lw_law_738 rfl 4 rfl ?_
  refine y_aload_n d_Lw_law_739 rfl 5 rfl ?_
  refine y_iload d_Lw_law_740 0 rfl ?_
  refine y_iconst d_Lw_law_742 (v := 1) (by decide) ?_
  refine y_iadd d_Lw_law_743 (v := nI ((7 * j) + 1)) (nI_add _ _) ?_
  refine y_sld (v := zs g (7 * j + 1)) d_Lw_law_744 (vp_in_nI (by omega) (by omega)) (by rw [nI_clamp (by omega)]; rfl) ?_
  refine y_aload_n d_Lw_law_745 rfl 2 rfl ?_
  refine yw_callSX (As := [.ref (ad 0), .int (zs g (7 * j + 1)), .ref (ad 69)]) (rest := []) ln_Lw_223 w_st_Lw_shrunkAnew ok_Lw_law_Lw_shrunkAnew d_Lw_law_746 (fun wA hA => W_shrunkAnew (IV.nil hA hI) _) rfl rfl (Nat.le_of_ble_eq_true rfl) (by omega) (by omega) (fun wA746 hA746 E wB746 hx => ?_) (fun wA746 hA746 v wB746 hx => ?_)
  · obtain ⟨⟨v9, e1⟩, -⟩ := hx
    cases e1
  · obtain ⟨⟨v9, e1⟩, u2, hI2⟩ := hx
    cases e1
    refine yw_st (st2 := [.int v9]) rfl ?_
    have hI := hI2
    refine y_base (cs := []) (z_I.nil _) ?_
    refine y_istore (lv' := [(6, .int v9), (5, .int (nI (7 * j))), (4, .ref (ad 70)), (3, .ref (ad 69)), (2, .ref (ad 52)), (1, .ref (ad 0)), (0, .ref (g.2.2 40))]) d_Lw_law_749 (by decide) rfl ?_
    refine y_aload_n d_Lw_law_751 rfl 4 rfl ?_
    refine y_aload_n d_Lw_law_752 rfl 6 rfl ?_
    refine y_iload d_Lw_law_753 1 rfl ?_
    refine y_iconst d_Lw_law_755 (v := 1) (by decide) ?_
    refine y_iadd d_Lw_law_756 (v := nI ((7 * j) + 1)) (nI_add _ _) ?_
    refine y_sld (v := zs g (7 * j + 1)) d_Lw_law_757 (vp_in_nI (by omega) (by omega)) (by rw [nI_clamp (by omega)]; rfl) ?_
    refine yw_callVL (As := [.int (zs g (7 * j + 1))]) (rest := []) (ci := 12) rfl (fun wA hA => (IV.nil hA hI).rm) ln_Lw_225 w_im_Mm_shrunkAnew w_se_Mm_shrunkAnew ok_Lw_law_Mm_shrunkAnew d_Lw_law_758 (fun wA hA => K_Mm_shrunkAnew (IV.nil hA hI) _) rfl rfl (Nat.le_of_ble_eq_true rfl) (by omega) (by omega) (fun wA758 hA758 E wB758 hx => ?_) (fun wA758 hA758 v wB758 hx => ?_)
    · obtain ⟨⟨v8, e1⟩, -⟩ := hx
      cases e1
    · obtain ⟨⟨v8, e1⟩, u2, hI2⟩ := hx
      cases e1
      refine yw_st (st2 := [.int v8]) rfl ?_
      have hI := hI2
      refine y_base (cs := []) (z_I.nil _) ?_
      refine y_istore (lv' := [(7, .int v8), (6, .int v9), (5, .int (nI (7 * j))), (4, .ref (ad 70)), (3, .ref (ad 69)), (2, .ref (ad 52)), (1, .ref (ad 0)), (0, .ref (g.2.2 40))]) d_Lw_law_761 (by decide) rfl ?_
      refine y_goto (tgt := 1808) d_Lw_law_763 (by decide) ?_
      refine y_lv (lv' := [(5, .int (nI (7 * j))), (4, .ref (ad 70)), (3, .ref (ad 69)), (2, .ref (ad 52)), (1, .ref (ad 0)), (0, .ref (g.2.2 40))]) [2, 3, 4, 5, 6, 7] rfl ?_
      refine y_end (fun wC hC => ?_)
      exact LC_next (IV.nil hC hI) hR hJ hL ih (by omega) (by omega)
theorem d_Lw_law_766 : decode code 766 = .ok (.aload_n 1, 1) := by decide +kernel
theorem d_Lw_law_767 : decode code 767 = .ok (.aload_n 0, 1) := by decide +kernel
theorem d_Lw_law_768 : decode code 768 = .ok (.iload 5, 2) := by decide +kernel
theorem d_Lw_law_770 : decode code 770 = .ok (.iconst 1, 1) := by decide +kernel
theorem d_Lw_law_771 : decode code 771 = .ok (.iadd, 1) := by decide +kernel
theorem d_Lw_law_772 : decode code 772 = .ok (.iaload, 1) := by decide +kernel
theorem d_Lw_law_773 : decode code 773 = .ok (.aload_n 3, 1) := by decide +kernel
theorem d_Lw_law_774 : decode code 774 = .ok (.invokestatic 226, 3) := by decide +kernel
theorem ok_Lw_law_Lw_lastPlace : z_okX M_Lw_law M_Lw_lastPlace 3 := ⟨z_mem (i := 919) (by decide +kernel) (by decide +kernel), by decide, ⟨by decide +kernel, by decide +kernel, by decide +kernel⟩, ⟨by decide, by decide⟩, z_mem (i := 57) (by decide +kernel) (by decide +kernel), rfl⟩
theorem ln_Lw_226 : Cond.methodLink "IronpourLaw" 226 M_Lw_lastPlace.1 ∈ z_gw := z_mem (i := 917) (by decide +kernel) (by decide +kernel)
theorem w_st_Lw_lastPlace : Cond.static M_Lw_lastPlace.1 ∈ z_gw := z_mem (i := 918) (by decide +kernel) (by decide +kernel)
theorem d_Lw_law_777 : decode code 777 = .ok (.istore 6, 2) := by decide +kernel
theorem d_Lw_law_779 : decode code 779 = .ok (.aload_n 2, 1) := by decide +kernel
theorem d_Lw_law_780 : decode code 780 = .ok (.aload_n 0, 1) := by decide +kernel
theorem d_Lw_law_781 : decode code 781 = .ok (.iload 5, 2) := by decide +kernel
theorem d_Lw_law_783 : decode code 783 = .ok (.iconst 1, 1) := by decide +kernel
theorem d_Lw_law_784 : decode code 784 = .ok (.iadd, 1) := by decide +kernel
theorem d_Lw_law_785 : decode code 785 = .ok (.iaload, 1) := by decide +kernel
theorem d_Lw_law_786 : decode code 786 = .ok (.invokevirtual 228, 3) := by decide +kernel
theorem ok_Lw_law_Mm_lastPlace : z_ok M_Lw_law M_Mm_lastPlace 1 := ⟨z_mem (i := 1825) (by decide +kernel) (by decide +kernel), rfl, ⟨by decide +kernel, by decide +kernel, by decide +kernel⟩, ⟨by decide, by decide⟩, z_mem (i := 71) (by decide +kernel) (by decide +kernel), rfl⟩
theorem ln_Lw_228 : Cond.methodLink "IronpourLaw" 228 M_Mm_lastPlace.1 ∈ z_gw := z_mem (i := 1822) (by decide +kernel) (by decide +kernel)
theorem w_im_Mm_lastPlace : Cond.instanceMethod M_Mm_lastPlace.1 ∈ z_gw := z_mem (i := 1823) (by decide +kernel) (by decide +kernel)
theorem w_se_Mm_lastPlace : Cond.selects M_Mm_lastPlace.1.cls M_Mm_lastPlace.1 M_Mm_lastPlace.1 ∈ z_gw := z_mem (i := 1824) (by decide +kernel) (by decide +kernel)
theorem d_Lw_law_789 : decode code 789 = .ok (.istore 7, 2) := by decide +kernel
theorem d_Lw_law_791 : decode code 791 = .ok (.goto 1017, 3) := by decide +kernel
set_option maxHeartbeats 4000000 in
set_option maxRecDepth 100000 in
theorem LC_lastPlace {g : zG} {ad : Nat → Nat} {t : zTT} {u : zNN} {w : zW} (hI : IV g ad t u w) (hR : REL t) {j r : Nat} (hJ : 7 * j + 7 ≤ g.2.2 41) (hL : g.2.2 41 < 2 ^ 31) (ih : LWI g ad j r) : DW g M_Lw_law lwQ w 766 [(5, .int (nI (7 * j))), (4, .ref (ad 70)), (3, .ref (ad 69)), (2, .ref (ad 52)), (1, .ref (ad 0)), (0, .ref (g.2.2 40))] [] (100 * (r + 1)) (1000 * (r + 1)) := by
  refine y_base (cs := []) (z_I.nil w) ?_
  refine y_aload_n d_Lw_law_766 rfl 4 rfl ?_
  refine y_aload_n d_Lw_law_767 rfl 5 rfl ?_
  refine y_iload d_Lw_law_768 0 rfl ?_
  refine y_iconst d_Lw_law_770 (v := 1) (by decide) ?_
  refine y_iadd d_Lw_law_771 (v := nI ((7 * j) + 1)) (nI_add _ _) ?_
  refine y_sld (v := zs g (7 * j + 1)) d_Lw_law_772 (vp_in_nI (by omega) (by omega)) (by rw [nI_clamp (by omega)]; rfl) ?_
  refine y_aload_n d_Lw_law_773 rfl 2 rfl ?_
  refine yw_callSX (As := [.ref (ad 0), .int (zs g (7 * j + 1)), .ref (ad 69)]) (rest := []) ln_Lw_226 w_st_Lw_lastPlace ok_Lw_law_Lw_lastPlace d_Lw_law_774 (fun wA hA => W_lastPlace (IV.nil hA hI) _) rfl rfl (Nat.le_of_ble_eq_true rfl) (by omega) (by omega) (fun wA774 hA774 E wB774 hx => ?_) (fun wA774 hA774 v wB774 hx => ?_)
  · obtain ⟨⟨v9, e1⟩, -⟩ := hx
    cases e1
  · obtain ⟨⟨v9, e1⟩, u2, hI2⟩ := hx
    cases e1
    refine yw_st (st2 := [.int v9]) rfl ?_
    have hI := hI2
    refine y_base (cs := []) (z_I.nil _) ?_
    refine y_istore (lv' := [(6, .int v9), (5, .int (nI (7 * j))), (4, .ref (ad 70)), (3, .ref (ad 69)), (2, .ref (ad 52)), (1, .ref (ad 0)), (0, .ref (g.2.2 40))]) d_Lw_law_777 (by decide) rfl ?_
    refine y_aload_n d_Lw_law_779 rfl 4 rfl ?_
    refine y_aload_n d_Lw_law_780 rfl 6 rfl ?_
    refine y_iload d_Lw_law_781 1 rfl ?_
    refine y_iconst d_Lw_law_783 (v := 1) (by decide) ?_
    refine y_iadd d_Lw_law_784 (v := nI ((7 * j) + 1)) (nI_add _ _) ?_
    refine y_sld (v := zs g (7 * j + 1)) d_Lw_law_785 (vp_in_nI (by omega) (by omega)) (by rw [nI_clamp (by omega)]; rfl) ?_
    refine yw_callVL (As := [.int (zs g (7 * j + 1))]) (rest := []) (ci := 12) rfl (fun wA hA => (IV.nil hA hI).rm) ln_Lw_228 w_im_Mm_lastPlace w_se_Mm_lastPlace ok_Lw_law_Mm_lastPlace d_Lw_law_786 (fun wA hA => K_Mm_lastPlace (IV.nil hA hI) _) rfl rfl (Nat.le_of_ble_eq_true rfl) (by omega) (by omega) (fun wA786 hA786 E wB786 hx => ?_) (fun wA786 hA786 v wB786 hx => ?_)
    · obtain ⟨⟨v8, e1⟩, -⟩ := hx
      cases e1
    · obtain ⟨⟨v8, e1⟩, u2, hI2⟩ := hx
      cases e1
      refine yw_st (st2 := [.int v8]) rfl ?_
      have hI := hI2
      refine y_base (cs := []) (z_I.nil _) ?_
      refine y_istore (lv' := [(7, .int v8), (6, .int v9), (5, .int (nI (7 * j))), (4, .ref (ad 70)), (3, .ref (ad 69)), (2, .ref (ad 52)), (1, .ref (ad 0)), (0, .ref (g.2.2 40))]) d_Lw_law_789 (by decide) rfl ?_
      refine y_goto (tgt := 1808) d_Lw_law_791 (by decide) ?_
      refine y_lv (lv' := [(5, .int (nI (7 * j))), (4, .ref (ad 70)), (3, .ref (ad 69)), (2, .ref (ad 52)), (1, .ref (ad 0)), (0, .ref (g.2.2 40))]) [2, 3, 4, 5, 6, 7] rfl ?_
      refine y_end (fun wC hC => ?_)
      exact LC_next (IV.nil hC hI) hR hJ hL ih (by omega) (by omega)
theorem d_Lw_law_794 : decode code 794 = .ok (.aload_n 1, 1) := by decide +kernel
theorem d_Lw_law_795 : decode code 795 = .ok (.aload_n 0, 1) := by decide +kernel
theorem d_Lw_law_796 : decode code 796 = .ok (.iload 5, 2) := by decide +kernel
theorem d_Lw_law_798 : decode code 798 = .ok (.iconst 1, 1) := by decide +kernel
theorem d_Lw_law_799 : decode code 799 = .ok (.iadd, 1) := by decide +kernel
theorem d_Lw_law_800 : decode code 800 = .ok (.iaload, 1) := by decide +kernel
theorem d_Lw_law_801 : decode code 801 = .ok (.aload_n 3, 1) := by decide +kernel
theorem d_Lw_law_802 : decode code 802 = .ok (.invokestatic 229, 3) := by decide +kernel
theorem ok_Lw_law_Lw_bestFeeder : z_okX M_Lw_law M_Lw_bestFeeder 3 := ⟨z_mem (i := 931) (by decide +kernel) (by decide +kernel), by decide, ⟨by decide +kernel, by decide +kernel, by decide +kernel⟩, ⟨by decide, by decide⟩, z_mem (i := 57) (by decide +kernel) (by decide +kernel), rfl⟩
theorem ln_Lw_229 : Cond.methodLink "IronpourLaw" 229 M_Lw_bestFeeder.1 ∈ z_gw := z_mem (i := 929) (by decide +kernel) (by decide +kernel)
theorem w_st_Lw_bestFeeder : Cond.static M_Lw_bestFeeder.1 ∈ z_gw := z_mem (i := 930) (by decide +kernel) (by decide +kernel)
theorem d_Lw_law_805 : decode code 805 = .ok (.istore 6, 2) := by decide +kernel
theorem d_Lw_law_807 : decode code 807 = .ok (.aload_n 2, 1) := by decide +kernel
theorem d_Lw_law_808 : decode code 808 = .ok (.aload_n 0, 1) := by decide +kernel
theorem d_Lw_law_809 : decode code 809 = .ok (.iload 5, 2) := by decide +kernel
theorem d_Lw_law_811 : decode code 811 = .ok (.iconst 1, 1) := by decide +kernel
theorem d_Lw_law_812 : decode code 812 = .ok (.iadd, 1) := by decide +kernel
theorem d_Lw_law_813 : decode code 813 = .ok (.iaload, 1) := by decide +kernel
theorem d_Lw_law_814 : decode code 814 = .ok (.invokevirtual 231, 3) := by decide +kernel
theorem ok_Lw_law_Mm_bestFeeder : z_ok M_Lw_law M_Mm_bestFeeder 1 := ⟨z_mem (i := 1829) (by decide +kernel) (by decide +kernel), rfl, ⟨by decide +kernel, by decide +kernel, by decide +kernel⟩, ⟨by decide, by decide⟩, z_mem (i := 71) (by decide +kernel) (by decide +kernel), rfl⟩
theorem ln_Lw_231 : Cond.methodLink "IronpourLaw" 231 M_Mm_bestFeeder.1 ∈ z_gw := z_mem (i := 1826) (by decide +kernel) (by decide +kernel)
theorem w_im_Mm_bestFeeder : Cond.instanceMethod M_Mm_bestFeeder.1 ∈ z_gw := z_mem (i := 1827) (by decide +kernel) (by decide +kernel)
theorem w_se_Mm_bestFeeder : Cond.selects M_Mm_bestFeeder.1.cls M_Mm_bestFeeder.1 M_Mm_bestFeeder.1 ∈ z_gw := z_mem (i := 1828) (by decide +kernel) (by decide +kernel)
theorem d_Lw_law_817 : decode code 817 = .ok (.istore 7, 2) := by decide +kernel
theorem d_Lw_law_819 : decode code 819 = .ok (.goto 989, 3) := by decide +kernel
set_option maxHeartbeats 4000000 in
set_option maxRecDepth 100000 in
theorem LC_bestFeeder {g : zG} {ad : Nat → Nat} {t : zTT} {u : zNN} {w : zW} (hI : IV g ad t u w) (hR : REL t) {j r : Nat} (hJ : 7 * j + 7 ≤ g.2.2 41) (hL : g.2.2 41 < 2 ^ 31) (ih : LWI g ad j r) : DW g M_Lw_law lwQ w 794 [(5, .int (nI (7 * j))), (4, .ref (ad 70)), (3, .ref (ad 69)), (2, .ref (ad 52)), (1, .ref (ad 0)), (0, .ref (g.2.2 40))] [] (100 * (r + 1)) (1000 * (r + 1)) := by
  refine y_base (cs := []) (z_I.nil w) ?_
  refine y_aload_n d_Lw_law_794 rfl 4 rfl ?_
  refine y_aload_n d_Lw_law_795 rfl 5 rfl ?_
  refine y_iload d_Lw_law_796 0 rfl ?_
  refine y_iconst d_Lw_law_798 (v := 1) (by decide) ?_
  refine y_iadd d_Lw_law_799 (v := nI ((7 * j) + 1)) (nI_add _ _) ?_
  refine y_sld (v := zs g (7 * j + 1)) d_Lw_law_800 (vp_in_nI (by omega) (by omega)) (by rw [nI_clamp (by omega)]; rfl) ?_
  refine y_aload_n d_Lw_law_801 rfl 2 rfl ?_
  refine yw_callSX (As := [.ref (ad 0), .int (zs g (7 * j + 1)), .ref (ad 69)]) (rest := []) ln_Lw_229 w_st_Lw_bestFeeder ok_Lw_law_Lw_bestFeeder d_Lw_law_802 (fun wA hA => W_bestFeeder (IV.nil hA hI) _) rfl rfl (Nat.le_of_ble_eq_true rfl) (by omega) (by omega) (fun wA802 hA802 E wB802 hx => ?_) (fun wA802 hA802 v wB802 hx => ?_)
  · obtain ⟨⟨v9, e1⟩, -⟩ := hx
    cases e1
  · obtain ⟨⟨v9, e1⟩, u2, hI2⟩ := hx
    cases e1
    refine yw_st (st2 := [.int v9]) rfl ?_
    have hI := hI2
    refine y_base (cs := []) (z_I.nil _) ?_
    refine y_istore (lv' := [(6, .int v9), (5, .int (nI (7 * j))), (4, .ref (ad 70)), (3, .ref (ad 69)), (2, .ref (ad 52)), (1, .ref (ad 0)), (0, .ref (g.2.2 40))]) d_Lw_law_805 (by decide) rfl ?_
    refine y_aload_n d_Lw_law_807 rfl 4 rfl ?_
    refine y_aload_n d_Lw_law_808 rfl 6 rfl ?_
    refine y_iload d_Lw_law_809 1 rfl ?_
    refine y_iconst d_Lw_law_811 (v := 1) (by decide) ?_
    refine y_iadd d_Lw_law_812 (v := nI ((7 * j) + 1)) (nI_add _ _) ?_
    refine y_sld (v := zs g (7 * j + 1)) d_Lw_law_813 (vp_in_nI (by omega) (by omega)) (by rw [nI_clamp (by omega)]; rfl) ?_
    refine yw_callVL (As := [.int (zs g (7 * j + 1))]) (rest := []) (ci := 12) rfl (fun wA hA => (IV.nil hA hI).rm) ln_Lw_231 w_im_Mm_bestFeeder w_se_Mm_bestFeeder ok_Lw_law_Mm_bestFeeder d_Lw_law_814 (fun wA hA => K_Mm_bestFeeder (IV.nil hA hI) _) rfl rfl (Nat.le_of_ble_eq_true rfl) (by omega) (by omega) (fun wA814 hA814 E wB814 hx => ?_) (fun wA814 hA814 v wB814 hx => ?_)
    · obtain ⟨⟨v8, e1⟩, -⟩ := hx
      cases e1
    · obtain ⟨⟨v8, e1⟩, u2, hI2⟩ := hx
      cases e1
      refine yw_st (st2 := [.int v8]) rfl ?_
      have hI := hI2
      refine y_base (cs := []) (z_I.nil _) ?_
      refine y_istore (lv' := [(7, .int v8), (6, .int v9), (5, .int (nI (7 * j))), (4, .ref (ad 70)), (3, .ref (ad 69)), (2, .ref (ad 52)), (1, .ref (ad 0)), (0, .ref (g.2.2 40))]) d_Lw_law_817 (by decide) rfl ?_
      refine y_goto (tgt := 1808) d_Lw_law_819 (by decide) ?_
      refine y_lv (lv' := [(5, .int (nI (7 * j))), (4, .ref (ad 70)), (3, .ref (ad 69)), (2, .ref (ad 52)), (1, .ref (ad 0)), (0, .ref (g.2.2 40))]) [2, 3, 4, 5, 6, 7] rfl ?_
      refine y_end (fun wC hC => ?_)
      exact LC_next (IV.nil hC hI) hR hJ hL ih (by omega) (by omega)
theorem d_Lw_law_822 : decode code 822 = .ok (.aload_n 1, 1) := by decide +kernel
theorem d_Lw_law_823 : decode code 823 = .ok (.aload_n 0, 1) := by decide +kernel
theorem d_Lw_law_824 : decode code 824 = .ok (.iload 5, 2) := by decide +kernel
theorem d_Lw_law_826 : decode code 826 = .ok (.iconst 1, 1) := by decide +kernel
theorem d_Lw_law_827 : decode code 827 = .ok (.iadd, 1) := by decide +kernel
theorem d_Lw_law_828 : decode code 828 = .ok (.iaload, 1) := by decide +kernel
theorem d_Lw_law_829 : decode code 829 = .ok (.aload_n 0, 1) := by decide +kernel
theorem d_Lw_law_830 : decode code 830 = .ok (.iload 5, 2) := by decide +kernel
theorem d_Lw_law_832 : decode code 832 = .ok (.iconst 2, 1) := by decide +kernel
theorem d_Lw_law_833 : decode code 833 = .ok (.iadd, 1) := by decide +kernel
theorem d_Lw_law_834 : decode code 834 = .ok (.iaload, 1) := by decide +kernel
theorem d_Lw_law_835 : decode code 835 = .ok (.aload_n 0, 1) := by decide +kernel
theorem d_Lw_law_836 : decode code 836 = .ok (.iload 5, 2) := by decide +kernel
theorem d_Lw_law_838 : decode code 838 = .ok (.iconst 3, 1) := by decide +kernel
theorem d_Lw_law_839 : decode code 839 = .ok (.iadd, 1) := by decide +kernel
theorem d_Lw_law_840 : decode code 840 = .ok (.iaload, 1) := by decide +kernel
theorem d_Lw_law_841 : decode code 841 = .ok (.aload_n 0, 1) := by decide +kernel
theorem d_Lw_law_842 : decode code 842 = .ok (.iload 5, 2) := by decide +kernel
theorem d_Lw_law_844 : decode code 844 = .ok (.iconst 4, 1) := by decide +kernel
theorem d_Lw_law_845 : decode code 845 = .ok (.iadd, 1) := by decide +kernel
theorem d_Lw_law_846 : decode code 846 = .ok (.iaload, 1) := by decide +kernel
theorem d_Lw_law_847 : decode code 847 = .ok (.aload_n 3, 1) := by decide +kernel
theorem d_Lw_law_848 : decode code 848 = .ok (.invokestatic 232, 3) := by decide +kernel
theorem ok_Lw_law_Lw_mill : z_okX M_Lw_law M_Lw_mill 6 := ⟨z_mem (i := 947) (by decide +kernel) (by decide +kernel), by decide, ⟨by decide +kernel, by decide +kernel, by decide +kernel⟩, ⟨by decide, by decide⟩, z_mem (i := 57) (by decide +kernel) (by decide +kernel), rfl⟩
theorem ln_Lw_232 : Cond.methodLink "IronpourLaw" 232 M_Lw_mill.1 ∈ z_gw := z_mem (i := 945) (by decide +kernel) (by decide +kernel)
theorem w_st_Lw_mill : Cond.static M_Lw_mill.1 ∈ z_gw := z_mem (i := 946) (by decide +kernel) (by decide +kernel)
theorem d_Lw_law_851 : decode code 851 = .ok (.istore 6, 2) := by decide +kernel
theorem d_Lw_law_853 : decode code 853 = .ok (.aload_n 2, 1) := by decide +kernel
theorem d_Lw_law_854 : decode code 854 = .ok (.aload_n 0, 1) := by decide +kernel
theorem d_Lw_law_855 : decode code 855 = .ok (.iload 5, 2) := by decide +kernel
theorem d_Lw_law_857 : decode code 857 = .ok (.iconst 1, 1) := by decide +kernel
theorem d_Lw_law_858 : decode code 858 = .ok (.iadd, 1) := by decide +kernel
theorem d_Lw_law_859 : decode code 859 = .ok (.iaload, 1) := by decide +kernel
theorem d_Lw_law_860 : decode code 860 = .ok (.aload_n 0, 1) := by decide +kernel
theorem d_Lw_law_861 : decode code 861 = .ok (.iload 5, 2) := by decide +kernel
theorem d_Lw_law_863 : decode code 863 = .ok (.iconst 2, 1) := by decide +kernel
theorem d_Lw_law_864 : decode code 864 = .ok (.iadd, 1) := by decide +kernel
theorem d_Lw_law_865 : decode code 865 = .ok (.iaload, 1) := by decide +kernel
theorem d_Lw_law_866 : decode code 866 = .ok (.aload_n 0, 1) := by decide +kernel
theorem d_Lw_law_867 : decode code 867 = .ok (.iload 5, 2) := by decide +kernel
theorem d_Lw_law_869 : decode code 869 = .ok (.iconst 3, 1) := by decide +kernel
theorem d_Lw_law_870 : decode code 870 = .ok (.iadd, 1) := by decide +kernel
theorem d_Lw_law_871 : decode code 871 = .ok (.iaload, 1) := by decide +kernel
theorem d_Lw_law_872 : decode code 872 = .ok (.aload_n 0, 1) := by decide +kernel
theorem d_Lw_law_873 : decode code 873 = .ok (.iload 5, 2) := by decide +kernel
theorem d_Lw_law_875 : decode code 875 = .ok (.iconst 4, 1) := by decide +kernel
theorem d_Lw_law_876 : decode code 876 = .ok (.iadd, 1) := by decide +kernel
theorem d_Lw_law_877 : decode code 877 = .ok (.iaload, 1) := by decide +kernel
theorem d_Lw_law_878 : decode code 878 = .ok (.invokevirtual 234, 3) := by decide +kernel
theorem ok_Lw_law_Mm_mill : z_ok M_Lw_law M_Mm_mill 4 := ⟨z_mem (i := 1838) (by decide +kernel) (by decide +kernel), rfl, ⟨by decide +kernel, by decide +kernel, by decide +kernel⟩, ⟨by decide, by decide⟩, z_mem (i := 71) (by decide +kernel) (by decide +kernel), rfl⟩
theorem ln_Lw_234 : Cond.methodLink "IronpourLaw" 234 M_Mm_mill.1 ∈ z_gw := z_mem (i := 1835) (by decide +kernel) (by decide +kernel)
theorem w_im_Mm_mill : Cond.instanceMethod M_Mm_mill.1 ∈ z_gw := z_mem (i := 1836) (by decide +kernel) (by decide +kernel)
theorem w_se_Mm_mill : Cond.selects M_Mm_mill.1.cls M_Mm_mill.1 M_Mm_mill.1 ∈ z_gw := z_mem (i := 1837) (by decide +kernel) (by decide +kernel)
theorem d_Lw_law_881 : decode code 881 = .ok (.istore 7, 2) := by decide +kernel
theorem d_Lw_law_883 : decode code 883 = .ok (.goto 925, 3) := by decide +kernel
set_option maxHeartbeats 4000000 in
set_option maxRecDepth 100000 in
theorem LC_mill {g : zG} {ad : Nat → Nat} {t : zTT} {u : zNN} {w : zW} (hI : IV g ad t u w) (hR : REL t) {j r : Nat} (hJ : 7 * j + 7 ≤ g.2.2 41) (hL : g.2.2 41 < 2 ^ 31) (ih : LWI g ad j r) : DW g M_Lw_law lwQ w 822 [(5, .int (nI (7 * j))), (4, .ref (ad 70)), (3, .ref (ad 69)), (2, .ref (ad 52)), (1, .ref (ad 0)), (0, .ref (g.2.2 40))] [] (100 * (r + 1)) (1000 * (r + 1)) := by
  refine y_base (cs := []) (z_I.nil w) ?_
  refine y_aload_n d_Lw_law_822 rfl 4 rfl ?_
  refine y_aload_n d_Lw_law_823 rfl 5 rfl ?_
  refine y_iload d_Lw_law_824 0 rfl ?_
  refine y_iconst d_Lw_law_826 (v := 1) (by decide) ?_
  refine y_iadd d_Lw_law_827 (v := nI ((7 * j) + 1)) (nI_add _ _) ?_
  refine y_sld (v := zs g (7 * j + 1)) d_Lw_law_828 (vp_in_nI (by omega) (by omega)) (by rw [nI_clamp (by omega)]; rfl) ?_
  refine y_aload_n d_Lw_law_829 rfl 5 rfl ?_
  refine y_iload d_Lw_law_830 0 rfl ?_
  refine y_iconst d_Lw_law_832 (v := 2) (by decide) ?_
  refine y_iadd d_Lw_law_833 (v := nI ((7 * j) + 2)) (nI_add _ _) ?_
  refine y_sld (v := zs g (7 * j + 2)) d_Lw_law_834 (vp_in_nI (by omega) (by omega)) (by rw [nI_clamp (by omega)]; rfl) ?_
  refine y_aload_n d_Lw_law_835 rfl 5 rfl ?_
  refine y_iload d_Lw_law_836 0 rfl ?_
  refine y_iconst d_Lw_law_838 (v := 3) (by decide) ?_
  refine y_iadd d_Lw_law_839 (v := nI ((7 * j) + 3)) (nI_add _ _) ?_
  refine y_sld (v := zs g (7 * j + 3)) d_Lw_law_840 (vp_in_nI (by omega) (by omega)) (by rw [nI_clamp (by omega)]; rfl) ?_
  refine y_aload_n d_Lw_law_841 rfl 5 rfl ?_
  refine y_iload d_Lw_law_842 0 rfl ?_
  refine y_iconst d_Lw_law_844 (v := 4) (by decide) ?_
  refine y_iadd d_Lw_law_845 (v := nI ((7 * j) + 4)) (nI_add _ _) ?_
  refine y_sld (v := zs g (7 * j + 4)) d_Lw_law_846 (vp_in_nI (by omega) (by omega)) (by rw [nI_clamp (by omega)]; rfl) ?_
  refine y_aload_n d_Lw_law_847 rfl 2 rfl ?_
  refine yw_callSX (As := [.ref (ad 0), .int (zs g (7 * j + 1)), .int (zs g (7 * j + 2)), .int (zs g (7 * j + 3)), .int (zs g (7 * j + 4)), .ref (ad 69)]) (rest := []) ln_Lw_232 w_st_Lw_mill ok_Lw_law_Lw_mill d_Lw_law_848 (fun wA hA => W_mill (IV.nil hA hI) _ _ _ _) rfl rfl (Nat.le_of_ble_eq_true rfl) (by omega) (by omega) (fun wA848 hA848 E wB848 hx => ?_) (fun wA848 hA848 v wB848 hx => ?_)
  · obtain ⟨⟨v9, e1⟩, -⟩ := hx
    cases e1
  · obtain ⟨⟨v9, e1⟩, u2, hI2⟩ := hx
    cases e1
    refine yw_st (st2 := [.int v9]) rfl ?_
    have hI := hI2
    refine y_base (cs := []) (z_I.nil _) ?_
    refine y_istore (lv' := [(6, .int v9), (5, .int (nI (7 * j))), (4, .ref (ad 70)), (3, .ref (ad 69)), (2, .ref (ad 52)), (1, .ref (ad 0)), (0, .ref (g.2.2 40))]) d_Lw_law_851 (by decide) rfl ?_
    refine y_aload_n d_Lw_law_853 rfl 4 rfl ?_
    refine y_aload_n d_Lw_law_854 rfl 6 rfl ?_
    refine y_iload d_Lw_law_855 1 rfl ?_
    refine y_iconst d_Lw_law_857 (v := 1) (by decide) ?_
    refine y_iadd d_Lw_law_858 (v := nI ((7 * j) + 1)) (nI_add _ _) ?_
    refine y_sld (v := zs g (7 * j + 1)) d_Lw_law_859 (vp_in_nI (by omega) (by omega)) (by rw [nI_clamp (by omega)]; rfl) ?_
    refine y_aload_n d_Lw_law_860 rfl 6 rfl ?_
    refine y_iload d_Lw_law_861 1 rfl ?_
    refine y_iconst d_Lw_law_863 (v := 2) (by decide) ?_
    refine y_iadd d_Lw_law_864 (v := nI ((7 * j) + 2)) (nI_add _ _) ?_
    refine y_sld (v := zs g (7 * j + 2)) d_Lw_law_865 (vp_in_nI (by omega) (by omega)) (by rw [nI_clamp (by omega)]; rfl) ?_
    refine y_aload_n d_Lw_law_866 rfl 6 rfl ?_
    refine y_iload d_Lw_law_867 1 rfl ?_
    refine y_iconst d_Lw_law_869 (v := 3) (by decide) ?_
    refine y_iadd d_Lw_law_870 (v := nI ((7 * j) + 3)) (nI_add _ _) ?_
    refine y_sld (v := zs g (7 * j + 3)) d_Lw_law_871 (vp_in_nI (by omega) (by omega)) (by rw [nI_clamp (by omega)]; rfl) ?_
    refine y_aload_n d_Lw_law_872 rfl 6 rfl ?_
    refine y_iload d_Lw_law_873 1 rfl ?_
    refine y_iconst d_Lw_law_875 (v := 4) (by decide) ?_
    refine y_iadd d_Lw_law_876 (v := nI ((7 * j) + 4)) (nI_add _ _) ?_
    refine y_sld (v := zs g (7 * j + 4)) d_Lw_law_877 (vp_in_nI (by omega) (by omega)) (by rw [nI_clamp (by omega)]; rfl) ?_
    refine yw_callVL (As := [.int (zs g (7 * j + 1)), .int (zs g (7 * j + 2)), .int (zs g (7 * j + 3)), .int (zs g (7 * j + 4))]) (rest := []) (ci := 12) rfl (fun wA hA => (IV.nil hA hI).rm) ln_Lw_234 w_im_Mm_mill w_se_Mm_mill ok_Lw_law_Mm_mill d_Lw_law_878 (fun wA hA => K_Mm_mill (IV.nil hA hI) _ _ _ _) rfl rfl (Nat.le_of_ble_eq_true rfl) (by omega) (by omega) (fun wA878 hA878 E wB878 hx => ?_) (fun wA878 hA878 v wB878 hx => ?_)
    · obtain ⟨⟨v8, e1⟩, -⟩ := hx
      cases e1
    · obtain ⟨⟨v8, e1⟩, u2, hI2⟩ := hx
      cases e1
      refine yw_st (st2 := [.int v8]) rfl ?_
      have hI := hI2
      refine y_base (cs := []) (z_I.nil _) ?_
      refine y_istore (lv' := [(7, .int v8), (6, .int v9), (5, .int (nI (7 * j))), (4, .ref (ad 70)), (3, .ref (ad 69)), (2, .ref (ad 52)), (1, .ref (ad 0)), (0, .ref (g.2.2 40))]) d_Lw_law_881 (by decide) rfl ?_
      refine y_goto (tgt := 1808) d_Lw_law_883 (by decide) ?_
      refine y_lv (lv' := [(5, .int (nI (7 * j))), (4, .ref (ad 70)), (3, .ref (ad 69)), (2, .ref (ad 52)), (1, .ref (ad 0)), (0, .ref (g.2.2 40))]) [2, 3, 4, 5, 6, 7] rfl ?_
      refine y_end (fun wC hC => ?_)
      exact LC_next (IV.nil hC hI) hR hJ hL ih (by omega) (by omega)
theorem d_Lw_law_886 : decode code 886 = .ok (.aload_n 1, 1) := by decide +kernel
theorem d_Lw_law_887 : decode code 887 = .ok (.aload_n 0, 1) := by decide +kernel
theorem d_Lw_law_888 : decode code 888 = .ok (.iload 5, 2) := by decide +kernel
theorem d_Lw_law_890 : decode code 890 = .ok (.iconst 1, 1) := by decide +kernel
theorem d_Lw_law_891 : decode code 891 = .ok (.iadd, 1) := by decide +kernel
theorem d_Lw_law_892 : decode code 892 = .ok (.iaload, 1) := by decide +kernel
theorem d_Lw_law_893 : decode code 893 = .ok (.i2c, 1) := by decide +kernel
theorem d_Lw_law_894 : decode code 894 = .ok (.aload_n 3, 1) := by decide +kernel
theorem d_Lw_law_895 : decode code 895 = .ok (.invokestatic 235, 3) := by decide +kernel
theorem ok_Lw_law_Lw_sand : z_okX M_Lw_law M_Lw_sand 3 := ⟨z_mem (i := 968) (by decide +kernel) (by decide +kernel), by decide, ⟨by decide +kernel, by decide +kernel, by decide +kernel⟩, ⟨by decide, by decide⟩, z_mem (i := 57) (by decide +kernel) (by decide +kernel), rfl⟩
theorem ln_Lw_235 : Cond.methodLink "IronpourLaw" 235 M_Lw_sand.1 ∈ z_gw := z_mem (i := 966) (by decide +kernel) (by decide +kernel)
theorem w_st_Lw_sand : Cond.static M_Lw_sand.1 ∈ z_gw := z_mem (i := 967) (by decide +kernel) (by decide +kernel)
theorem d_Lw_law_898 : decode code 898 = .ok (.istore 6, 2) := by decide +kernel
theorem d_Lw_law_900 : decode code 900 = .ok (.aload_n 2, 1) := by decide +kernel
theorem d_Lw_law_901 : decode code 901 = .ok (.aload_n 0, 1) := by decide +kernel
theorem d_Lw_law_902 : decode code 902 = .ok (.iload 5, 2) := by decide +kernel
theorem d_Lw_law_904 : decode code 904 = .ok (.iconst 1, 1) := by decide +kernel
theorem d_Lw_law_905 : decode code 905 = .ok (.iadd, 1) := by decide +kernel
theorem d_Lw_law_906 : decode code 906 = .ok (.iaload, 1) := by decide +kernel
theorem d_Lw_law_907 : decode code 907 = .ok (.i2c, 1) := by decide +kernel
theorem d_Lw_law_908 : decode code 908 = .ok (.invokevirtual 238, 3) := by decide +kernel
theorem ok_Lw_law_Mm_sand : z_ok M_Lw_law M_Mm_sand 1 := ⟨z_mem (i := 1851) (by decide +kernel) (by decide +kernel), rfl, ⟨by decide +kernel, by decide +kernel, by decide +kernel⟩, ⟨by decide, by decide⟩, z_mem (i := 71) (by decide +kernel) (by decide +kernel), rfl⟩
theorem ln_Lw_238 : Cond.methodLink "IronpourLaw" 238 M_Mm_sand.1 ∈ z_gw := z_mem (i := 1848) (by decide +kernel) (by decide +kernel)
theorem w_im_Mm_sand : Cond.instanceMethod M_Mm_sand.1 ∈ z_gw := z_mem (i := 1849) (by decide +kernel) (by decide +kernel)
theorem w_se_Mm_sand : Cond.selects M_Mm_sand.1.cls M_Mm_sand.1 M_Mm_sand.1 ∈ z_gw := z_mem (i := 1850) (by decide +kernel) (by decide +kernel)
theorem d_Lw_law_911 : decode code 911 = .ok (.istore 7, 2) := by decide +kernel
theorem d_Lw_law_913 : decode code 913 = .ok (.goto 895, 3) := by decide +kernel
set_option maxHeartbeats 4000000 in
set_option maxRecDepth 100000 in
theorem LC_sand {g : zG} {ad : Nat → Nat} {t : zTT} {u : zNN} {w : zW} (hI : IV g ad t u w) (hR : REL t) {j r : Nat} (hJ : 7 * j + 7 ≤ g.2.2 41) (hL : g.2.2 41 < 2 ^ 31) (ih : LWI g ad j r) : DW g M_Lw_law lwQ w 886 [(5, .int (nI (7 * j))), (4, .ref (ad 70)), (3, .ref (ad 69)), (2, .ref (ad 52)), (1, .ref (ad 0)), (0, .ref (g.2.2 40))] [] (100 * (r + 1)) (1000 * (r + 1)) := by
  refine y_base (cs := []) (z_I.nil w) ?_
  refine y_aload_n d_Lw_law_886 rfl 4 rfl ?_
  refine y_aload_n d_Lw_law_887 rfl 5 rfl ?_
  refine y_iload d_Lw_law_888 0 rfl ?_
  refine y_iconst d_Lw_law_890 (v := 1) (by decide) ?_
  refine y_iadd d_Lw_law_891 (v := nI ((7 * j) + 1)) (nI_add _ _) ?_
  refine y_sld (v := zs g (7 * j + 1)) d_Lw_law_892 (vp_in_nI (by omega) (by omega)) (by rw [nI_clamp (by omega)]; rfl) ?_
  refine y_i2c d_Lw_law_893 (v := zc g (7 * j + 1)) rfl ?_
  refine y_aload_n d_Lw_law_894 rfl 2 rfl ?_
  refine yw_callSX (As := [.ref (ad 0), .int (zc g (7 * j + 1)), .ref (ad 69)]) (rest := []) ln_Lw_235 w_st_Lw_sand ok_Lw_law_Lw_sand d_Lw_law_895 (fun wA hA => W_sand (IV.nil hA hI) _) rfl rfl (Nat.le_of_ble_eq_true rfl) (by omega) (by omega) (fun wA895 hA895 E wB895 hx => ?_) (fun wA895 hA895 v wB895 hx => ?_)
  · obtain ⟨⟨v9, e1⟩, -⟩ := hx
    cases e1
  · obtain ⟨⟨v9, e1⟩, u2, hI2⟩ := hx
    cases e1
    refine yw_st (st2 := [.int v9]) rfl ?_
    have hI := hI2
    refine y_base (cs := []) (z_I.nil _) ?_
    refine y_istore (lv' := [(6, .int v9), (5, .int (nI (7 * j))), (4, .ref (ad 70)), (3, .ref (ad 69)), (2, .ref (ad 52)), (1, .ref (ad 0)), (0, .ref (g.2.2 40))]) d_Lw_law_898 (by decide) rfl ?_
    refine y_aload_n d_Lw_law_900 rfl 4 rfl ?_
    refine y_aload_n d_Lw_law_901 rfl 6 rfl ?_
    refine y_iload d_Lw_law_902 1 rfl ?_
    refine y_iconst d_Lw_law_904 (v := 1) (by decide) ?_
    refine y_iadd d_Lw_law_905 (v := nI ((7 * j) + 1)) (nI_add _ _) ?_
    refine y_sld (v := zs g (7 * j + 1)) d_Lw_law_906 (vp_in_nI (by omega) (by omega)) (by rw [nI_clamp (by omega)]; rfl) ?_
    refine y_i2c d_Lw_law_907 (v := zc g (7 * j + 1)) rfl ?_
    refine yw_callVL (As := [.int (zc g (7 * j + 1))]) (rest := []) (ci := 12) rfl (fun wA hA => (IV.nil hA hI).rm) ln_Lw_238 w_im_Mm_sand w_se_Mm_sand ok_Lw_law_Mm_sand d_Lw_law_908 (fun wA hA => K_Mm_sand (IV.nil hA hI) _) rfl rfl (Nat.le_of_ble_eq_true rfl) (by omega) (by omega) (fun wA908 hA908 E wB908 hx => ?_) (fun wA908 hA908 v wB908 hx => ?_)
    · obtain ⟨⟨v8, e1⟩, -⟩ := hx
      cases e1
    · obtain ⟨⟨v8, e1⟩, u2, hI2⟩ := hx
      cases e1
      refine yw_st (st2 := [.int v8]) rfl ?_
      have hI := hI2
      refine y_base (cs := []) (z_I.nil _) ?_
      refine y_istore (lv' := [(7, .int v8), (6, .int v9), (5, .int (nI (7 * j))), (4, .ref (ad 70)), (3, .ref (ad 69)), (2, .ref (ad 52)), (1, .ref (ad 0)), (0, .ref (g.2.2 40))]) d_Lw_law_911 (by decide) rfl ?_
      refine y_goto (tgt := 1808) d_Lw_law_913 (by decide) ?_
      refine y_lv (lv' := [(5, .int (nI (7 * j))), (4, .ref (ad 70)), (3, .ref (ad 69)), (2, .ref (ad 52)), (1, .ref (ad 0)), (0, .ref (g.2.2 40))]) [2, 3, 4, 5, 6, 7] rfl ?_
      refine y_end (fun wC hC => ?_)
      exact LC_next (IV.nil hC hI) hR hJ hL ih (by omega) (by omega)
theorem d_Lw_law_916 : decode code 916 = .ok (.aload_n 1, 1) := by decide +kernel
theorem d_Lw_law_917 : decode code 917 = .ok (.aload_n 0, 1) := by decide +kernel
theorem d_Lw_law_918 : decode code 918 = .ok (.iload 5, 2) := by decide +kernel
theorem d_Lw_law_920 : decode code 920 = .ok (.iconst 1, 1) := by decide +kernel
theorem d_Lw_law_921 : decode code 921 = .ok (.iadd, 1) := by decide +kernel
theorem d_Lw_law_922 : decode code 922 = .ok (.iaload, 1) := by decide +kernel
theorem d_Lw_law_923 : decode code 923 = .ok (.aload_n 0, 1) := by decide +kernel
theorem d_Lw_law_924 : decode code 924 = .ok (.iload 5, 2) := by decide +kernel
theorem d_Lw_law_926 : decode code 926 = .ok (.iconst 2, 1) := by decide +kernel
theorem d_Lw_law_927 : decode code 927 = .ok (.iadd, 1) := by decide +kernel
theorem d_Lw_law_928 : decode code 928 = .ok (.iaload, 1) := by decide +kernel
theorem d_Lw_law_929 : decode code 929 = .ok (.aload_n 3, 1) := by decide +kernel
theorem d_Lw_law_930 : decode code 930 = .ok (.invokestatic 239, 3) := by decide +kernel
theorem ok_Lw_law_Lw_makeCores : z_okX M_Lw_law M_Lw_makeCores 4 := ⟨z_mem (i := 980) (by decide +kernel) (by decide +kernel), by decide, ⟨by decide +kernel, by decide +kernel, by decide +kernel⟩, ⟨by decide, by decide⟩, z_mem (i := 57) (by decide +kernel) (by decide +kernel), rfl⟩
theorem ln_Lw_239 : Cond.methodLink "IronpourLaw" 239 M_Lw_makeCores.1 ∈ z_gw := z_mem (i := 978) (by decide +kernel) (by decide +kernel)
theorem w_st_Lw_makeCores : Cond.static M_Lw_makeCores.1 ∈ z_gw := z_mem (i := 979) (by decide +kernel) (by decide +kernel)
theorem d_Lw_law_933 : decode code 933 = .ok (.istore 6, 2) := by decide +kernel
theorem d_Lw_law_935 : decode code 935 = .ok (.aload_n 2, 1) := by decide +kernel
theorem d_Lw_law_936 : decode code 936 = .ok (.aload_n 0, 1) := by decide +kernel
theorem d_Lw_law_937 : decode code 937 = .ok (.iload 5, 2) := by decide +kernel
theorem d_Lw_law_939 : decode code 939 = .ok (.iconst 1, 1) := by decide +kernel
theorem d_Lw_law_940 : decode code 940 = .ok (.iadd, 1) := by decide +kernel
theorem d_Lw_law_941 : decode code 941 = .ok (.iaload, 1) := by decide +kernel
theorem d_Lw_law_942 : decode code 942 = .ok (.aload_n 0, 1) := by decide +kernel
theorem d_Lw_law_943 : decode code 943 = .ok (.iload 5, 2) := by decide +kernel
theorem d_Lw_law_945 : decode code 945 = .ok (.iconst 2, 1) := by decide +kernel
theorem d_Lw_law_946 : decode code 946 = .ok (.iadd, 1) := by decide +kernel
theorem d_Lw_law_947 : decode code 947 = .ok (.iaload, 1) := by decide +kernel
theorem d_Lw_law_948 : decode code 948 = .ok (.invokevirtual 241, 3) := by decide +kernel
theorem ok_Lw_law_Mm_makeCores : z_ok M_Lw_law M_Mm_makeCores 2 := ⟨z_mem (i := 1860) (by decide +kernel) (by decide +kernel), rfl, ⟨by decide +kernel, by decide +kernel, by decide +kernel⟩, ⟨by decide, by decide⟩, z_mem (i := 71) (by decide +kernel) (by decide +kernel), rfl⟩
theorem ln_Lw_241 : Cond.methodLink "IronpourLaw" 241 M_Mm_makeCores.1 ∈ z_gw := z_mem (i := 1857) (by decide +kernel) (by decide +kernel)
theorem w_im_Mm_makeCores : Cond.instanceMethod M_Mm_makeCores.1 ∈ z_gw := z_mem (i := 1858) (by decide +kernel) (by decide +kernel)
theorem w_se_Mm_makeCores : Cond.selects M_Mm_makeCores.1.cls M_Mm_makeCores.1 M_Mm_makeCores.1 ∈ z_gw := z_mem (i := 1859) (by decide +kernel) (by decide +kernel)
theorem d_Lw_law_951 : decode code 951 = .ok (.istore 7, 2) := by decide +kernel
theorem d_Lw_law_953 : decode code 953 = .ok (.goto 855, 3) := by decide +kernel
set_option maxHeartbeats 4000000 in
set_option maxRecDepth 100000 in
theorem LC_makeCores {g : zG} {ad : Nat → Nat} {t : zTT} {u : zNN} {w : zW} (hI : IV g ad t u w) (hR : REL t) {j r : Nat} (hJ : 7 * j + 7 ≤ g.2.2 41) (hL : g.2.2 41 < 2 ^ 31) (ih : LWI g ad j r) : DW g M_Lw_law lwQ w 916 [(5, .int (nI (7 * j))), (4, .ref (ad 70)), (3, .ref (ad 69)), (2, .ref (ad 52)), (1, .ref (ad 0)), (0, .ref (g.2.2 40))] [] (100 * (r + 1)) (1000 * (r + 1)) := by
  refine y_base (cs := []) (z_I.nil w) ?_
  refine y_aload_n d_Lw_law_916 rfl 4 rfl ?_
  refine y_aload_n d_Lw_law_917 rfl 5 rfl ?_
  refine y_iload d_Lw_law_918 0 rfl ?_
  refine y_iconst d_Lw_law_920 (v := 1) (by decide) ?_
  refine y_iadd d_Lw_law_921 (v := nI ((7 * j) + 1)) (nI_add _ _) ?_
  refine y_sld (v := zs g (7 * j + 1)) d_Lw_law_922 (vp_in_nI (by omega) (by omega)) (by rw [nI_clamp (by omega)]; rfl) ?_
  refine y_aload_n d_Lw_law_923 rfl 5 rfl ?_
  refine y_iload d_Lw_law_924 0 rfl ?_
  refine y_iconst d_Lw_law_926 (v := 2) (by decide) ?_
  refine y_iadd d_Lw_law_927 (v := nI ((7 * j) + 2)) (nI_add _ _) ?_
  refine y_sld (v := zs g (7 * j + 2)) d_Lw_law_928 (vp_in_nI (by omega) (by omega)) (by rw [nI_clamp (by omega)]; rfl) ?_
  refine y_aload_n d_Lw_law_929 rfl 2 rfl ?_
  refine yw_callSX (As := [.ref (ad 0), .int (zs g (7 * j + 1)), .int (zs g (7 * j + 2)), .ref (ad 69)]) (rest := []) ln_Lw_239 w_st_Lw_makeCores ok_Lw_law_Lw_makeCores d_Lw_law_930 (fun wA hA => W_makeCores (IV.nil hA hI) _ _) rfl rfl (Nat.le_of_ble_eq_true rfl) (by omega) (by omega) (fun wA930 hA930 E wB930 hx => ?_) (fun wA930 hA930 v wB930 hx => ?_)
  · obtain ⟨⟨v9, e1⟩, -⟩ := hx
    cases e1
  · obtain ⟨⟨v9, e1⟩, u2, hI2⟩ := hx
    cases e1
    refine yw_st (st2 := [.int v9]) rfl ?_
    have hI := hI2
    refine y_base (cs := []) (z_I.nil _) ?_
    refine y_istore (lv' := [(6, .int v9), (5, .int (nI (7 * j))), (4, .ref (ad 70)), (3, .ref (ad 69)), (2, .ref (ad 52)), (1, .ref (ad 0)), (0, .ref (g.2.2 40))]) d_Lw_law_933 (by decide) rfl ?_
    refine y_aload_n d_Lw_law_935 rfl 4 rfl ?_
    refine y_aload_n d_Lw_law_936 rfl 6 rfl ?_
    refine y_iload d_Lw_law_937 1 rfl ?_
    refine y_iconst d_Lw_law_939 (v := 1) (by decide) ?_
    refine y_iadd d_Lw_law_940 (v := nI ((7 * j) + 1)) (nI_add _ _) ?_
    refine y_sld (v := zs g (7 * j + 1)) d_Lw_law_941 (vp_in_nI (by omega) (by omega)) (by rw [nI_clamp (by omega)]; rfl) ?_
    refine y_aload_n d_Lw_law_942 rfl 6 rfl ?_
    refine y_iload d_Lw_law_943 1 rfl ?_
    refine y_iconst d_Lw_law_945 (v := 2) (by decide) ?_
    refine y_iadd d_Lw_law_946 (v := nI ((7 * j) + 2)) (nI_add _ _) ?_
    refine y_sld (v := zs g (7 * j + 2)) d_Lw_law_947 (vp_in_nI (by omega) (by omega)) (by rw [nI_clamp (by omega)]; rfl) ?_
    refine yw_callVL (As := [.int (zs g (7 * j + 1)), .int (zs g (7 * j + 2))]) (rest := []) (ci := 12) rfl (fun wA hA => (IV.nil hA hI).rm) ln_Lw_241 w_im_Mm_makeCores w_se_Mm_makeCores ok_Lw_law_Mm_makeCores d_Lw_law_948 (fun wA hA => K_Mm_makeCores (IV.nil hA hI) _ _) rfl rfl (Nat.le_of_ble_eq_true rfl) (by omega) (by omega) (fun wA948 hA948 E wB948 hx => ?_) (fun wA948 hA948 v wB948 hx => ?_)
    · obtain ⟨⟨v8, e1⟩, -⟩ := hx
      cases e1
    · obtain ⟨⟨v8, e1⟩, u2, hI2⟩ := hx
      cases e1
      refine yw_st (st2 := [.int v8]) rfl ?_
      have hI := hI2
      refine y_base (cs := []) (z_I.nil _) ?_
      refine y_istore (lv' := [(7, .int v8), (6, .int v9), (5, .int (nI (7 * j))), (4, .ref (ad 70)), (3, .ref (ad 69)), (2, .ref (ad 52)), (1, .ref (ad 0)), (0, .ref (g.2.2 40))]) d_Lw_law_951 (by decide) rfl ?_
      refine y_goto (tgt := 1808) d_Lw_law_953 (by decide) ?_
      refine y_lv (lv' := [(5, .int (nI (7 * j))), (4, .ref (ad 70)), (3, .ref (ad 69)), (2, .ref (ad 52)), (1, .ref (ad 0)), (0, .ref (g.2.2 40))]) [2, 3, 4, 5, 6, 7] rfl ?_
      refine y_end (fun wC hC => ?_)
      exact LC_next (IV.nil hC hI) hR hJ hL ih (by omega) (by omega)
theorem d_Lw_law_956 : decode code 956 = .ok (.aload_n 1, 1) := by decide +kernel
theorem d_Lw_law_957 : decode code 957 = .ok (.invokevirtual 242, 3) := by decide +kernel
theorem ok_Lw_law_Ip_goodCores : z_ok M_Lw_law M_Ip_goodCores 0 := ⟨z_mem (i := 453) (by decide +kernel) (by decide +kernel), rfl, ⟨by decide +kernel, by decide +kernel, by decide +kernel⟩, ⟨by decide, by decide⟩, z_mem (i := 58) (by decide +kernel) (by decide +kernel), rfl⟩
theorem ln_Lw_242 : Cond.methodLink "IronpourLaw" 242 M_Ip_goodCores.1 ∈ z_gw := z_mem (i := 450) (by decide +kernel) (by decide +kernel)
theorem w_im_Ip_goodCores : Cond.instanceMethod M_Ip_goodCores.1 ∈ z_gw := z_mem (i := 451) (by decide +kernel) (by decide +kernel)
theorem w_se_Ip_goodCores : Cond.selects M_Ip_goodCores.1.cls M_Ip_goodCores.1 M_Ip_goodCores.1 ∈ z_gw := z_mem (i := 452) (by decide +kernel) (by decide +kernel)
theorem d_Lw_law_960 : decode code 960 = .ok (.pop, 1) := by decide +kernel
theorem d_Lw_law_961 : decode code 961 = .ok (.aload_n 2, 1) := by decide +kernel
theorem d_Lw_law_962 : decode code 962 = .ok (.invokevirtual 245, 3) := by decide +kernel
theorem ok_Lw_law_Mm_goodCores : z_ok M_Lw_law M_Mm_goodCores 0 := ⟨z_mem (i := 1872) (by decide +kernel) (by decide +kernel), rfl, ⟨by decide +kernel, by decide +kernel, by decide +kernel⟩, ⟨by decide, by decide⟩, z_mem (i := 71) (by decide +kernel) (by decide +kernel), rfl⟩
theorem ln_Lw_245 : Cond.methodLink "IronpourLaw" 245 M_Mm_goodCores.1 ∈ z_gw := z_mem (i := 1869) (by decide +kernel) (by decide +kernel)
theorem w_im_Mm_goodCores : Cond.instanceMethod M_Mm_goodCores.1 ∈ z_gw := z_mem (i := 1870) (by decide +kernel) (by decide +kernel)
theorem w_se_Mm_goodCores : Cond.selects M_Mm_goodCores.1.cls M_Mm_goodCores.1 M_Mm_goodCores.1 ∈ z_gw := z_mem (i := 1871) (by decide +kernel) (by decide +kernel)
theorem d_Lw_law_965 : decode code 965 = .ok (.pop, 1) := by decide +kernel
theorem d_Lw_law_966 : decode code 966 = .ok (.goto 842, 3) := by decide +kernel
set_option maxHeartbeats 4000000 in
set_option maxRecDepth 100000 in
theorem LC_goodCores {g : zG} {ad : Nat → Nat} {t : zTT} {u : zNN} {w : zW} (hI : IV g ad t u w) (hR : REL t) {j r : Nat} (hJ : 7 * j + 7 ≤ g.2.2 41) (hL : g.2.2 41 < 2 ^ 31) (ih : LWI g ad j r) : DW g M_Lw_law lwQ w 956 [(5, .int (nI (7 * j))), (4, .ref (ad 70)), (3, .ref (ad 69)), (2, .ref (ad 52)), (1, .ref (ad 0)), (0, .ref (g.2.2 40))] [] (100 * (r + 1)) (1000 * (r + 1)) := by
  refine y_base (cs := []) (z_I.nil w) ?_
  refine y_aload_n d_Lw_law_956 rfl 4 rfl ?_
  refine yw_callVL (As := []) (rest := []) (ci := 11) rfl (fun wA hA => (IV.nil hA hI).ra) ln_Lw_242 w_im_Ip_goodCores w_se_Ip_goodCores ok_Lw_law_Ip_goodCores d_Lw_law_957 (fun wA hA => K_Ip_goodCores (IV.nil hA hI)) rfl rfl (Nat.le_of_ble_eq_true rfl) (by omega) (by omega) (fun wA957 hA957 E wB957 hx => ?_) (fun wA957 hA957 v wB957 hx => ?_)
  · obtain ⟨h1, -⟩ := hx
    cases zriE h1
  · obtain ⟨h1, u2, hI2⟩ := hx
    obtain ⟨v9, rfl⟩ := zriV h1
    refine yw_st (st2 := [.int v9]) rfl ?_
    have hI := hI2
    refine y_base (cs := []) (z_I.nil _) ?_
    refine y_pop d_Lw_law_960 rfl ?_
    refine y_aload_n d_Lw_law_961 rfl 3 rfl ?_
    refine yw_callVL (As := []) (rest := []) (ci := 12) rfl (fun wA hA => (IV.nil hA hI).rm) ln_Lw_245 w_im_Mm_goodCores w_se_Mm_goodCores ok_Lw_law_Mm_goodCores d_Lw_law_962 (fun wA hA => K_Mm_goodCores (IV.nil hA hI)) rfl rfl (Nat.le_of_ble_eq_true rfl) (by omega) (by omega) (fun wA962 hA962 E wB962 hx => ?_) (fun wA962 hA962 v wB962 hx => ?_)
    · obtain ⟨⟨v8, e1⟩, -⟩ := hx
      cases e1
    · obtain ⟨⟨v8, e1⟩, u2, hI2⟩ := hx
      cases e1
      refine yw_st (st2 := [.int v8]) rfl ?_
      have hI := hI2
      refine y_base (cs := []) (z_I.nil _) ?_
      refine y_pop d_Lw_law_965 rfl ?_
      refine y_goto (tgt := 1808) d_Lw_law_966 (by decide) ?_
      refine y_lv (lv' := [(5, .int (nI (7 * j))), (4, .ref (ad 70)), (3, .ref (ad 69)), (2, .ref (ad 52)), (1, .ref (ad 0)), (0, .ref (g.2.2 40))]) [0, 1, 2, 3, 4, 5] rfl ?_
      refine y_end (fun wC hC => ?_)
      exact LC_next (IV.nil hC hI) hR hJ hL ih (by omega) (by omega)
theorem d_Lw_law_969 : decode code 969 = .ok (.aload_n 1, 1) := by decide +kernel
theorem d_Lw_law_970 : decode code 970 = .ok (.aload_n 0, 1) := by decide +kernel
theorem d_Lw_law_971 : decode code 971 = .ok (.iload 5, 2) := by decide +kernel
theorem d_Lw_law_973 : decode code 973 = .ok (.iconst 1, 1) := by decide +kernel
theorem d_Lw_law_974 : decode code 974 = .ok (.iadd, 1) := by decide +kernel
theorem d_Lw_law_975 : decode code 975 = .ok (.iaload, 1) := by decide +kernel
theorem d_Lw_law_976 : decode code 976 = .ok (.aload_n 3, 1) := by decide +kernel
theorem d_Lw_law_977 : decode code 977 = .ok (.invokestatic 246, 3) := by decide +kernel
theorem ok_Lw_law_Lw_hours : z_okX M_Lw_law M_Lw_hours 3 := ⟨z_mem (i := 1017) (by decide +kernel) (by decide +kernel), by decide, ⟨by decide +kernel, by decide +kernel, by decide +kernel⟩, ⟨by decide, by decide⟩, z_mem (i := 57) (by decide +kernel) (by decide +kernel), rfl⟩
theorem ln_Lw_246 : Cond.methodLink "IronpourLaw" 246 M_Lw_hours.1 ∈ z_gw := z_mem (i := 1015) (by decide +kernel) (by decide +kernel)
theorem w_st_Lw_hours : Cond.static M_Lw_hours.1 ∈ z_gw := z_mem (i := 1016) (by decide +kernel) (by decide +kernel)
theorem d_Lw_law_980 : decode code 980 = .ok (.istore 6, 2) := by decide +kernel
theorem d_Lw_law_982 : decode code 982 = .ok (.aload_n 2, 1) := by decide +kernel
theorem d_Lw_law_983 : decode code 983 = .ok (.aload_n 0, 1) := by decide +kernel
theorem d_Lw_law_984 : decode code 984 = .ok (.iload 5, 2) := by decide +kernel
theorem d_Lw_law_986 : decode code 986 = .ok (.iconst 1, 1) := by decide +kernel
theorem d_Lw_law_987 : decode code 987 = .ok (.iadd, 1) := by decide +kernel
theorem d_Lw_law_988 : decode code 988 = .ok (.iaload, 1) := by decide +kernel
theorem d_Lw_law_989 : decode code 989 = .ok (.invokevirtual 248, 3) := by decide +kernel
theorem ok_Lw_law_Mm_hours : z_ok M_Lw_law M_Mm_hours 1 := ⟨z_mem (i := 1880) (by decide +kernel) (by decide +kernel), rfl, ⟨by decide +kernel, by decide +kernel, by decide +kernel⟩, ⟨by decide, by decide⟩, z_mem (i := 71) (by decide +kernel) (by decide +kernel), rfl⟩
theorem ln_Lw_248 : Cond.methodLink "IronpourLaw" 248 M_Mm_hours.1 ∈ z_gw := z_mem (i := 1877) (by decide +kernel) (by decide +kernel)
theorem w_im_Mm_hours : Cond.instanceMethod M_Mm_hours.1 ∈ z_gw := z_mem (i := 1878) (by decide +kernel) (by decide +kernel)
theorem w_se_Mm_hours : Cond.selects M_Mm_hours.1.cls M_Mm_hours.1 M_Mm_hours.1 ∈ z_gw := z_mem (i := 1879) (by decide +kernel) (by decide +kernel)
theorem d_Lw_law_992 : decode code 992 = .ok (.istore 7, 2) := by decide +kernel
theorem d_Lw_law_994 : decode code 994 = .ok (.goto 814, 3) := by decide +kernel
set_option maxHeartbeats 4000000 in
set_option maxRecDepth 100000 in
theorem LC_hours {g : zG} {ad : Nat → Nat} {t : zTT} {u : zNN} {w : zW} (hI : IV g ad t u w) (hR : REL t) {j r : Nat} (hJ : 7 * j + 7 ≤ g.2.2 41) (hL : g.2.2 41 < 2 ^ 31) (ih : LWI g ad j r) : DW g M_Lw_law lwQ w 969 [(5, .int (nI (7 * j))), (4, .ref (ad 70)), (3, .ref (ad 69)), (2, .ref (ad 52)), (1, .ref (ad 0)), (0, .ref (g.2.2 40))] [] (100 * (r + 1)) (1000 * (r + 1)) := by
  refine y_base (cs := []) (z_I.nil w) ?_
  refine y_aload_n d_Lw_law_969 rfl 4 rfl ?_
  refine y_aload_n d_Lw_law_970 rfl 5 rfl ?_
  refine y_iload d_Lw_law_971 0 rfl ?_
  refine y_iconst d_Lw_law_973 (v := 1) (by decide) ?_
  refine y_iadd d_Lw_law_974 (v := nI ((7 * j) + 1)) (nI_add _ _) ?_
  refine y_sld (v := zs g (7 * j + 1)) d_Lw_law_975 (vp_in_nI (by omega) (by omega)) (by rw [nI_clamp (by omega)]; rfl) ?_
  refine y_aload_n d_Lw_law_976 rfl 2 rfl ?_
  refine yw_callSX (As := [.ref (ad 0), .int (zs g (7 * j + 1)), .ref (ad 69)]) (rest := []) ln_Lw_246 w_st_Lw_hours ok_Lw_law_Lw_hours d_Lw_law_977 (fun wA hA => W_hours (IV.nil hA hI) _) rfl rfl (Nat.le_of_ble_eq_true rfl) (by omega) (by omega) (fun wA977 hA977 E wB977 hx => ?_) (fun wA977 hA977 v wB977 hx => ?_)
  · obtain ⟨⟨v9, e1⟩, -⟩ := hx
    cases e1
  · obtain ⟨⟨v9, e1⟩, u2, hI2⟩ := hx
    cases e1
    refine yw_st (st2 := [.int v9]) rfl ?_
    have hI := hI2
    refine y_base (cs := []) (z_I.nil _) ?_
    refine y_istore (lv' := [(6, .int v9), (5, .int (nI (7 * j))), (4, .ref (ad 70)), (3, .ref (ad 69)), (2, .ref (ad 52)), (1, .ref (ad 0)), (0, .ref (g.2.2 40))]) d_Lw_law_980 (by decide) rfl ?_
    refine y_aload_n d_Lw_law_982 rfl 4 rfl ?_
    refine y_aload_n d_Lw_law_983 rfl 6 rfl ?_
    refine y_iload d_Lw_law_984 1 rfl ?_
    refine y_iconst d_Lw_law_986 (v := 1) (by decide) ?_
    refine y_iadd d_Lw_law_987 (v := nI ((7 * j) + 1)) (nI_add _ _) ?_
    refine y_sld (v := zs g (7 * j + 1)) d_Lw_law_988 (vp_in_nI (by omega) (by omega)) (by rw [nI_clamp (by omega)]; rfl) ?_
    refine yw_callVL (As := [.int (zs g (7 * j + 1))]) (rest := []) (ci := 12) rfl (fun wA hA => (IV.nil hA hI).rm) ln_Lw_248 w_im_Mm_hours w_se_Mm_hours ok_Lw_law_Mm_hours d_Lw_law_989 (fun wA hA => K_Mm_hours (IV.nil hA hI) _) rfl rfl (Nat.le_of_ble_eq_true rfl) (by omega) (by omega) (fun wA989 hA989 E wB989 hx => ?_) (fun wA989 hA989 v wB989 hx => ?_)
    · obtain ⟨⟨v8, e1⟩, -⟩ := hx
      cases e1
    · obtain ⟨⟨v8, e1⟩, u2, hI2⟩ := hx
      cases e1
      refine yw_st (st2 := [.int v8]) rfl ?_
      have hI := hI2
      refine y_base (cs := []) (z_I.nil _) ?_
      refine y_istore (lv' := [(7, .int v8), (6, .int v9), (5, .int (nI (7 * j))), (4, .ref (ad 70)), (3, .ref (ad 69)), (2, .ref (ad 52)), (1, .ref (ad 0)), (0, .ref (g.2.2 40))]) d_Lw_law_992 (by decide) rfl ?_
      refine y_goto (tgt := 1808) d_Lw_law_994 (by decide) ?_
      refine y_lv (lv' := [(5, .int (nI (7 * j))), (4, .ref (ad 70)), (3, .ref (ad 69)), (2, .ref (ad 52)), (1, .ref (ad 0)), (0, .ref (g.2.2 40))]) [2, 3, 4, 5, 6, 7] rfl ?_
      refine y_end (fun wC hC => ?_)
      exact LC_next (IV.nil hC hI) hR hJ hL ih (by omega) (by omega)
theorem d_Lw_law_997 : decode code 997 = .ok (.aload_n 1, 1) := by decide +kernel
theorem d_Lw_law_998 : decode code 998 = .ok (.aload_n 0, 1) := by decide +kernel
theorem d_Lw_law_999 : decode code 999 = .ok (.iload 5, 2) := by decide +kernel
theorem d_Lw_law_1001 : decode code 1001 = .ok (.iconst 1, 1) := by decide +kernel
theorem d_Lw_law_1002 : decode code 1002 = .ok (.iadd, 1) := by decide +kernel
theorem d_Lw_law_1003 : decode code 1003 = .ok (.iaload, 1) := by decide +kernel
theorem d_Lw_law_1004 : decode code 1004 = .ok (.i2c, 1) := by decide +kernel
theorem d_Lw_law_1005 : decode code 1005 = .ok (.aload_n 0, 1) := by decide +kernel
theorem d_Lw_law_1006 : decode code 1006 = .ok (.iload 5, 2) := by decide +kernel
theorem d_Lw_law_1008 : decode code 1008 = .ok (.iconst 2, 1) := by decide +kernel
theorem d_Lw_law_1009 : decode code 1009 = .ok (.iadd, 1) := by decide +kernel
theorem d_Lw_law_1010 : decode code 1010 = .ok (.iaload, 1) := by decide +kernel
theorem d_Lw_law_1011 : decode code 1011 = .ok (.aload_n 3, 1) := by decide +kernel
theorem d_Lw_law_1012 : decode code 1012 = .ok (.invokestatic 249, 3) := by decide +kernel
theorem ok_Lw_law_Lw_charge : z_okX M_Lw_law M_Lw_charge 4 := ⟨z_mem (i := 1033) (by decide +kernel) (by decide +kernel), by decide, ⟨by decide +kernel, by decide +kernel, by decide +kernel⟩, ⟨by decide, by decide⟩, z_mem (i := 57) (by decide +kernel) (by decide +kernel), rfl⟩
theorem ln_Lw_249 : Cond.methodLink "IronpourLaw" 249 M_Lw_charge.1 ∈ z_gw := z_mem (i := 1031) (by decide +kernel) (by decide +kernel)
theorem w_st_Lw_charge : Cond.static M_Lw_charge.1 ∈ z_gw := z_mem (i := 1032) (by decide +kernel) (by decide +kernel)
theorem d_Lw_law_1015 : decode code 1015 = .ok (.istore 6, 2) := by decide +kernel
theorem d_Lw_law_1017 : decode code 1017 = .ok (.aload_n 2, 1) := by decide +kernel
theorem d_Lw_law_1018 : decode code 1018 = .ok (.aload_n 0, 1) := by decide +kernel
theorem d_Lw_law_1019 : decode code 1019 = .ok (.iload 5, 2) := by decide +kernel
theorem d_Lw_law_1021 : decode code 1021 = .ok (.iconst 1, 1) := by decide +kernel
theorem d_Lw_law_1022 : decode code 1022 = .ok (.iadd, 1) := by decide +kernel
theorem d_Lw_law_1023 : decode code 1023 = .ok (.iaload, 1) := by decide +kernel
theorem d_Lw_law_1024 : decode code 1024 = .ok (.i2c, 1) := by decide +kernel
theorem d_Lw_law_1025 : decode code 1025 = .ok (.aload_n 0, 1) := by decide +kernel
theorem d_Lw_law_1026 : decode code 1026 = .ok (.iload 5, 2) := by decide +kernel
theorem d_Lw_law_1028 : decode code 1028 = .ok (.iconst 2, 1) := by decide +kernel
theorem d_Lw_law_1029 : decode code 1029 = .ok (.iadd, 1) := by decide +kernel
theorem d_Lw_law_1030 : decode code 1030 = .ok (.iaload, 1) := by decide +kernel
theorem d_Lw_law_1031 : decode code 1031 = .ok (.invokevirtual 252, 3) := by decide +kernel
theorem ok_Lw_law_Mm_charge : z_ok M_Lw_law M_Mm_charge 2 := ⟨z_mem (i := 1885) (by decide +kernel) (by decide +kernel), rfl, ⟨by decide +kernel, by decide +kernel, by decide +kernel⟩, ⟨by decide, by decide⟩, z_mem (i := 71) (by decide +kernel) (by decide +kernel), rfl⟩
theorem ln_Lw_252 : Cond.methodLink "IronpourLaw" 252 M_Mm_charge.1 ∈ z_gw := z_mem (i := 1882) (by decide +kernel) (by decide +kernel)
theorem w_im_Mm_charge : Cond.instanceMethod M_Mm_charge.1 ∈ z_gw := z_mem (i := 1883) (by decide +kernel) (by decide +kernel)
theorem w_se_Mm_charge : Cond.selects M_Mm_charge.1.cls M_Mm_charge.1 M_Mm_charge.1 ∈ z_gw := z_mem (i := 1884) (by decide +kernel) (by decide +kernel)
theorem d_Lw_law_1034 : decode code 1034 = .ok (.istore 7, 2) := by decide +kernel
theorem d_Lw_law_1036 : decode code 1036 = .ok (.goto 772, 3) := by decide +kernel
set_option maxHeartbeats 4000000 in
set_option maxRecDepth 100000 in
theorem LC_charge {g : zG} {ad : Nat → Nat} {t : zTT} {u : zNN} {w : zW} (hI : IV g ad t u w) (hR : REL t) {j r : Nat} (hJ : 7 * j + 7 ≤ g.2.2 41) (hL : g.2.2 41 < 2 ^ 31) (ih : LWI g ad j r) : DW g M_Lw_law lwQ w 997 [(5, .int (nI (7 * j))), (4, .ref (ad 70)), (3, .ref (ad 69)), (2, .ref (ad 52)), (1, .ref (ad 0)), (0, .ref (g.2.2 40))] [] (100 * (r + 1)) (1000 * (r + 1)) := by
  refine y_base (cs := []) (z_I.nil w) ?_
  refine y_aload_n d_Lw_law_997 rfl 4 rfl ?_
  refine y_aload_n d_Lw_law_998 rfl 5 rfl ?_
  refine y_iload d_Lw_law_999 0 rfl ?_
  refine y_iconst d_Lw_law_1001 (v := 1) (by decide) ?_
  refine y_iadd d_Lw_law_1002 (v := nI ((7 * j) + 1)) (nI_add _ _) ?_
  refine y_sld (v := zs g (7 * j + 1)) d_Lw_law_1003 (vp_in_nI (by omega) (by omega)) (by rw [nI_clamp (by omega)]; rfl) ?_
  refine y_i2c d_Lw_law_1004 (v := zc g (7 * j + 1)) rfl ?_
  refine y_aload_n d_Lw_law_1005 rfl 5 rfl ?_
  refine y_iload d_Lw_law_1006 0 rfl ?_
  refine y_iconst d_Lw_law_1008 (v := 2) (by decide) ?_
  refine y_iadd d_Lw_law_1009 (v := nI ((7 * j) + 2)) (nI_add _ _) ?_
  refine y_sld (v := zs g (7 * j + 2)) d_Lw_law_1010 (vp_in_nI (by omega) (by omega)) (by rw [nI_clamp (by omega)]; rfl) ?_
  refine y_aload_n d_Lw_law_1011 rfl 2 rfl ?_
  refine yw_callSX (As := [.ref (ad 0), .int (zc g (7 * j + 1)), .int (zs g (7 * j + 2)), .ref (ad 69)]) (rest := []) ln_Lw_249 w_st_Lw_charge ok_Lw_law_Lw_charge d_Lw_law_1012 (fun wA hA => W_charge (IV.nil hA hI) _ _) rfl rfl (Nat.le_of_ble_eq_true rfl) (by omega) (by omega) (fun wA1012 hA1012 E wB1012 hx => ?_) (fun wA1012 hA1012 v wB1012 hx => ?_)
  · obtain ⟨⟨v9, e1⟩, -⟩ := hx
    cases e1
  · obtain ⟨⟨v9, e1⟩, u2, hI2⟩ := hx
    cases e1
    refine yw_st (st2 := [.int v9]) rfl ?_
    have hI := hI2
    refine y_base (cs := []) (z_I.nil _) ?_
    refine y_istore (lv' := [(6, .int v9), (5, .int (nI (7 * j))), (4, .ref (ad 70)), (3, .ref (ad 69)), (2, .ref (ad 52)), (1, .ref (ad 0)), (0, .ref (g.2.2 40))]) d_Lw_law_1015 (by decide) rfl ?_
    refine y_aload_n d_Lw_law_1017 rfl 4 rfl ?_
    refine y_aload_n d_Lw_law_1018 rfl 6 rfl ?_
    refine y_iload d_Lw_law_1019 1 rfl ?_
    refine y_iconst d_Lw_law_1021 (v := 1) (by decide) ?_
    refine y_iadd d_Lw_law_1022 (v := nI ((7 * j) + 1)) (nI_add _ _) ?_
    refine y_sld (v := zs g (7 * j + 1)) d_Lw_law_1023 (vp_in_nI (by omega) (by omega)) (by rw [nI_clamp (by omega)]; rfl) ?_
    refine y_i2c d_Lw_law_1024 (v := zc g (7 * j + 1)) rfl ?_
    refine y_aload_n d_Lw_law_1025 rfl 6 rfl ?_
    refine y_iload d_Lw_law_1026 1 rfl ?_
    refine y_iconst d_Lw_law_1028 (v := 2) (by decide) ?_
    refine y_iadd d_Lw_law_1029 (v := nI ((7 * j) + 2)) (nI_add _ _) ?_
    refine y_sld (v := zs g (7 * j + 2)) d_Lw_law_1030 (vp_in_nI (by omega) (by omega)) (by rw [nI_clamp (by omega)]; rfl) ?_
    refine yw_callVL (As := [.int (zc g (7 * j + 1)), .int (zs g (7 * j + 2))]) (rest := []) (ci := 12) rfl (fun wA hA => (IV.nil hA hI).rm) ln_Lw_252 w_im_Mm_charge w_se_Mm_charge ok_Lw_law_Mm_charge d_Lw_law_1031 (fun wA hA => K_Mm_charge (IV.nil hA hI) _ _) rfl rfl (Nat.le_of_ble_eq_true rfl) (by omega) (by omega) (fun wA1031 hA1031 E wB1031 hx => ?_) (fun wA1031 hA1031 v wB1031 hx => ?_)
    · obtain ⟨⟨v8, e1⟩, -⟩ := hx
      cases e1
    · obtain ⟨⟨v8, e1⟩, u2, hI2⟩ := hx
      cases e1
      refine yw_st (st2 := [.int v8]) rfl ?_
      have hI := hI2
      refine y_base (cs := []) (z_I.nil _) ?_
      refine y_istore (lv' := [(7, .int v8), (6, .int v9), (5, .int (nI (7 * j))), (4, .ref (ad 70)), (3, .ref (ad 69)), (2, .ref (ad 52)), (1, .ref (ad 0)), (0, .ref (g.2.2 40))]) d_Lw_law_1034 (by decide) rfl ?_
      refine y_goto (tgt := 1808) d_Lw_law_1036 (by decide) ?_
      refine y_lv (lv' := [(5, .int (nI (7 * j))), (4, .ref (ad 70)), (3, .ref (ad 69)), (2, .ref (ad 52)), (1, .ref (ad 0)), (0, .ref (g.2.2 40))]) [2, 3, 4, 5, 6, 7] rfl ?_
      refine y_end (fun wC hC => ?_)
      exact LC_next (IV.nil hC hI) hR hJ hL ih (by omega) (by omega)
theorem d_Lw_law_1039 : decode code 1039 = .ok (.aload_n 1, 1) := by decide +kernel
theorem d_Lw_law_1040 : decode code 1040 = .ok (.aload_n 0, 1) := by decide +kernel
theorem d_Lw_law_1041 : decode code 1041 = .ok (.iload 5, 2) := by decide +kernel
theorem d_Lw_law_1043 : decode code 1043 = .ok (.iconst 1, 1) := by decide +kernel
theorem d_Lw_law_1044 : decode code 1044 = .ok (.iadd, 1) := by decide +kernel
theorem d_Lw_law_1045 : decode code 1045 = .ok (.iaload, 1) := by decide +kernel
theorem d_Lw_law_1046 : decode code 1046 = .ok (.i2c, 1) := by decide +kernel
theorem d_Lw_law_1047 : decode code 1047 = .ok (.aload_n 3, 1) := by decide +kernel
theorem d_Lw_law_1048 : decode code 1048 = .ok (.invokestatic 253, 3) := by decide +kernel
theorem ok_Lw_law_Lw_furnace : z_okX M_Lw_law M_Lw_furnace 3 := ⟨z_mem (i := 1084) (by decide +kernel) (by decide +kernel), by decide, ⟨by decide +kernel, by decide +kernel, by decide +kernel⟩, ⟨by decide, by decide⟩, z_mem (i := 57) (by decide +kernel) (by decide +kernel), rfl⟩
theorem ln_Lw_253 : Cond.methodLink "IronpourLaw" 253 M_Lw_furnace.1 ∈ z_gw := z_mem (i := 1082) (by decide +kernel) (by decide +kernel)
theorem w_st_Lw_furnace : Cond.static M_Lw_furnace.1 ∈ z_gw := z_mem (i := 1083) (by decide +kernel) (by decide +kernel)
theorem d_Lw_law_1051 : decode code 1051 = .ok (.istore 6, 2) := by decide +kernel
theorem d_Lw_law_1053 : decode code 1053 = .ok (.aload_n 2, 1) := by decide +kernel
theorem d_Lw_law_1054 : decode code 1054 = .ok (.aload_n 0, 1) := by decide +kernel
theorem d_Lw_law_1055 : decode code 1055 = .ok (.iload 5, 2) := by decide +kernel
theorem d_Lw_law_1057 : decode code 1057 = .ok (.iconst 1, 1) := by decide +kernel
theorem d_Lw_law_1058 : decode code 1058 = .ok (.iadd, 1) := by decide +kernel
theorem d_Lw_law_1059 : decode code 1059 = .ok (.iaload, 1) := by decide +kernel
theorem d_Lw_law_1060 : decode code 1060 = .ok (.i2c, 1) := by decide +kernel
theorem d_Lw_law_1061 : decode code 1061 = .ok (.invokevirtual 255, 3) := by decide +kernel
theorem ok_Lw_law_Mm_furnace : z_ok M_Lw_law M_Mm_furnace 1 := ⟨z_mem (i := 1898) (by decide +kernel) (by decide +kernel), rfl, ⟨by decide +kernel, by decide +kernel, by decide +kernel⟩, ⟨by decide, by decide⟩, z_mem (i := 71) (by decide +kernel) (by decide +kernel), rfl⟩
theorem ln_Lw_255 : Cond.methodLink "IronpourLaw" 255 M_Mm_furnace.1 ∈ z_gw := z_mem (i := 1895) (by decide +kernel) (by decide +kernel)
theorem w_im_Mm_furnace : Cond.instanceMethod M_Mm_furnace.1 ∈ z_gw := z_mem (i := 1896) (by decide +kernel) (by decide +kernel)
theorem w_se_Mm_furnace : Cond.selects M_Mm_furnace.1.cls M_Mm_furnace.1 M_Mm_furnace.1 ∈ z_gw := z_mem (i := 1897) (by decide +kernel) (by decide +kernel)
theorem d_Lw_law_1064 : decode code 1064 = .ok (.istore 7, 2) := by decide +kernel
theorem d_Lw_law_1066 : decode code 1066 = .ok (.goto 742, 3) := by decide +kernel
set_option maxHeartbeats 4000000 in
set_option maxRecDepth 100000 in
theorem LC_furnace {g : zG} {ad : Nat → Nat} {t : zTT} {u : zNN} {w : zW} (hI : IV g ad t u w) (hR : REL t) {j r : Nat} (hJ : 7 * j + 7 ≤ g.2.2 41) (hL : g.2.2 41 < 2 ^ 31) (ih : LWI g ad j r) : DW g M_Lw_law lwQ w 1039 [(5, .int (nI (7 * j))), (4, .ref (ad 70)), (3, .ref (ad 69)), (2, .ref (ad 52)), (1, .ref (ad 0)), (0, .ref (g.2.2 40))] [] (100 * (r + 1)) (1000 * (r + 1)) := by
  refine y_base (cs := []) (z_I.nil w) ?_
  refine y_aload_n d_Lw_law_1039 rfl 4 rfl ?_
  refine y_aload_n d_Lw_law_1040 rfl 5 rfl ?_
  refine y_iload d_Lw_law_1041 0 rfl ?_
  refine y_iconst d_Lw_law_1043 (v := 1) (by decide) ?_
  refine y_iadd d_Lw_law_1044 (v := nI ((7 * j) + 1)) (nI_add _ _) ?_
  refine y_sld (v := zs g (7 * j + 1)) d_Lw_law_1045 (vp_in_nI (by omega) (by omega)) (by rw [nI_clamp (by omega)]; rfl) ?_
  refine y_i2c d_Lw_law_1046 (v := zc g (7 * j + 1)) rfl ?_
  refine y_aload_n d_Lw_law_1047 rfl 2 rfl ?_
  refine yw_callSX (As := [.ref (ad 0), .int (zc g (7 * j + 1)), .ref (ad 69)]) (rest := []) ln_Lw_253 w_st_Lw_furnace ok_Lw_law_Lw_furnace d_Lw_law_1048 (fun wA hA => W_furnace (IV.nil hA hI) _) rfl rfl (Nat.le_of_ble_eq_true rfl) (by omega) (by omega) (fun wA1048 hA1048 E wB1048 hx => ?_) (fun wA1048 hA1048 v wB1048 hx => ?_)
  · obtain ⟨⟨v9, e1⟩, -⟩ := hx
    cases e1
  · obtain ⟨⟨v9, e1⟩, u2, hI2⟩ := hx
    cases e1
    refine yw_st (st2 := [.int v9]) rfl ?_
    have hI := hI2
    refine y_base (cs := []) (z_I.nil _) ?_
    refine y_istore (lv' := [(6, .int v9), (5, .int (nI (7 * j))), (4, .ref (ad 70)), (3, .ref (ad 69)), (2, .ref (ad 52)), (1, .ref (ad 0)), (0, .ref (g.2.2 40))]) d_Lw_law_1051 (by decide) rfl ?_
    refine y_aload_n d_Lw_law_1053 rfl 4 rfl ?_
    refine y_aload_n d_Lw_law_1054 rfl 6 rfl ?_
    refine y_iload d_Lw_law_1055 1 rfl ?_
    refine y_iconst d_Lw_law_1057 (v := 1) (by decide) ?_
    refine y_iadd d_Lw_law_1058 (v := nI ((7 * j) + 1)) (nI_add _ _) ?_
    refine y_sld (v := zs g (7 * j + 1)) d_Lw_law_1059 (vp_in_nI (by omega) (by omega)) (by rw [nI_clamp (by omega)]; rfl) ?_
    refine y_i2c d_Lw_law_1060 (v := zc g (7 * j + 1)) rfl ?_
    refine yw_callVL (As := [.int (zc g (7 * j + 1))]) (rest := []) (ci := 12) rfl (fun wA hA => (IV.nil hA hI).rm) ln_Lw_255 w_im_Mm_furnace w_se_Mm_furnace ok_Lw_law_Mm_furnace d_Lw_law_1061 (fun wA hA => K_Mm_furnace (IV.nil hA hI) _) rfl rfl (Nat.le_of_ble_eq_true rfl) (by omega) (by omega) (fun wA1061 hA1061 E wB1061 hx => ?_) (fun wA1061 hA1061 v wB1061 hx => ?_)
    · obtain ⟨⟨v8, e1⟩, -⟩ := hx
      cases e1
    · obtain ⟨⟨v8, e1⟩, u2, hI2⟩ := hx
      cases e1
      refine yw_st (st2 := [.int v8]) rfl ?_
      have hI := hI2
      refine y_base (cs := []) (z_I.nil _) ?_
      refine y_istore (lv' := [(7, .int v8), (6, .int v9), (5, .int (nI (7 * j))), (4, .ref (ad 70)), (3, .ref (ad 69)), (2, .ref (ad 52)), (1, .ref (ad 0)), (0, .ref (g.2.2 40))]) d_Lw_law_1064 (by decide) rfl ?_
      refine y_goto (tgt := 1808) d_Lw_law_1066 (by decide) ?_
      refine y_lv (lv' := [(5, .int (nI (7 * j))), (4, .ref (ad 70)), (3, .ref (ad 69)), (2, .ref (ad 52)), (1, .ref (ad 0)), (0, .ref (g.2.2 40))]) [2, 3, 4, 5, 6, 7] rfl ?_
      refine y_end (fun wC hC => ?_)
      exact LC_next (IV.nil hC hI) hR hJ hL ih (by omega) (by omega)
theorem d_Lw_law_1069 : decode code 1069 = .ok (.aload_n 1, 1) := by decide +kernel
theorem d_Lw_law_1070 : decode code 1070 = .ok (.aload_n 0, 1) := by decide +kernel
theorem d_Lw_law_1071 : decode code 1071 = .ok (.iload 5, 2) := by decide +kernel
theorem d_Lw_law_1073 : decode code 1073 = .ok (.iconst 1, 1) := by decide +kernel
theorem d_Lw_law_1074 : decode code 1074 = .ok (.iadd, 1) := by decide +kernel
theorem d_Lw_law_1075 : decode code 1075 = .ok (.iaload, 1) := by decide +kernel
theorem d_Lw_law_1076 : decode code 1076 = .ok (.aload_n 3, 1) := by decide +kernel
theorem d_Lw_law_1077 : decode code 1077 = .ok (.invokestatic 256, 3) := by decide +kernel
theorem ok_Lw_law_Lw_hold : z_okX M_Lw_law M_Lw_hold 3 := ⟨z_mem (i := 1102) (by decide +kernel) (by decide +kernel), by decide, ⟨by decide +kernel, by decide +kernel, by decide +kernel⟩, ⟨by decide, by decide⟩, z_mem (i := 57) (by decide +kernel) (by decide +kernel), rfl⟩
theorem ln_Lw_256 : Cond.methodLink "IronpourLaw" 256 M_Lw_hold.1 ∈ z_gw := z_mem (i := 1100) (by decide +kernel) (by decide +kernel)
theorem w_st_Lw_hold : Cond.static M_Lw_hold.1 ∈ z_gw := z_mem (i := 1101) (by decide +kernel) (by decide +kernel)
theorem d_Lw_law_1080 : decode code 1080 = .ok (.istore 6, 2) := by decide +kernel
theorem d_Lw_law_1082 : decode code 1082 = .ok (.aload_n 2, 1) := by decide +kernel
theorem d_Lw_law_1083 : decode code 1083 = .ok (.aload_n 0, 1) := by decide +kernel
theorem d_Lw_law_1084 : decode code 1084 = .ok (.iload 5, 2) := by decide +kernel
theorem d_Lw_law_1086 : decode code 1086 = .ok (.iconst 1, 1) := by decide +kernel
theorem d_Lw_law_1087 : decode code 1087 = .ok (.iadd, 1) := by decide +kernel
theorem d_Lw_law_1088 : decode code 1088 = .ok (.iaload, 1) := by decide +kernel
theorem d_Lw_law_1089 : decode code 1089 = .ok (.invokevirtual 258, 3) := by decide +kernel
theorem ok_Lw_law_Mm_hold : z_ok M_Lw_law M_Mm_hold 1 := ⟨z_mem (i := 1910) (by decide +kernel) (by decide +kernel), rfl, ⟨by decide +kernel, by decide +kernel, by decide +kernel⟩, ⟨by decide, by decide⟩, z_mem (i := 71) (by decide +kernel) (by decide +kernel), rfl⟩
theorem ln_Lw_258 : Cond.methodLink "IronpourLaw" 258 M_Mm_hold.1 ∈ z_gw := z_mem (i := 1907) (by decide +kernel) (by decide +kernel)
theorem w_im_Mm_hold : Cond.instanceMethod M_Mm_hold.1 ∈ z_gw := z_mem (i := 1908) (by decide +kernel) (by decide +kernel)
theorem w_se_Mm_hold : Cond.selects M_Mm_hold.1.cls M_Mm_hold.1 M_Mm_hold.1 ∈ z_gw := z_mem (i := 1909) (by decide +kernel) (by decide +kernel)
theorem d_Lw_law_1092 : decode code 1092 = .ok (.istore 7, 2) := by decide +kernel
theorem d_Lw_law_1094 : decode code 1094 = .ok (.goto 714, 3) := by decide +kernel
set_option maxHeartbeats 4000000 in
set_option maxRecDepth 100000 in
theorem LC_hold {g : zG} {ad : Nat → Nat} {t : zTT} {u : zNN} {w : zW} (hI : IV g ad t u w) (hR : REL t) {j r : Nat} (hJ : 7 * j + 7 ≤ g.2.2 41) (hL : g.2.2 41 < 2 ^ 31) (ih : LWI g ad j r) : DW g M_Lw_law lwQ w 1069 [(5, .int (nI (7 * j))), (4, .ref (ad 70)), (3, .ref (ad 69)), (2, .ref (ad 52)), (1, .ref (ad 0)), (0, .ref (g.2.2 40))] [] (100 * (r + 1)) (1000 * (r + 1)) := by
  refine y_base (cs := []) (z_I.nil w) ?_
  refine y_aload_n d_Lw_law_1069 rfl 4 rfl ?_
  refine y_aload_n d_Lw_law_1070 rfl 5 rfl ?_
  refine y_iload d_Lw_law_1071 0 rfl ?_
  refine y_iconst d_Lw_law_1073 (v := 1) (by decide) ?_
  refine y_iadd d_Lw_law_1074 (v := nI ((7 * j) + 1)) (nI_add _ _) ?_
  refine y_sld (v := zs g (7 * j + 1)) d_Lw_law_1075 (vp_in_nI (by omega) (by omega)) (by rw [nI_clamp (by omega)]; rfl) ?_
  refine y_aload_n d_Lw_law_1076 rfl 2 rfl ?_
  refine yw_callSX (As := [.ref (ad 0), .int (zs g (7 * j + 1)), .ref (ad 69)]) (rest := []) ln_Lw_256 w_st_Lw_hold ok_Lw_law_Lw_hold d_Lw_law_1077 (fun wA hA => W_hold (IV.nil hA hI) _) rfl rfl (Nat.le_of_ble_eq_true rfl) (by omega) (by omega) (fun wA1077 hA1077 E wB1077 hx => ?_) (fun wA1077 hA1077 v wB1077 hx => ?_)
  · obtain ⟨⟨v9, e1⟩, -⟩ := hx
    cases e1
  · obtain ⟨⟨v9, e1⟩, u2, hI2⟩ := hx
    cases e1
    refine yw_st (st2 := [.int v9]) rfl ?_
    have hI := hI2
    refine y_base (cs := []) (z_I.nil _) ?_
    refine y_istore (lv' := [(6, .int v9), (5, .int (nI (7 * j))), (4, .ref (ad 70)), (3, .ref (ad 69)), (2, .ref (ad 52)), (1, .ref (ad 0)), (0, .ref (g.2.2 40))]) d_Lw_law_1080 (by decide) rfl ?_
    refine y_aload_n d_Lw_law_1082 rfl 4 rfl ?_
    refine y_aload_n d_Lw_law_1083 rfl 6 rfl ?_
    refine y_iload d_Lw_law_1084 1 rfl ?_
    refine y_iconst d_Lw_law_1086 (v := 1) (by decide) ?_
    refine y_iadd d_Lw_law_1087 (v := nI ((7 * j) + 1)) (nI_add _ _) ?_
    refine y_sld (v := zs g (7 * j + 1)) d_Lw_law_1088 (vp_in_nI (by omega) (by omega)) (by rw [nI_clamp (by omega)]; rfl) ?_
    refine yw_callVL (As := [.int (zs g (7 * j + 1))]) (rest := []) (ci := 12) rfl (fun wA hA => (IV.nil hA hI).rm) ln_Lw_258 w_im_Mm_hold w_se_Mm_hold ok_Lw_law_Mm_hold d_Lw_law_1089 (fun wA hA => K_Mm_hold (IV.nil hA hI) _) rfl rfl (Nat.le_of_ble_eq_true rfl) (by omega) (by omega) (fun wA1089 hA1089 E wB1089 hx => ?_) (fun wA1089 hA1089 v wB1089 hx => ?_)
    · obtain ⟨⟨v8, e1⟩, -⟩ := hx
      cases e1
    · obtain ⟨⟨v8, e1⟩, u2, hI2⟩ := hx
      cases e1
      refine yw_st (st2 := [.int v8]) rfl ?_
      have hI := hI2
      refine y_base (cs := []) (z_I.nil _) ?_
      refine y_istore (lv' := [(7, .int v8), (6, .int v9), (5, .int (nI (7 * j))), (4, .ref (ad 70)), (3, .ref (ad 69)), (2, .ref (ad 52)), (1, .ref (ad 0)), (0, .ref (g.2.2 40))]) d_Lw_law_1092 (by decide) rfl ?_
      refine y_goto (tgt := 1808) d_Lw_law_1094 (by decide) ?_
      refine y_lv (lv' := [(5, .int (nI (7 * j))), (4, .ref (ad 70)), (3, .ref (ad 69)), (2, .ref (ad 52)), (1, .ref (ad 0)), (0, .ref (g.2.2 40))]) [2, 3, 4, 5, 6, 7] rfl ?_
      refine y_end (fun wC hC => ?_)
      exact LC_next (IV.nil hC hI) hR hJ hL ih (by omega) (by omega)
theorem d_Lw_law_1097 : decode code 1097 = .ok (.aload_n 1, 1) := by decide +kernel
theorem d_Lw_law_1098 : decode code 1098 = .ok (.aload_n 0, 1) := by decide +kernel
theorem d_Lw_law_1099 : decode code 1099 = .ok (.iload 5, 2) := by decide +kernel
theorem d_Lw_law_1101 : decode code 1101 = .ok (.iconst 1, 1) := by decide +kernel
theorem d_Lw_law_1102 : decode code 1102 = .ok (.iadd, 1) := by decide +kernel
theorem d_Lw_law_1103 : decode code 1103 = .ok (.iaload, 1) := by decide +kernel
theorem d_Lw_law_1104 : decode code 1104 = .ok (.aload_n 3, 1) := by decide +kernel
theorem d_Lw_law_1105 : decode code 1105 = .ok (.invokestatic 259, 3) := by decide +kernel
theorem ok_Lw_law_Lw_tap : z_okX M_Lw_law M_Lw_tap 3 := ⟨z_mem (i := 1118) (by decide +kernel) (by decide +kernel), by decide, ⟨by decide +kernel, by decide +kernel, by decide +kernel⟩, ⟨by decide, by decide⟩, z_mem (i := 57) (by decide +kernel) (by decide +kernel), rfl⟩
theorem ln_Lw_259 : Cond.methodLink "IronpourLaw" 259 M_Lw_tap.1 ∈ z_gw := z_mem (i := 1116) (by decide +kernel) (by decide +kernel)
theorem w_st_Lw_tap : Cond.static M_Lw_tap.1 ∈ z_gw := z_mem (i := 1117) (by decide +kernel) (by decide +kernel)
theorem d_Lw_law_1108 : decode code 1108 = .ok (.istore 6, 2) := by decide +kernel
theorem d_Lw_law_1110 : decode code 1110 = .ok (.aload_n 2, 1) := by decide +kernel
theorem d_Lw_law_1111 : decode code 1111 = .ok (.aload_n 0, 1) := by decide +kernel
theorem d_Lw_law_1112 : decode code 1112 = .ok (.iload 5, 2) := by decide +kernel
theorem d_Lw_law_1114 : decode code 1114 = .ok (.iconst 1, 1) := by decide +kernel
theorem d_Lw_law_1115 : decode code 1115 = .ok (.iadd, 1) := by decide +kernel
theorem d_Lw_law_1116 : decode code 1116 = .ok (.iaload, 1) := by decide +kernel
theorem d_Lw_law_1117 : decode code 1117 = .ok (.invokevirtual 261, 3) := by decide +kernel
theorem ok_Lw_law_Mm_tap : z_ok M_Lw_law M_Mm_tap 1 := ⟨z_mem (i := 1916) (by decide +kernel) (by decide +kernel), rfl, ⟨by decide +kernel, by decide +kernel, by decide +kernel⟩, ⟨by decide, by decide⟩, z_mem (i := 71) (by decide +kernel) (by decide +kernel), rfl⟩
theorem ln_Lw_261 : Cond.methodLink "IronpourLaw" 261 M_Mm_tap.1 ∈ z_gw := z_mem (i := 1913) (by decide +kernel) (by decide +kernel)
theorem w_im_Mm_tap : Cond.instanceMethod M_Mm_tap.1 ∈ z_gw := z_mem (i := 1914) (by decide +kernel) (by decide +kernel)
theorem w_se_Mm_tap : Cond.selects M_Mm_tap.1.cls M_Mm_tap.1 M_Mm_tap.1 ∈ z_gw := z_mem (i := 1915) (by decide +kernel) (by decide +kernel)
theorem d_Lw_law_1120 : decode code 1120 = .ok (.istore 7, 2) := by decide +kernel
theorem d_Lw_law_1122 : decode code 1122 = .ok (.goto 686, 3) := by decide +kernel
set_option maxHeartbeats 4000000 in
set_option maxRecDepth 100000 in
theorem LC_tap {g : zG} {ad : Nat → Nat} {t : zTT} {u : zNN} {w : zW} (hI : IV g ad t u w) (hR : REL t) {j r : Nat} (hJ : 7 * j + 7 ≤ g.2.2 41) (hL : g.2.2 41 < 2 ^ 31) (ih : LWI g ad j r) : DW g M_Lw_law lwQ w 1097 [(5, .int (nI (7 * j))), (4, .ref (ad 70)), (3, .ref (ad 69)), (2, .ref (ad 52)), (1, .ref (ad 0)), (0, .ref (g.2.2 40))] [] (100 * (r + 1)) (1000 * (r + 1)) := by
  refine y_base (cs := []) (z_I.nil w) ?_
  refine y_aload_n d_Lw_law_1097 rfl 4 rfl ?_
  refine y_aload_n d_Lw_law_1098 rfl 5 rfl ?_
  refine y_iload d_Lw_law_1099 0 rfl ?_
  refine y_iconst d_Lw_law_1101 (v := 1) (by decide) ?_
  refine y_iadd d_Lw_law_1102 (v := nI ((7 * j) + 1)) (nI_add _ _) ?_
  refine y_sld (v := zs g (7 * j + 1)) d_Lw_law_1103 (vp_in_nI (by omega) (by omega)) (by rw [nI_clamp (by omega)]; rfl) ?_
  refine y_aload_n d_Lw_law_1104 rfl 2 rfl ?_
  refine yw_callSX (As := [.ref (ad 0), .int (zs g (7 * j + 1)), .ref (ad 69)]) (rest := []) ln_Lw_259 w_st_Lw_tap ok_Lw_law_Lw_tap d_Lw_law_1105 (fun wA hA => W_tap (IV.nil hA hI) _) rfl rfl (Nat.le_of_ble_eq_true rfl) (by omega) (by omega) (fun wA1105 hA1105 E wB1105 hx => ?_) (fun wA1105 hA1105 v wB1105 hx => ?_)
  · obtain ⟨⟨v9, e1⟩, -⟩ := hx
    cases e1
  · obtain ⟨⟨v9, e1⟩, u2, hI2⟩ := hx
    cases e1
    refine yw_st (st2 := [.int v9]) rfl ?_
    have hI := hI2
    refine y_base (cs := []) (z_I.nil _) ?_
    refine y_istore (lv' := [(6, .int v9), (5, .int (nI (7 * j))), (4, .ref (ad 70)), (3, .ref (ad 69)), (2, .ref (ad 52)), (1, .ref (ad 0)), (0, .ref (g.2.2 40))]) d_Lw_law_1108 (by decide) rfl ?_
    refine y_aload_n d_Lw_law_1110 rfl 4 rfl ?_
    refine y_aload_n d_Lw_law_1111 rfl 6 rfl ?_
    refine y_iload d_Lw_law_1112 1 rfl ?_
    refine y_iconst d_Lw_law_1114 (v := 1) (by decide) ?_
    refine y_iadd d_Lw_law_1115 (v := nI ((7 * j) + 1)) (nI_add _ _) ?_
    refine y_sld (v := zs g (7 * j + 1)) d_Lw_law_1116 (vp_in_nI (by omega) (by omega)) (by rw [nI_clamp (by omega)]; rfl) ?_
    refine yw_callVL (As := [.int (zs g (7 * j + 1))]) (rest := []) (ci := 12) rfl (fun wA hA => (IV.nil hA hI).rm) ln_Lw_261 w_im_Mm_tap w_se_Mm_tap ok_Lw_law_Mm_tap d_Lw_law_1117 (fun wA hA => K_Mm_tap (IV.nil hA hI) _) rfl rfl (Nat.le_of_ble_eq_true rfl) (by omega) (by omega) (fun wA1117 hA1117 E wB1117 hx => ?_) (fun wA1117 hA1117 v wB1117 hx => ?_)
    · obtain ⟨⟨v8, e1⟩, -⟩ := hx
      cases e1
    · obtain ⟨⟨v8, e1⟩, u2, hI2⟩ := hx
      cases e1
      refine yw_st (st2 := [.int v8]) rfl ?_
      have hI := hI2
      refine y_base (cs := []) (z_I.nil _) ?_
      refine y_istore (lv' := [(7, .int v8), (6, .int v9), (5, .int (nI (7 * j))), (4, .ref (ad 70)), (3, .ref (ad 69)), (2, .ref (ad 52)), (1, .ref (ad 0)), (0, .ref (g.2.2 40))]) d_Lw_law_1120 (by decide) rfl ?_
      refine y_goto (tgt := 1808) d_Lw_law_1122 (by decide) ?_
      refine y_lv (lv' := [(5, .int (nI (7 * j))), (4, .ref (ad 70)), (3, .ref (ad 69)), (2, .ref (ad 52)), (1, .ref (ad 0)), (0, .ref (g.2.2 40))]) [2, 3, 4, 5, 6, 7] rfl ?_
      refine y_end (fun wC hC => ?_)
      exact LC_next (IV.nil hC hI) hR hJ hL ih (by omega) (by omega)
theorem d_Lw_law_1125 : decode code 1125 = .ok (.aload_n 1, 1) := by decide +kernel
theorem d_Lw_law_1126 : decode code 1126 = .ok (.aload_n 0, 1) := by decide +kernel
theorem d_Lw_law_1127 : decode code 1127 = .ok (.iload 5, 2) := by decide +kernel
theorem d_Lw_law_1129 : decode code 1129 = .ok (.iconst 1, 1) := by decide +kernel
theorem d_Lw_law_1130 : decode code 1130 = .ok (.iadd, 1) := by decide +kernel
theorem d_Lw_law_1131 : decode code 1131 = .ok (.iaload, 1) := by decide +kernel
theorem d_Lw_law_1132 : decode code 1132 = .ok (.aload_n 3, 1) := by decide +kernel
theorem d_Lw_law_1133 : decode code 1133 = .ok (.invokestatic 262, 3) := by decide +kernel
theorem ok_Lw_law_Lw_treat : z_okX M_Lw_law M_Lw_treat 3 := ⟨z_mem (i := 1137) (by decide +kernel) (by decide +kernel), by decide, ⟨by decide +kernel, by decide +kernel, by decide +kernel⟩, ⟨by decide, by decide⟩, z_mem (i := 57) (by decide +kernel) (by decide +kernel), rfl⟩
theorem ln_Lw_262 : Cond.methodLink "IronpourLaw" 262 M_Lw_treat.1 ∈ z_gw := z_mem (i := 1135) (by decide +kernel) (by decide +kernel)
theorem w_st_Lw_treat : Cond.static M_Lw_treat.1 ∈ z_gw := z_mem (i := 1136) (by decide +kernel) (by decide +kernel)
theorem d_Lw_law_1136 : decode code 1136 = .ok (.istore 6, 2) := by decide +kernel
theorem d_Lw_law_1138 : decode code 1138 = .ok (.aload_n 2, 1) := by decide +kernel
theorem d_Lw_law_1139 : decode code 1139 = .ok (.aload_n 0, 1) := by decide +kernel
theorem d_Lw_law_1140 : decode code 1140 = .ok (.iload 5, 2) := by decide +kernel
theorem d_Lw_law_1142 : decode code 1142 = .ok (.iconst 1, 1) := by decide +kernel
theorem d_Lw_law_1143 : decode code 1143 = .ok (.iadd, 1) := by decide +kernel
theorem d_Lw_law_1144 : decode code 1144 = .ok (.iaload, 1) := by decide +kernel
theorem d_Lw_law_1145 : decode code 1145 = .ok (.invokevirtual 264, 3) := by decide +kernel
theorem ok_Lw_law_Mm_treat : z_ok M_Lw_law M_Mm_treat 1 := ⟨z_mem (i := 1920) (by decide +kernel) (by decide +kernel), rfl, ⟨by decide +kernel, by decide +kernel, by decide +kernel⟩, ⟨by decide, by decide⟩, z_mem (i := 71) (by decide +kernel) (by decide +kernel), rfl⟩
theorem ln_Lw_264 : Cond.methodLink "IronpourLaw" 264 M_Mm_treat.1 ∈ z_gw := z_mem (i := 1917) (by decide +kernel) (by decide +kernel)
theorem w_im_Mm_treat : Cond.instanceMethod M_Mm_treat.1 ∈ z_gw := z_mem (i := 1918) (by decide +kernel) (by decide +kernel)
theorem w_se_Mm_treat : Cond.selects M_Mm_treat.1.cls M_Mm_treat.1 M_Mm_treat.1 ∈ z_gw := z_mem (i := 1919) (by decide +kernel) (by decide +kernel)
theorem d_Lw_law_1148 : decode code 1148 = .ok (.istore 7, 2) := by decide +kernel
theorem d_Lw_law_1150 : decode code 1150 = .ok (.goto 658, 3) := by decide +kernel
set_option maxHeartbeats 4000000 in
set_option maxRecDepth 100000 in
theorem LC_treat {g : zG} {ad : Nat → Nat} {t : zTT} {u : zNN} {w : zW} (hI : IV g ad t u w) (hR : REL t) {j r : Nat} (hJ : 7 * j + 7 ≤ g.2.2 41) (hL : g.2.2 41 < 2 ^ 31) (ih : LWI g ad j r) : DW g M_Lw_law lwQ w 1125 [(5, .int (nI (7 * j))), (4, .ref (ad 70)), (3, .ref (ad 69)), (2, .ref (ad 52)), (1, .ref (ad 0)), (0, .ref (g.2.2 40))] [] (100 * (r + 1)) (1000 * (r + 1)) := by
  refine y_base (cs := []) (z_I.nil w) ?_
  refine y_aload_n d_Lw_law_1125 rfl 4 rfl ?_
  refine y_aload_n d_Lw_law_1126 rfl 5 rfl ?_
  refine y_iload d_Lw_law_1127 0 rfl ?_
  refine y_iconst d_Lw_law_1129 (v := 1) (by decide) ?_
  refine y_iadd d_Lw_law_1130 (v := nI ((7 * j) + 1)) (nI_add _ _) ?_
  refine y_sld (v := zs g (7 * j + 1)) d_Lw_law_1131 (vp_in_nI (by omega) (by omega)) (by rw [nI_clamp (by omega)]; rfl) ?_
  refine y_aload_n d_Lw_law_1132 rfl 2 rfl ?_
  refine yw_callSX (As := [.ref (ad 0), .int (zs g (7 * j + 1)), .ref (ad 69)]) (rest := []) ln_Lw_262 w_st_Lw_treat ok_Lw_law_Lw_treat d_Lw_law_1133 (fun wA hA => W_treat (IV.nil hA hI) _) rfl rfl (Nat.le_of_ble_eq_true rfl) (by omega) (by omega) (fun wA1133 hA1133 E wB1133 hx => ?_) (fun wA1133 hA1133 v wB1133 hx => ?_)
  · obtain ⟨⟨v9, e1⟩, -⟩ := hx
    cases e1
  · obtain ⟨⟨v9, e1⟩, u2, hI2⟩ := hx
    cases e1
    refine yw_st (st2 := [.int v9]) rfl ?_
    have hI := hI2
    refine y_base (cs := []) (z_I.nil _) ?_
    refine y_istore (lv' := [(6, .int v9), (5, .int (nI (7 * j))), (4, .ref (ad 70)), (3, .ref (ad 69)), (2, .ref (ad 52)), (1, .ref (ad 0)), (0, .ref (g.2.2 40))]) d_Lw_law_1136 (by decide) rfl ?_
    refine y_aload_n d_Lw_law_1138 rfl 4 rfl ?_
    refine y_aload_n d_Lw_law_1139 rfl 6 rfl ?_
    refine y_iload d_Lw_law_1140 1 rfl ?_
    refine y_iconst d_Lw_law_1142 (v := 1) (by decide) ?_
    refine y_iadd d_Lw_law_1143 (v := nI ((7 * j) + 1)) (nI_add _ _) ?_
    refine y_sld (v := zs g (7 * j + 1)) d_Lw_law_1144 (vp_in_nI (by omega) (by omega)) (by rw [nI_clamp (by omega)]; rfl) ?_
    refine yw_callVL (As := [.int (zs g (7 * j + 1))]) (rest := []) (ci := 12) rfl (fun wA hA => (IV.nil hA hI).rm) ln_Lw_264 w_im_Mm_treat w_se_Mm_treat ok_Lw_law_Mm_treat d_Lw_law_1145 (fun wA hA => K_Mm_treat (IV.nil hA hI) _) rfl rfl (Nat.le_of_ble_eq_true rfl) (by omega) (by omega) (fun wA1145 hA1145 E wB1145 hx => ?_) (fun wA1145 hA1145 v wB1145 hx => ?_)
    · obtain ⟨⟨v8, e1⟩, -⟩ := hx
      cases e1
    · obtain ⟨⟨v8, e1⟩, u2, hI2⟩ := hx
      cases e1
      refine yw_st (st2 := [.int v8]) rfl ?_
      have hI := hI2
      refine y_base (cs := []) (z_I.nil _) ?_
      refine y_istore (lv' := [(7, .int v8), (6, .int v9), (5, .int (nI (7 * j))), (4, .ref (ad 70)), (3, .ref (ad 69)), (2, .ref (ad 52)), (1, .ref (ad 0)), (0, .ref (g.2.2 40))]) d_Lw_law_1148 (by decide) rfl ?_
      refine y_goto (tgt := 1808) d_Lw_law_1150 (by decide) ?_
      refine y_lv (lv' := [(5, .int (nI (7 * j))), (4, .ref (ad 70)), (3, .ref (ad 69)), (2, .ref (ad 52)), (1, .ref (ad 0)), (0, .ref (g.2.2 40))]) [2, 3, 4, 5, 6, 7] rfl ?_
      refine y_end (fun wC hC => ?_)
      exact LC_next (IV.nil hC hI) hR hJ hL ih (by omega) (by omega)
theorem d_Lw_law_1153 : decode code 1153 = .ok (.aload_n 1, 1) := by decide +kernel
theorem d_Lw_law_1154 : decode code 1154 = .ok (.aload_n 0, 1) := by decide +kernel
theorem d_Lw_law_1155 : decode code 1155 = .ok (.iload 5, 2) := by decide +kernel
theorem d_Lw_law_1157 : decode code 1157 = .ok (.iconst 1, 1) := by decide +kernel
theorem d_Lw_law_1158 : decode code 1158 = .ok (.iadd, 1) := by decide +kernel
theorem d_Lw_law_1159 : decode code 1159 = .ok (.iaload, 1) := by decide +kernel
theorem d_Lw_law_1160 : decode code 1160 = .ok (.aload_n 3, 1) := by decide +kernel
theorem d_Lw_law_1161 : decode code 1161 = .ok (.invokestatic 265, 3) := by decide +kernel
theorem ok_Lw_law_Lw_minutes : z_okX M_Lw_law M_Lw_minutes 3 := ⟨z_mem (i := 1151) (by decide +kernel) (by decide +kernel), by decide, ⟨by decide +kernel, by decide +kernel, by decide +kernel⟩, ⟨by decide, by decide⟩, z_mem (i := 57) (by decide +kernel) (by decide +kernel), rfl⟩
theorem ln_Lw_265 : Cond.methodLink "IronpourLaw" 265 M_Lw_minutes.1 ∈ z_gw := z_mem (i := 1149) (by decide +kernel) (by decide +kernel)
theorem w_st_Lw_minutes : Cond.static M_Lw_minutes.1 ∈ z_gw := z_mem (i := 1150) (by decide +kernel) (by decide +kernel)
theorem d_Lw_law_1164 : decode code 1164 = .ok (.istore 6, 2) := by decide +kernel
theorem d_Lw_law_1166 : decode code 1166 = .ok (.aload_n 2, 1) := by decide +kernel
theorem d_Lw_law_1167 : decode code 1167 = .ok (.aload_n 0, 1) := by decide +kernel
theorem d_Lw_law_1168 : decode code 1168 = .ok (.iload 5, 2) := by decide +kernel
theorem d_Lw_law_1170 : decode code 1170 = .ok (.iconst 1, 1) := by decide +kernel
theorem d_Lw_law_1171 : decode code 1171 = .ok (.iadd, 1) := by decide +kernel
theorem d_Lw_law_1172 : decode code 1172 = .ok (.iaload, 1) := by decide +kernel
theorem d_Lw_law_1173 : decode code 1173 = .ok (.invokevirtual 267, 3) := by decide +kernel
theorem ok_Lw_law_Mm_minutes : z_ok M_Lw_law M_Mm_minutes 1 := ⟨z_mem (i := 1924) (by decide +kernel) (by decide +kernel), rfl, ⟨by decide +kernel, by decide +kernel, by decide +kernel⟩, ⟨by decide, by decide⟩, z_mem (i := 71) (by decide +kernel) (by decide +kernel), rfl⟩
theorem ln_Lw_267 : Cond.methodLink "IronpourLaw" 267 M_Mm_minutes.1 ∈ z_gw := z_mem (i := 1921) (by decide +kernel) (by decide +kernel)
theorem w_im_Mm_minutes : Cond.instanceMethod M_Mm_minutes.1 ∈ z_gw := z_mem (i := 1922) (by decide +kernel) (by decide +kernel)
theorem w_se_Mm_minutes : Cond.selects M_Mm_minutes.1.cls M_Mm_minutes.1 M_Mm_minutes.1 ∈ z_gw := z_mem (i := 1923) (by decide +kernel) (by decide +kernel)
theorem d_Lw_law_1176 : decode code 1176 = .ok (.istore 7, 2) := by decide +kernel
theorem d_Lw_law_1178 : decode code 1178 = .ok (.goto 630, 3) := by decide +kernel
set_option maxHeartbeats 4000000 in
set_option maxRecDepth 100000 in
theorem LC_minutes {g : zG} {ad : Nat → Nat} {t : zTT} {u : zNN} {w : zW} (hI : IV g ad t u w) (hR : REL t) {j r : Nat} (hJ : 7 * j + 7 ≤ g.2.2 41) (hL : g.2.2 41 < 2 ^ 31) (ih : LWI g ad j r) : DW g M_Lw_law lwQ w 1153 [(5, .int (nI (7 * j))), (4, .ref (ad 70)), (3, .ref (ad 69)), (2, .ref (ad 52)), (1, .ref (ad 0)), (0, .ref (g.2.2 40))] [] (100 * (r + 1)) (1000 * (r + 1)) := by
  refine y_base (cs := []) (z_I.nil w) ?_
  refine y_aload_n d_Lw_law_1153 rfl 4 rfl ?_
  refine y_aload_n d_Lw_law_1154 rfl 5 rfl ?_
  refine y_iload d_Lw_law_1155 0 rfl ?_
  refine y_iconst d_Lw_law_1157 (v := 1) (by decide) ?_
  refine y_iadd d_Lw_law_1158 (v := nI ((7 * j) + 1)) (nI_add _ _) ?_
  refine y_sld (v := zs g (7 * j + 1)) d_Lw_law_1159 (vp_in_nI (by omega) (by omega)) (by rw [nI_clamp (by omega)]; rfl) ?_
  refine y_aload_n d_Lw_law_1160 rfl 2 rfl ?_
  refine yw_callSX (As := [.ref (ad 0), .int (zs g (7 * j + 1)), .ref (ad 69)]) (rest := []) ln_Lw_265 w_st_Lw_minutes ok_Lw_law_Lw_minutes d_Lw_law_1161 (fun wA hA => W_minutes (IV.nil hA hI) _) rfl rfl (Nat.le_of_ble_eq_true rfl) (by omega) (by omega) (fun wA1161 hA1161 E wB1161 hx => ?_) (fun wA1161 hA1161 v wB1161 hx => ?_)
  · obtain ⟨⟨v9, e1⟩, -⟩ := hx
    cases e1
  · obtain ⟨⟨v9, e1⟩, u2, hI2⟩ := hx
    cases e1
    refine yw_st (st2 := [.int v9]) rfl ?_
    have hI := hI2
    refine y_base (cs := []) (z_I.nil _) ?_
    refine y_istore (lv' := [(6, .int v9), (5, .int (nI (7 * j))), (4, .ref (ad 70)), (3, .ref (ad 69)), (2, .ref (ad 52)), (1, .ref (ad 0)), (0, .ref (g.2.2 40))]) d_Lw_law_1164 (by decide) rfl ?_
    refine y_aload_n d_Lw_law_1166 rfl 4 rfl ?_
    refine y_aload_n d_Lw_law_1167 rfl 6 rfl ?_
    refine y_iload d_Lw_law_1168 1 rfl ?_
    refine y_iconst d_Lw_law_1170 (v := 1) (by decide) ?_
    refine y_iadd d_Lw_law_1171 (v := nI ((7 * j) + 1)) (nI_add _ _) ?_
    refine y_sld (v := zs g (7 * j + 1)) d_Lw_law_1172 (vp_in_nI (by omega) (by omega)) (by rw [nI_clamp (by omega)]; rfl) ?_
    refine yw_callVL (As := [.int (zs g (7 * j + 1))]) (rest := []) (ci := 12) rfl (fun wA hA => (IV.nil hA hI).rm) ln_Lw_267 w_im_Mm_minutes w_se_Mm_minutes ok_Lw_law_Mm_minutes d_Lw_law_1173 (fun wA hA => K_Mm_minutes (IV.nil hA hI) _) rfl rfl (Nat.le_of_ble_eq_true rfl) (by omega) (by omega) (fun wA1173 hA1173 E wB1173 hx => ?_) (fun wA1173 hA1173 v wB1173 hx => ?_)
    · obtain ⟨⟨v8, e1⟩, -⟩ := hx
      cases e1
    · obtain ⟨⟨v8, e1⟩, u2, hI2⟩ := hx
      cases e1
      refine yw_st (st2 := [.int v8]) rfl ?_
      have hI := hI2
      refine y_base (cs := []) (z_I.nil _) ?_
      refine y_istore (lv' := [(7, .int v8), (6, .int v9), (5, .int (nI (7 * j))), (4, .ref (ad 70)), (3, .ref (ad 69)), (2, .ref (ad 52)), (1, .ref (ad 0)), (0, .ref (g.2.2 40))]) d_Lw_law_1176 (by decide) rfl ?_
      refine y_goto (tgt := 1808) d_Lw_law_1178 (by decide) ?_
      refine y_lv (lv' := [(5, .int (nI (7 * j))), (4, .ref (ad 70)), (3, .ref (ad 69)), (2, .ref (ad 52)), (1, .ref (ad 0)), (0, .ref (g.2.2 40))]) [2, 3, 4, 5, 6, 7] rfl ?_
      refine y_end (fun wC hC => ?_)
      exact LC_next (IV.nil hC hI) hR hJ hL ih (by omega) (by omega)
theorem d_Lw_law_1181 : decode code 1181 = .ok (.aload_n 1, 1) := by decide +kernel
theorem d_Lw_law_1182 : decode code 1182 = .ok (.aload_n 0, 1) := by decide +kernel
theorem d_Lw_law_1183 : decode code 1183 = .ok (.iload 5, 2) := by decide +kernel
theorem d_Lw_law_1185 : decode code 1185 = .ok (.iconst 1, 1) := by decide +kernel
theorem d_Lw_law_1186 : decode code 1186 = .ok (.iadd, 1) := by decide +kernel
theorem d_Lw_law_1187 : decode code 1187 = .ok (.iaload, 1) := by decide +kernel
theorem d_Lw_law_1188 : decode code 1188 = .ok (.i2c, 1) := by decide +kernel
theorem d_Lw_law_1189 : decode code 1189 = .ok (.aload_n 3, 1) := by decide +kernel
theorem d_Lw_law_1190 : decode code 1190 = .ok (.invokestatic 268, 3) := by decide +kernel
theorem ok_Lw_law_Lw_ladle : z_okX M_Lw_law M_Lw_ladle 3 := ⟨z_mem (i := 1165) (by decide +kernel) (by decide +kernel), by decide, ⟨by decide +kernel, by decide +kernel, by decide +kernel⟩, ⟨by decide, by decide⟩, z_mem (i := 57) (by decide +kernel) (by decide +kernel), rfl⟩
theorem ln_Lw_268 : Cond.methodLink "IronpourLaw" 268 M_Lw_ladle.1 ∈ z_gw := z_mem (i := 1163) (by decide +kernel) (by decide +kernel)
theorem w_st_Lw_ladle : Cond.static M_Lw_ladle.1 ∈ z_gw := z_mem (i := 1164) (by decide +kernel) (by decide +kernel)
theorem d_Lw_law_1193 : decode code 1193 = .ok (.istore 6, 2) := by decide +kernel
theorem d_Lw_law_1195 : decode code 1195 = .ok (.aload_n 2, 1) := by decide +kernel
theorem d_Lw_law_1196 : decode code 1196 = .ok (.aload_n 0, 1) := by decide +kernel
theorem d_Lw_law_1197 : decode code 1197 = .ok (.iload 5, 2) := by decide +kernel
theorem d_Lw_law_1199 : decode code 1199 = .ok (.iconst 1, 1) := by decide +kernel
theorem d_Lw_law_1200 : decode code 1200 = .ok (.iadd, 1) := by decide +kernel
theorem d_Lw_law_1201 : decode code 1201 = .ok (.iaload, 1) := by decide +kernel
theorem d_Lw_law_1202 : decode code 1202 = .ok (.i2c, 1) := by decide +kernel
theorem d_Lw_law_1203 : decode code 1203 = .ok (.invokevirtual 270, 3) := by decide +kernel
theorem ok_Lw_law_Mm_ladle : z_ok M_Lw_law M_Mm_ladle 1 := ⟨z_mem (i := 1928) (by decide +kernel) (by decide +kernel), rfl, ⟨by decide +kernel, by decide +kernel, by decide +kernel⟩, ⟨by decide, by decide⟩, z_mem (i := 71) (by decide +kernel) (by decide +kernel), rfl⟩
theorem ln_Lw_270 : Cond.methodLink "IronpourLaw" 270 M_Mm_ladle.1 ∈ z_gw := z_mem (i := 1925) (by decide +kernel) (by decide +kernel)
theorem w_im_Mm_ladle : Cond.instanceMethod M_Mm_ladle.1 ∈ z_gw := z_mem (i := 1926) (by decide +kernel) (by decide +kernel)
theorem w_se_Mm_ladle : Cond.selects M_Mm_ladle.1.cls M_Mm_ladle.1 M_Mm_ladle.1 ∈ z_gw := z_mem (i := 1927) (by decide +kernel) (by decide +kernel)
theorem d_Lw_law_1206 : decode code 1206 = .ok (.istore 7, 2) := by decide +kernel
theorem d_Lw_law_1208 : decode code 1208 = .ok (.goto 600, 3) := by decide +kernel
set_option maxHeartbeats 4000000 in
set_option maxRecDepth 100000 in
theorem LC_ladle {g : zG} {ad : Nat → Nat} {t : zTT} {u : zNN} {w : zW} (hI : IV g ad t u w) (hR : REL t) {j r : Nat} (hJ : 7 * j + 7 ≤ g.2.2 41) (hL : g.2.2 41 < 2 ^ 31) (ih : LWI g ad j r) : DW g M_Lw_law lwQ w 1181 [(5, .int (nI (7 * j))), (4, .ref (ad 70)), (3, .ref (ad 69)), (2, .ref (ad 52)), (1, .ref (ad 0)), (0, .ref (g.2.2 40))] [] (100 * (r + 1)) (1000 * (r + 1)) := by
  refine y_base (cs := []) (z_I.nil w) ?_
  refine y_aload_n d_Lw_law_1181 rfl 4 rfl ?_
  refine y_aload_n d_Lw_law_1182 rfl 5 rfl ?_
  refine y_iload d_Lw_law_1183 0 rfl ?_
  refine y_iconst d_Lw_law_1185 (v := 1) (by decide) ?_
  refine y_iadd d_Lw_law_1186 (v := nI ((7 * j) + 1)) (nI_add _ _) ?_
  refine y_sld (v := zs g (7 * j + 1)) d_Lw_law_1187 (vp_in_nI (by omega) (by omega)) (by rw [nI_clamp (by omega)]; rfl) ?_
  refine y_i2c d_Lw_law_1188 (v := zc g (7 * j + 1)) rfl ?_
  refine y_aload_n d_Lw_law_1189 rfl 2 rfl ?_
  refine yw_callSX (As := [.ref (ad 0), .int (zc g (7 * j + 1)), .ref (ad 69)]) (rest := []) ln_Lw_268 w_st_Lw_ladle ok_Lw_law_Lw_ladle d_Lw_law_1190 (fun wA hA => W_ladle (IV.nil hA hI) _) rfl rfl (Nat.le_of_ble_eq_true rfl) (by omega) (by omega) (fun wA1190 hA1190 E wB1190 hx => ?_) (fun wA1190 hA1190 v wB1190 hx => ?_)
  · obtain ⟨⟨v9, e1⟩, -⟩ := hx
    cases e1
  · obtain ⟨⟨v9, e1⟩, u2, hI2⟩ := hx
    cases e1
    refine yw_st (st2 := [.int v9]) rfl ?_
    have hI := hI2
    refine y_base (cs := []) (z_I.nil _) ?_
    refine y_istore (lv' := [(6, .int v9), (5, .int (nI (7 * j))), (4, .ref (ad 70)), (3, .ref (ad 69)), (2, .ref (ad 52)), (1, .ref (ad 0)), (0, .ref (g.2.2 40))]) d_Lw_law_1193 (by decide) rfl ?_
    refine y_aload_n d_Lw_law_1195 rfl 4 rfl ?_
    refine y_aload_n d_Lw_law_1196 rfl 6 rfl ?_
    refine y_iload d_Lw_law_1197 1 rfl ?_
    refine y_iconst d_Lw_law_1199 (v := 1) (by decide) ?_
    refine y_iadd d_Lw_law_1200 (v := nI ((7 * j) + 1)) (nI_add _ _) ?_
    refine y_sld (v := zs g (7 * j + 1)) d_Lw_law_1201 (vp_in_nI (by omega) (by omega)) (by rw [nI_clamp (by omega)]; rfl) ?_
    refine y_i2c d_Lw_law_1202 (v := zc g (7 * j + 1)) rfl ?_
    refine yw_callVL (As := [.int (zc g (7 * j + 1))]) (rest := []) (ci := 12) rfl (fun wA hA => (IV.nil hA hI).rm) ln_Lw_270 w_im_Mm_ladle w_se_Mm_ladle ok_Lw_law_Mm_ladle d_Lw_law_1203 (fun wA hA => K_Mm_ladle (IV.nil hA hI) _) rfl rfl (Nat.le_of_ble_eq_true rfl) (by omega) (by omega) (fun wA1203 hA1203 E wB1203 hx => ?_) (fun wA1203 hA1203 v wB1203 hx => ?_)
    · obtain ⟨⟨v8, e1⟩, -⟩ := hx
      cases e1
    · obtain ⟨⟨v8, e1⟩, u2, hI2⟩ := hx
      cases e1
      refine yw_st (st2 := [.int v8]) rfl ?_
      have hI := hI2
      refine y_base (cs := []) (z_I.nil _) ?_
      refine y_istore (lv' := [(7, .int v8), (6, .int v9), (5, .int (nI (7 * j))), (4, .ref (ad 70)), (3, .ref (ad 69)), (2, .ref (ad 52)), (1, .ref (ad 0)), (0, .ref (g.2.2 40))]) d_Lw_law_1206 (by decide) rfl ?_
      refine y_goto (tgt := 1808) d_Lw_law_1208 (by decide) ?_
      refine y_lv (lv' := [(5, .int (nI (7 * j))), (4, .ref (ad 70)), (3, .ref (ad 69)), (2, .ref (ad 52)), (1, .ref (ad 0)), (0, .ref (g.2.2 40))]) [2, 3, 4, 5, 6, 7] rfl ?_
      refine y_end (fun wC hC => ?_)
      exact LC_next (IV.nil hC hI) hR hJ hL ih (by omega) (by omega)
theorem d_Lw_law_1211 : decode code 1211 = .ok (.aload_n 1, 1) := by decide +kernel
theorem d_Lw_law_1212 : decode code 1212 = .ok (.aload_n 3, 1) := by decide +kernel
theorem d_Lw_law_1213 : decode code 1213 = .ok (.invokestatic 271, 3) := by decide +kernel
theorem ok_Lw_law_Lw_pig : z_okX M_Lw_law M_Lw_pig 2 := ⟨z_mem (i := 1174) (by decide +kernel) (by decide +kernel), by decide, ⟨by decide +kernel, by decide +kernel, by decide +kernel⟩, ⟨by decide, by decide⟩, z_mem (i := 57) (by decide +kernel) (by decide +kernel), rfl⟩
theorem ln_Lw_271 : Cond.methodLink "IronpourLaw" 271 M_Lw_pig.1 ∈ z_gw := z_mem (i := 1172) (by decide +kernel) (by decide +kernel)
theorem w_st_Lw_pig : Cond.static M_Lw_pig.1 ∈ z_gw := z_mem (i := 1173) (by decide +kernel) (by decide +kernel)
theorem d_Lw_law_1216 : decode code 1216 = .ok (.istore 6, 2) := by decide +kernel
theorem d_Lw_law_1218 : decode code 1218 = .ok (.aload_n 2, 1) := by decide +kernel
theorem d_Lw_law_1219 : decode code 1219 = .ok (.invokevirtual 273, 3) := by decide +kernel
theorem ok_Lw_law_Mm_pig : z_ok M_Lw_law M_Mm_pig 0 := ⟨z_mem (i := 1933) (by decide +kernel) (by decide +kernel), rfl, ⟨by decide +kernel, by decide +kernel, by decide +kernel⟩, ⟨by decide, by decide⟩, z_mem (i := 71) (by decide +kernel) (by decide +kernel), rfl⟩
theorem ln_Lw_273 : Cond.methodLink "IronpourLaw" 273 M_Mm_pig.1 ∈ z_gw := z_mem (i := 1930) (by decide +kernel) (by decide +kernel)
theorem w_im_Mm_pig : Cond.instanceMethod M_Mm_pig.1 ∈ z_gw := z_mem (i := 1931) (by decide +kernel) (by decide +kernel)
theorem w_se_Mm_pig : Cond.selects M_Mm_pig.1.cls M_Mm_pig.1 M_Mm_pig.1 ∈ z_gw := z_mem (i := 1932) (by decide +kernel) (by decide +kernel)
theorem d_Lw_law_1222 : decode code 1222 = .ok (.istore 7, 2) := by decide +kernel
theorem d_Lw_law_1224 : decode code 1224 = .ok (.goto 584, 3) := by decide +kernel
set_option maxHeartbeats 4000000 in
set_option maxRecDepth 100000 in
theorem LC_pig {g : zG} {ad : Nat → Nat} {t : zTT} {u : zNN} {w : zW} (hI : IV g ad t u w) (hR : REL t) {j r : Nat} (hJ : 7 * j + 7 ≤ g.2.2 41) (hL : g.2.2 41 < 2 ^ 31) (ih : LWI g ad j r) : DW g M_Lw_law lwQ w 1211 [(5, .int (nI (7 * j))), (4, .ref (ad 70)), (3, .ref (ad 69)), (2, .ref (ad 52)), (1, .ref (ad 0)), (0, .ref (g.2.2 40))] [] (100 * (r + 1)) (1000 * (r + 1)) := by
  refine y_base (cs := []) (z_I.nil w) ?_
  refine y_aload_n d_Lw_law_1211 rfl 4 rfl ?_
  refine y_aload_n d_Lw_law_1212 rfl 2 rfl ?_
  refine yw_callSX (As := [.ref (ad 0), .ref (ad 69)]) (rest := []) ln_Lw_271 w_st_Lw_pig ok_Lw_law_Lw_pig d_Lw_law_1213 (fun wA hA => W_pig (IV.nil hA hI)) rfl rfl (Nat.le_of_ble_eq_true rfl) (by omega) (by omega) (fun wA1213 hA1213 E wB1213 hx => ?_) (fun wA1213 hA1213 v wB1213 hx => ?_)
  · obtain ⟨⟨v9, e1⟩, -⟩ := hx
    cases e1
  · obtain ⟨⟨v9, e1⟩, u2, hI2⟩ := hx
    cases e1
    refine yw_st (st2 := [.int v9]) rfl ?_
    have hI := hI2
    refine y_base (cs := []) (z_I.nil _) ?_
    refine y_istore (lv' := [(6, .int v9), (5, .int (nI (7 * j))), (4, .ref (ad 70)), (3, .ref (ad 69)), (2, .ref (ad 52)), (1, .ref (ad 0)), (0, .ref (g.2.2 40))]) d_Lw_law_1216 (by decide) rfl ?_
    refine y_aload_n d_Lw_law_1218 rfl 4 rfl ?_
    refine yw_callVL (As := []) (rest := []) (ci := 12) rfl (fun wA hA => (IV.nil hA hI).rm) ln_Lw_273 w_im_Mm_pig w_se_Mm_pig ok_Lw_law_Mm_pig d_Lw_law_1219 (fun wA hA => K_Mm_pig (IV.nil hA hI)) rfl rfl (Nat.le_of_ble_eq_true rfl) (by omega) (by omega) (fun wA1219 hA1219 E wB1219 hx => ?_) (fun wA1219 hA1219 v wB1219 hx => ?_)
    · obtain ⟨⟨v8, e1⟩, -⟩ := hx
      cases e1
    · obtain ⟨⟨v8, e1⟩, u2, hI2⟩ := hx
      cases e1
      refine yw_st (st2 := [.int v8]) rfl ?_
      have hI := hI2
      refine y_base (cs := []) (z_I.nil _) ?_
      refine y_istore (lv' := [(7, .int v8), (6, .int v9), (5, .int (nI (7 * j))), (4, .ref (ad 70)), (3, .ref (ad 69)), (2, .ref (ad 52)), (1, .ref (ad 0)), (0, .ref (g.2.2 40))]) d_Lw_law_1222 (by decide) rfl ?_
      refine y_goto (tgt := 1808) d_Lw_law_1224 (by decide) ?_
      refine y_lv (lv' := [(5, .int (nI (7 * j))), (4, .ref (ad 70)), (3, .ref (ad 69)), (2, .ref (ad 52)), (1, .ref (ad 0)), (0, .ref (g.2.2 40))]) [2, 3, 4, 5, 6, 7] rfl ?_
      refine y_end (fun wC hC => ?_)
      exact LC_next (IV.nil hC hI) hR hJ hL ih (by omega) (by omega)
theorem d_Lw_law_1227 : decode code 1227 = .ok (.aload_n 1, 1) := by decide +kernel
theorem d_Lw_law_1228 : decode code 1228 = .ok (.aload_n 0, 1) := by decide +kernel
theorem d_Lw_law_1229 : decode code 1229 = .ok (.iload 5, 2) := by decide +kernel
theorem d_Lw_law_1231 : decode code 1231 = .ok (.iconst 1, 1) := by decide +kernel
theorem d_Lw_law_1232 : decode code 1232 = .ok (.iadd, 1) := by decide +kernel
theorem d_Lw_law_1233 : decode code 1233 = .ok (.iaload, 1) := by decide +kernel
theorem d_Lw_law_1234 : decode code 1234 = .ok (.i2c, 1) := by decide +kernel
theorem d_Lw_law_1235 : decode code 1235 = .ok (.aload_n 3, 1) := by decide +kernel
theorem d_Lw_law_1236 : decode code 1236 = .ok (.invokestatic 274, 3) := by decide +kernel
theorem ok_Lw_law_Lw_pool : z_okX M_Lw_law M_Lw_pool 3 := ⟨z_mem (i := 1181) (by decide +kernel) (by decide +kernel), by decide, ⟨by decide +kernel, by decide +kernel, by decide +kernel⟩, ⟨by decide, by decide⟩, z_mem (i := 57) (by decide +kernel) (by decide +kernel), rfl⟩
theorem ln_Lw_274 : Cond.methodLink "IronpourLaw" 274 M_Lw_pool.1 ∈ z_gw := z_mem (i := 1179) (by decide +kernel) (by decide +kernel)
theorem w_st_Lw_pool : Cond.static M_Lw_pool.1 ∈ z_gw := z_mem (i := 1180) (by decide +kernel) (by decide +kernel)
theorem d_Lw_law_1239 : decode code 1239 = .ok (.istore 6, 2) := by decide +kernel
theorem d_Lw_law_1241 : decode code 1241 = .ok (.aload_n 2, 1) := by decide +kernel
theorem d_Lw_law_1242 : decode code 1242 = .ok (.aload_n 0, 1) := by decide +kernel
theorem d_Lw_law_1243 : decode code 1243 = .ok (.iload 5, 2) := by decide +kernel
theorem d_Lw_law_1245 : decode code 1245 = .ok (.iconst 1, 1) := by decide +kernel
theorem d_Lw_law_1246 : decode code 1246 = .ok (.iadd, 1) := by decide +kernel
theorem d_Lw_law_1247 : decode code 1247 = .ok (.iaload, 1) := by decide +kernel
theorem d_Lw_law_1248 : decode code 1248 = .ok (.i2c, 1) := by decide +kernel
theorem d_Lw_law_1249 : decode code 1249 = .ok (.invokevirtual 276, 3) := by decide +kernel
theorem ok_Lw_law_Mm_pool : z_ok M_Lw_law M_Mm_pool 1 := ⟨z_mem (i := 1937) (by decide +kernel) (by decide +kernel), rfl, ⟨by decide +kernel, by decide +kernel, by decide +kernel⟩, ⟨by decide, by decide⟩, z_mem (i := 71) (by decide +kernel) (by decide +kernel), rfl⟩
theorem ln_Lw_276 : Cond.methodLink "IronpourLaw" 276 M_Mm_pool.1 ∈ z_gw := z_mem (i := 1934) (by decide +kernel) (by decide +kernel)
theorem w_im_Mm_pool : Cond.instanceMethod M_Mm_pool.1 ∈ z_gw := z_mem (i := 1935) (by decide +kernel) (by decide +kernel)
theorem w_se_Mm_pool : Cond.selects M_Mm_pool.1.cls M_Mm_pool.1 M_Mm_pool.1 ∈ z_gw := z_mem (i := 1936) (by decide +kernel) (by decide +kernel)
theorem d_Lw_law_1252 : decode code 1252 = .ok (.istore 7, 2) := by decide +kernel
theorem d_Lw_law_1254 : decode code 1254 = .ok (.goto 554, 3) := by decide +kernel
set_option maxHeartbeats 4000000 in
set_option maxRecDepth 100000 in
theorem LC_pool {g : zG} {ad : Nat → Nat} {t : zTT} {u : zNN} {w : zW} (hI : IV g ad t u w) (hR : REL t) {j r : Nat} (hJ : 7 * j + 7 ≤ g.2.2 41) (hL : g.2.2 41 < 2 ^ 31) (ih : LWI g ad j r) : DW g M_Lw_law lwQ w 1227 [(5, .int (nI (7 * j))), (4, .ref (ad 70)), (3, .ref (ad 69)), (2, .ref (ad 52)), (1, .ref (ad 0)), (0, .ref (g.2.2 40))] [] (100 * (r + 1)) (1000 * (r + 1)) := by
  refine y_base (cs := []) (z_I.nil w) ?_
  refine y_aload_n d_Lw_law_1227 rfl 4 rfl ?_
  refine y_aload_n d_Lw_law_1228 rfl 5 rfl ?_
  refine y_iload d_Lw_law_1229 0 rfl ?_
  refine y_iconst d_Lw_law_1231 (v := 1) (by decide) ?_
  refine y_iadd d_Lw_law_1232 (v := nI ((7 * j) + 1)) (nI_add _ _) ?_
  refine y_sld (v := zs g (7 * j + 1)) d_Lw_law_1233 (vp_in_nI (by omega) (by omega)) (by rw [nI_clamp (by omega)]; rfl) ?_
  refine y_i2c d_Lw_law_1234 (v := zc g (7 * j + 1)) rfl ?_
  refine y_aload_n d_Lw_law_1235 rfl 2 rfl ?_
  refine yw_callSX (As := [.ref (ad 0), .int (zc g (7 * j + 1)), .ref (ad 69)]) (rest := []) ln_Lw_274 w_st_Lw_pool ok_Lw_law_Lw_pool d_Lw_law_1236 (fun wA hA => W_pool (IV.nil hA hI) _) rfl rfl (Nat.le_of_ble_eq_true rfl) (by omega) (by omega) (fun wA1236 hA1236 E wB1236 hx => ?_) (fun wA1236 hA1236 v wB1236 hx => ?_)
  · obtain ⟨⟨v9, e1⟩, -⟩ := hx
    cases e1
  · obtain ⟨⟨v9, e1⟩, u2, hI2⟩ := hx
    cases e1
    refine yw_st (st2 := [.int v9]) rfl ?_
    have hI := hI2
    refine y_base (cs := []) (z_I.nil _) ?_
    refine y_istore (lv' := [(6, .int v9), (5, .int (nI (7 * j))), (4, .ref (ad 70)), (3, .ref (ad 69)), (2, .ref (ad 52)), (1, .ref (ad 0)), (0, .ref (g.2.2 40))]) d_Lw_law_1239 (by decide) rfl ?_
    refine y_aload_n d_Lw_law_1241 rfl 4 rfl ?_
    refine y_aload_n d_Lw_law_1242 rfl 6 rfl ?_
    refine y_iload d_Lw_law_1243 1 rfl ?_
    refine y_iconst d_Lw_law_1245 (v := 1) (by decide) ?_
    refine y_iadd d_Lw_law_1246 (v := nI ((7 * j) + 1)) (nI_add _ _) ?_
    refine y_sld (v := zs g (7 * j + 1)) d_Lw_law_1247 (vp_in_nI (by omega) (by omega)) (by rw [nI_clamp (by omega)]; rfl) ?_
    refine y_i2c d_Lw_law_1248 (v := zc g (7 * j + 1)) rfl ?_
    refine yw_callVL (As := [.int (zc g (7 * j + 1))]) (rest := []) (ci := 12) rfl (fun wA hA => (IV.nil hA hI).rm) ln_Lw_276 w_im_Mm_pool w_se_Mm_pool ok_Lw_law_Mm_pool d_Lw_law_1249 (fun wA hA => K_Mm_pool (IV.nil hA hI) _) rfl rfl (Nat.le_of_ble_eq_true rfl) (by omega) (by omega) (fun wA1249 hA1249 E wB1249 hx => ?_) (fun wA1249 hA1249 v wB1249 hx => ?_)
    · obtain ⟨⟨v8, e1⟩, -⟩ := hx
      cases e1
    · obtain ⟨⟨v8, e1⟩, u2, hI2⟩ := hx
      cases e1
      refine yw_st (st2 := [.int v8]) rfl ?_
      have hI := hI2
      refine y_base (cs := []) (z_I.nil _) ?_
      refine y_istore (lv' := [(7, .int v8), (6, .int v9), (5, .int (nI (7 * j))), (4, .ref (ad 70)), (3, .ref (ad 69)), (2, .ref (ad 52)), (1, .ref (ad 0)), (0, .ref (g.2.2 40))]) d_Lw_law_1252 (by decide) rfl ?_
      refine y_goto (tgt := 1808) d_Lw_law_1254 (by decide) ?_
      refine y_lv (lv' := [(5, .int (nI (7 * j))), (4, .ref (ad 70)), (3, .ref (ad 69)), (2, .ref (ad 52)), (1, .ref (ad 0)), (0, .ref (g.2.2 40))]) [2, 3, 4, 5, 6, 7] rfl ?_
      refine y_end (fun wC hC => ?_)
      exact LC_next (IV.nil hC hI) hR hJ hL ih (by omega) (by omega)
theorem d_Lw_law_1257 : decode code 1257 = .ok (.aload_n 1, 1) := by decide +kernel
theorem d_Lw_law_1258 : decode code 1258 = .ok (.aload_n 0, 1) := by decide +kernel
theorem d_Lw_law_1259 : decode code 1259 = .ok (.iload 5, 2) := by decide +kernel
theorem d_Lw_law_1261 : decode code 1261 = .ok (.iconst 1, 1) := by decide +kernel
theorem d_Lw_law_1262 : decode code 1262 = .ok (.iadd, 1) := by decide +kernel
theorem d_Lw_law_1263 : decode code 1263 = .ok (.iaload, 1) := by decide +kernel
theorem d_Lw_law_1264 : decode code 1264 = .ok (.i2c, 1) := by decide +kernel
theorem d_Lw_law_1265 : decode code 1265 = .ok (.aload_n 0, 1) := by decide +kernel
theorem d_Lw_law_1266 : decode code 1266 = .ok (.iload 5, 2) := by decide +kernel
theorem d_Lw_law_1268 : decode code 1268 = .ok (.iconst 2, 1) := by decide +kernel
theorem d_Lw_law_1269 : decode code 1269 = .ok (.iadd, 1) := by decide +kernel
theorem d_Lw_law_1270 : decode code 1270 = .ok (.iaload, 1) := by decide +kernel
theorem d_Lw_law_1271 : decode code 1271 = .ok (.i2c, 1) := by decide +kernel
theorem d_Lw_law_1272 : decode code 1272 = .ok (.aload_n 3, 1) := by decide +kernel
theorem d_Lw_law_1273 : decode code 1273 = .ok (.invokestatic 277, 3) := by decide +kernel
theorem ok_Lw_law_Lw_poolHas : z_okX M_Lw_law M_Lw_poolHas 4 := ⟨z_mem (i := 1189) (by decide +kernel) (by decide +kernel), by decide, ⟨by decide +kernel, by decide +kernel, by decide +kernel⟩, ⟨by decide, by decide⟩, z_mem (i := 57) (by decide +kernel) (by decide +kernel), rfl⟩
theorem ln_Lw_277 : Cond.methodLink "IronpourLaw" 277 M_Lw_poolHas.1 ∈ z_gw := z_mem (i := 1187) (by decide +kernel) (by decide +kernel)
theorem w_st_Lw_poolHas : Cond.static M_Lw_poolHas.1 ∈ z_gw := z_mem (i := 1188) (by decide +kernel) (by decide +kernel)
theorem d_Lw_law_1276 : decode code 1276 = .ok (.istore 6, 2) := by decide +kernel
theorem d_Lw_law_1278 : decode code 1278 = .ok (.aload_n 2, 1) := by decide +kernel
theorem d_Lw_law_1279 : decode code 1279 = .ok (.aload_n 0, 1) := by decide +kernel
theorem d_Lw_law_1280 : decode code 1280 = .ok (.iload 5, 2) := by decide +kernel
theorem d_Lw_law_1282 : decode code 1282 = .ok (.iconst 1, 1) := by decide +kernel
theorem d_Lw_law_1283 : decode code 1283 = .ok (.iadd, 1) := by decide +kernel
theorem d_Lw_law_1284 : decode code 1284 = .ok (.iaload, 1) := by decide +kernel
theorem d_Lw_law_1285 : decode code 1285 = .ok (.i2c, 1) := by decide +kernel
theorem d_Lw_law_1286 : decode code 1286 = .ok (.aload_n 0, 1) := by decide +kernel
theorem d_Lw_law_1287 : decode code 1287 = .ok (.iload 5, 2) := by decide +kernel
theorem d_Lw_law_1289 : decode code 1289 = .ok (.iconst 2, 1) := by decide +kernel
theorem d_Lw_law_1290 : decode code 1290 = .ok (.iadd, 1) := by decide +kernel
theorem d_Lw_law_1291 : decode code 1291 = .ok (.iaload, 1) := by decide +kernel
theorem d_Lw_law_1292 : decode code 1292 = .ok (.i2c, 1) := by decide +kernel
theorem d_Lw_law_1293 : decode code 1293 = .ok (.invokevirtual 280, 3) := by decide +kernel
theorem ok_Lw_law_Mm_poolHas : z_ok M_Lw_law M_Mm_poolHas 2 := ⟨z_mem (i := 1944) (by decide +kernel) (by decide +kernel), rfl, ⟨by decide +kernel, by decide +kernel, by decide +kernel⟩, ⟨by decide, by decide⟩, z_mem (i := 71) (by decide +kernel) (by decide +kernel), rfl⟩
theorem ln_Lw_280 : Cond.methodLink "IronpourLaw" 280 M_Mm_poolHas.1 ∈ z_gw := z_mem (i := 1941) (by decide +kernel) (by decide +kernel)
theorem w_im_Mm_poolHas : Cond.instanceMethod M_Mm_poolHas.1 ∈ z_gw := z_mem (i := 1942) (by decide +kernel) (by decide +kernel)
theorem w_se_Mm_poolHas : Cond.selects M_Mm_poolHas.1.cls M_Mm_poolHas.1 M_Mm_poolHas.1 ∈ z_gw := z_mem (i := 1943) (by decide +kernel) (by decide +kernel)
theorem d_Lw_law_1296 : decode code 1296 = .ok (.istore 7, 2) := by decide +kernel
theorem d_Lw_law_1298 : decode code 1298 = .ok (.goto 510, 3) := by decide +kernel
set_option maxHeartbeats 4000000 in
set_option maxRecDepth 100000 in
theorem LC_poolHas {g : zG} {ad : Nat → Nat} {t : zTT} {u : zNN} {w : zW} (hI : IV g ad t u w) (hR : REL t) {j r : Nat} (hJ : 7 * j + 7 ≤ g.2.2 41) (hL : g.2.2 41 < 2 ^ 31) (ih : LWI g ad j r) : DW g M_Lw_law lwQ w 1257 [(5, .int (nI (7 * j))), (4, .ref (ad 70)), (3, .ref (ad 69)), (2, .ref (ad 52)), (1, .ref (ad 0)), (0, .ref (g.2.2 40))] [] (100 * (r + 1)) (1000 * (r + 1)) := by
  refine y_base (cs := []) (z_I.nil w) ?_
  refine y_aload_n d_Lw_law_1257 rfl 4 rfl ?_
  refine y_aload_n d_Lw_law_1258 rfl 5 rfl ?_
  refine y_iload d_Lw_law_1259 0 rfl ?_
  refine y_iconst d_Lw_law_1261 (v := 1) (by decide) ?_
  refine y_iadd d_Lw_law_1262 (v := nI ((7 * j) + 1)) (nI_add _ _) ?_
  refine y_sld (v := zs g (7 * j + 1)) d_Lw_law_1263 (vp_in_nI (by omega) (by omega)) (by rw [nI_clamp (by omega)]; rfl) ?_
  refine y_i2c d_Lw_law_1264 (v := zc g (7 * j + 1)) rfl ?_
  refine y_aload_n d_Lw_law_1265 rfl 5 rfl ?_
  refine y_iload d_Lw_law_1266 0 rfl ?_
  refine y_iconst d_Lw_law_1268 (v := 2) (by decide) ?_
  refine y_iadd d_Lw_law_1269 (v := nI ((7 * j) + 2)) (nI_add _ _) ?_
  refine y_sld (v := zs g (7 * j + 2)) d_Lw_law_1270 (vp_in_nI (by omega) (by omega)) (by rw [nI_clamp (by omega)]; rfl) ?_
  refine y_i2c d_Lw_law_1271 (v := zc g (7 * j + 2)) rfl ?_
  refine y_aload_n d_Lw_law_1272 rfl 2 rfl ?_
  refine yw_callSX (As := [.ref (ad 0), .int (zc g (7 * j + 1)), .int (zc g (7 * j + 2)), .ref (ad 69)]) (rest := []) ln_Lw_277 w_st_Lw_poolHas ok_Lw_law_Lw_poolHas d_Lw_law_1273 (fun wA hA => W_poolHas (IV.nil hA hI) _ _) rfl rfl (Nat.le_of_ble_eq_true rfl) (by omega) (by omega) (fun wA1273 hA1273 E wB1273 hx => ?_) (fun wA1273 hA1273 v wB1273 hx => ?_)
  · obtain ⟨⟨v9, e1⟩, -⟩ := hx
    cases e1
  · obtain ⟨⟨v9, e1⟩, u2, hI2⟩ := hx
    cases e1
    refine yw_st (st2 := [.int v9]) rfl ?_
    have hI := hI2
    refine y_base (cs := []) (z_I.nil _) ?_
    refine y_istore (lv' := [(6, .int v9), (5, .int (nI (7 * j))), (4, .ref (ad 70)), (3, .ref (ad 69)), (2, .ref (ad 52)), (1, .ref (ad 0)), (0, .ref (g.2.2 40))]) d_Lw_law_1276 (by decide) rfl ?_
    refine y_aload_n d_Lw_law_1278 rfl 4 rfl ?_
    refine y_aload_n d_Lw_law_1279 rfl 6 rfl ?_
    refine y_iload d_Lw_law_1280 1 rfl ?_
    refine y_iconst d_Lw_law_1282 (v := 1) (by decide) ?_
    refine y_iadd d_Lw_law_1283 (v := nI ((7 * j) + 1)) (nI_add _ _) ?_
    refine y_sld (v := zs g (7 * j + 1)) d_Lw_law_1284 (vp_in_nI (by omega) (by omega)) (by rw [nI_clamp (by omega)]; rfl) ?_
    refine y_i2c d_Lw_law_1285 (v := zc g (7 * j + 1)) rfl ?_
    refine y_aload_n d_Lw_law_1286 rfl 6 rfl ?_
    refine y_iload d_Lw_law_1287 1 rfl ?_
    refine y_iconst d_Lw_law_1289 (v := 2) (by decide) ?_
    refine y_iadd d_Lw_law_1290 (v := nI ((7 * j) + 2)) (nI_add _ _) ?_
    refine y_sld (v := zs g (7 * j + 2)) d_Lw_law_1291 (vp_in_nI (by omega) (by omega)) (by rw [nI_clamp (by omega)]; rfl) ?_
    refine y_i2c d_Lw_law_1292 (v := zc g (7 * j + 2)) rfl ?_
    refine yw_callVL (As := [.int (zc g (7 * j + 1)), .int (zc g (7 * j + 2))]) (rest := []) (ci := 12) rfl (fun wA hA => (IV.nil hA hI).rm) ln_Lw_280 w_im_Mm_poolHas w_se_Mm_poolHas ok_Lw_law_Mm_poolHas d_Lw_law_1293 (fun wA hA => K_Mm_poolHas (IV.nil hA hI) _ _) rfl rfl (Nat.le_of_ble_eq_true rfl) (by omega) (by omega) (fun wA1293 hA1293 E wB1293 hx => ?_) (fun wA1293 hA1293 v wB1293 hx => ?_)
    · obtain ⟨⟨v8, e1⟩, -⟩ := hx
      cases e1
    · obtain ⟨⟨v8, e1⟩, u2, hI2⟩ := hx
      cases e1
      refine yw_st (st2 := [.int v8]) rfl ?_
      have hI := hI2
      refine y_base (cs := []) (z_I.nil _) ?_
      refine y_istore (lv' := [(7, .int v8), (6, .int v9), (5, .int (nI (7 * j))), (4, .ref (ad 70)), (3, .ref (ad 69)), (2, .ref (ad 52)), (1, .ref (ad 0)), (0, .ref (g.2.2 40))]) d_Lw_law_1296 (by decide) rfl ?_
      refine y_goto (tgt := 1808) d_Lw_law_1298 (by decide) ?_
      refine y_lv (lv' := [(5, .int (nI (7 * j))), (4, .ref (ad 70)), (3, .ref (ad 69)), (2, .ref (ad 52)), (1, .ref (ad 0)), (0, .ref (g.2.2 40))]) [2, 3, 4, 5, 6, 7] rfl ?_
      refine y_end (fun wC hC => ?_)
      exact LC_next (IV.nil hC hI) hR hJ hL ih (by omega) (by omega)
theorem d_Lw_law_1301 : decode code 1301 = .ok (.aload_n 1, 1) := by decide +kernel
theorem d_Lw_law_1302 : decode code 1302 = .ok (.aload_n 0, 1) := by decide +kernel
theorem d_Lw_law_1303 : decode code 1303 = .ok (.iload 5, 2) := by decide +kernel
theorem d_Lw_law_1305 : decode code 1305 = .ok (.iconst 1, 1) := by decide +kernel
theorem d_Lw_law_1306 : decode code 1306 = .ok (.iadd, 1) := by decide +kernel
theorem d_Lw_law_1307 : decode code 1307 = .ok (.iaload, 1) := by decide +kernel
theorem d_Lw_law_1308 : decode code 1308 = .ok (.aload_n 0, 1) := by decide +kernel
theorem d_Lw_law_1309 : decode code 1309 = .ok (.iload 5, 2) := by decide +kernel
theorem d_Lw_law_1311 : decode code 1311 = .ok (.iconst 2, 1) := by decide +kernel
theorem d_Lw_law_1312 : decode code 1312 = .ok (.iadd, 1) := by decide +kernel
theorem d_Lw_law_1313 : decode code 1313 = .ok (.iaload, 1) := by decide +kernel
theorem d_Lw_law_1314 : decode code 1314 = .ok (.aload_n 0, 1) := by decide +kernel
theorem d_Lw_law_1315 : decode code 1315 = .ok (.iload 5, 2) := by decide +kernel
theorem d_Lw_law_1317 : decode code 1317 = .ok (.iconst 3, 1) := by decide +kernel
theorem d_Lw_law_1318 : decode code 1318 = .ok (.iadd, 1) := by decide +kernel
theorem d_Lw_law_1319 : decode code 1319 = .ok (.iaload, 1) := by decide +kernel
theorem d_Lw_law_1320 : decode code 1320 = .ok (.aload_n 0, 1) := by decide +kernel
theorem d_Lw_law_1321 : decode code 1321 = .ok (.iload 5, 2) := by decide +kernel
theorem d_Lw_law_1323 : decode code 1323 = .ok (.iconst 4, 1) := by decide +kernel
theorem d_Lw_law_1324 : decode code 1324 = .ok (.iadd, 1) := by decide +kernel
theorem d_Lw_law_1325 : decode code 1325 = .ok (.iaload, 1) := by decide +kernel
theorem d_Lw_law_1326 : decode code 1326 = .ok (.aload_n 0, 1) := by decide +kernel
theorem d_Lw_law_1327 : decode code 1327 = .ok (.iload 5, 2) := by decide +kernel
theorem d_Lw_law_1329 : decode code 1329 = .ok (.iconst 5, 1) := by decide +kernel
theorem d_Lw_law_1330 : decode code 1330 = .ok (.iadd, 1) := by decide +kernel
theorem d_Lw_law_1331 : decode code 1331 = .ok (.iaload, 1) := by decide +kernel
theorem d_Lw_law_1332 : decode code 1332 = .ok (.aload_n 0, 1) := by decide +kernel
theorem d_Lw_law_1333 : decode code 1333 = .ok (.iload 5, 2) := by decide +kernel
theorem d_Lw_law_1335 : decode code 1335 = .ok (.bipush 6, 2) := by decide +kernel
theorem d_Lw_law_1337 : decode code 1337 = .ok (.iadd, 1) := by decide +kernel
theorem d_Lw_law_1338 : decode code 1338 = .ok (.iaload, 1) := by decide +kernel
theorem d_Lw_law_1339 : decode code 1339 = .ok (.aload_n 3, 1) := by decide +kernel
theorem d_Lw_law_1340 : decode code 1340 = .ok (.invokestatic 281, 3) := by decide +kernel
theorem ok_Lw_law_Lw_leastCost : z_okX M_Lw_law M_Lw_leastCost 8 := ⟨z_mem (i := 1197) (by decide +kernel) (by decide +kernel), by decide, ⟨by decide +kernel, by decide +kernel, by decide +kernel⟩, ⟨by decide, by decide⟩, z_mem (i := 57) (by decide +kernel) (by decide +kernel), rfl⟩
theorem ln_Lw_281 : Cond.methodLink "IronpourLaw" 281 M_Lw_leastCost.1 ∈ z_gw := z_mem (i := 1195) (by decide +kernel) (by decide +kernel)
theorem w_st_Lw_leastCost : Cond.static M_Lw_leastCost.1 ∈ z_gw := z_mem (i := 1196) (by decide +kernel) (by decide +kernel)
theorem d_Lw_law_1343 : decode code 1343 = .ok (.istore 6, 2) := by decide +kernel
theorem d_Lw_law_1345 : decode code 1345 = .ok (.aload_n 2, 1) := by decide +kernel
theorem d_Lw_law_1346 : decode code 1346 = .ok (.aload_n 0, 1) := by decide +kernel
theorem d_Lw_law_1347 : decode code 1347 = .ok (.iload 5, 2) := by decide +kernel
theorem d_Lw_law_1349 : decode code 1349 = .ok (.iconst 1, 1) := by decide +kernel
theorem d_Lw_law_1350 : decode code 1350 = .ok (.iadd, 1) := by decide +kernel
theorem d_Lw_law_1351 : decode code 1351 = .ok (.iaload, 1) := by decide +kernel
theorem d_Lw_law_1352 : decode code 1352 = .ok (.aload_n 0, 1) := by decide +kernel
theorem d_Lw_law_1353 : decode code 1353 = .ok (.iload 5, 2) := by decide +kernel
theorem d_Lw_law_1355 : decode code 1355 = .ok (.iconst 2, 1) := by decide +kernel
theorem d_Lw_law_1356 : decode code 1356 = .ok (.iadd, 1) := by decide +kernel
theorem d_Lw_law_1357 : decode code 1357 = .ok (.iaload, 1) := by decide +kernel
theorem d_Lw_law_1358 : decode code 1358 = .ok (.aload_n 0, 1) := by decide +kernel
theorem d_Lw_law_1359 : decode code 1359 = .ok (.iload 5, 2) := by decide +kernel
theorem d_Lw_law_1361 : decode code 1361 = .ok (.iconst 3, 1) := by decide +kernel
theorem d_Lw_law_1362 : decode code 1362 = .ok (.iadd, 1) := by decide +kernel
theorem d_Lw_law_1363 : decode code 1363 = .ok (.iaload, 1) := by decide +kernel
theorem d_Lw_law_1364 : decode code 1364 = .ok (.aload_n 0, 1) := by decide +kernel
theorem d_Lw_law_1365 : decode code 1365 = .ok (.iload 5, 2) := by decide +kernel
theorem d_Lw_law_1367 : decode code 1367 = .ok (.iconst 4, 1) := by decide +kernel
theorem d_Lw_law_1368 : decode code 1368 = .ok (.iadd, 1) := by decide +kernel
theorem d_Lw_law_1369 : decode code 1369 = .ok (.iaload, 1) := by decide +kernel
theorem d_Lw_law_1370 : decode code 1370 = .ok (.aload_n 0, 1) := by decide +kernel
theorem d_Lw_law_1371 : decode code 1371 = .ok (.iload 5, 2) := by decide +kernel
theorem d_Lw_law_1373 : decode code 1373 = .ok (.iconst 5, 1) := by decide +kernel
theorem d_Lw_law_1374 : decode code 1374 = .ok (.iadd, 1) := by decide +kernel
theorem d_Lw_law_1375 : decode code 1375 = .ok (.iaload, 1) := by decide +kernel
theorem d_Lw_law_1376 : decode code 1376 = .ok (.aload_n 0, 1) := by decide +kernel
theorem d_Lw_law_1377 : decode code 1377 = .ok (.iload 5, 2) := by decide +kernel
theorem d_Lw_law_1379 : decode code 1379 = .ok (.bipush 6, 2) := by decide +kernel
theorem d_Lw_law_1381 : decode code 1381 = .ok (.iadd, 1) := by decide +kernel
theorem d_Lw_law_1382 : decode code 1382 = .ok (.iaload, 1) := by decide +kernel
theorem d_Lw_law_1383 : decode code 1383 = .ok (.invokevirtual 284, 3) := by decide +kernel
theorem ok_Lw_law_Mm_leastCost : z_ok M_Lw_law M_Mm_leastCost 6 := ⟨z_mem (i := 1948) (by decide +kernel) (by decide +kernel), rfl, ⟨by decide +kernel, by decide +kernel, by decide +kernel⟩, ⟨by decide, by decide⟩, z_mem (i := 71) (by decide +kernel) (by decide +kernel), rfl⟩
theorem ln_Lw_284 : Cond.methodLink "IronpourLaw" 284 M_Mm_leastCost.1 ∈ z_gw := z_mem (i := 1945) (by decide +kernel) (by decide +kernel)
theorem w_im_Mm_leastCost : Cond.instanceMethod M_Mm_leastCost.1 ∈ z_gw := z_mem (i := 1946) (by decide +kernel) (by decide +kernel)
theorem w_se_Mm_leastCost : Cond.selects M_Mm_leastCost.1.cls M_Mm_leastCost.1 M_Mm_leastCost.1 ∈ z_gw := z_mem (i := 1947) (by decide +kernel) (by decide +kernel)
theorem d_Lw_law_1386 : decode code 1386 = .ok (.istore 7, 2) := by decide +kernel
theorem d_Lw_law_1388 : decode code 1388 = .ok (.goto 420, 3) := by decide +kernel
set_option maxHeartbeats 4000000 in
set_option maxRecDepth 100000 in
theorem LC_leastCost {g : zG} {ad : Nat → Nat} {t : zTT} {u : zNN} {w : zW} (hI : IV g ad t u w) (hR : REL t) {j r : Nat} (hJ : 7 * j + 7 ≤ g.2.2 41) (hL : g.2.2 41 < 2 ^ 31) (ih : LWI g ad j r) : DW g M_Lw_law lwQ w 1301 [(5, .int (nI (7 * j))), (4, .ref (ad 70)), (3, .ref (ad 69)), (2, .ref (ad 52)), (1, .ref (ad 0)), (0, .ref (g.2.2 40))] [] (100 * (r + 1)) (1000 * (r + 1)) := by
  refine y_base (cs := []) (z_I.nil w) ?_
  refine y_aload_n d_Lw_law_1301 rfl 4 rfl ?_
  refine y_aload_n d_Lw_law_1302 rfl 5 rfl ?_
  refine y_iload d_Lw_law_1303 0 rfl ?_
  refine y_iconst d_Lw_law_1305 (v := 1) (by decide) ?_
  refine y_iadd d_Lw_law_1306 (v := nI ((7 * j) + 1)) (nI_add _ _) ?_
  refine y_sld (v := zs g (7 * j + 1)) d_Lw_law_1307 (vp_in_nI (by omega) (by omega)) (by rw [nI_clamp (by omega)]; rfl) ?_
  refine y_aload_n d_Lw_law_1308 rfl 5 rfl ?_
  refine y_iload d_Lw_law_1309 0 rfl ?_
  refine y_iconst d_Lw_law_1311 (v := 2) (by decide) ?_
  refine y_iadd d_Lw_law_1312 (v := nI ((7 * j) + 2)) (nI_add _ _) ?_
  refine y_sld (v := zs g (7 * j + 2)) d_Lw_law_1313 (vp_in_nI (by omega) (by omega)) (by rw [nI_clamp (by omega)]; rfl) ?_
  refine y_aload_n d_Lw_law_1314 rfl 5 rfl ?_
  refine y_iload d_Lw_law_1315 0 rfl ?_
  refine y_iconst d_Lw_law_1317 (v := 3) (by decide) ?_
  refine y_iadd d_Lw_law_1318 (v := nI ((7 * j) + 3)) (nI_add _ _) ?_
  refine y_sld (v := zs g (7 * j + 3)) d_Lw_law_1319 (vp_in_nI (by omega) (by omega)) (by rw [nI_clamp (by omega)]; rfl) ?_
  refine y_aload_n d_Lw_law_1320 rfl 5 rfl ?_
  refine y_iload d_Lw_law_1321 0 rfl ?_
  refine y_iconst d_Lw_law_1323 (v := 4) (by decide) ?_
  refine y_iadd d_Lw_law_1324 (v := nI ((7 * j) + 4)) (nI_add _ _) ?_
  refine y_sld (v := zs g (7 * j + 4)) d_Lw_law_1325 (vp_in_nI (by omega) (by omega)) (by rw [nI_clamp (by omega)]; rfl) ?_
  refine y_aload_n d_Lw_law_1326 rfl 5 rfl ?_
  refine y_iload d_Lw_law_1327 0 rfl ?_
  refine y_iconst d_Lw_law_1329 (v := 5) (by decide) ?_
  refine y_iadd d_Lw_law_1330 (v := nI ((7 * j) + 5)) (nI_add _ _) ?_
  refine y_sld (v := zs g (7 * j + 5)) d_Lw_law_1331 (vp_in_nI (by omega) (by omega)) (by rw [nI_clamp (by omega)]; rfl) ?_
  refine y_aload_n d_Lw_law_1332 rfl 5 rfl ?_
  refine y_iload d_Lw_law_1333 0 rfl ?_
  refine y_bipush d_Lw_law_1335 (v := 6) (by decide) ?_
  refine y_iadd d_Lw_law_1337 (v := nI ((7 * j) + 6)) (nI_add _ _) ?_
  refine y_sld (v := zs g (7 * j + 6)) d_Lw_law_1338 (vp_in_nI (by omega) (by omega)) (by rw [nI_clamp (by omega)]; rfl) ?_
  refine y_aload_n d_Lw_law_1339 rfl 2 rfl ?_
  refine yw_callSX (As := [.ref (ad 0), .int (zs g (7 * j + 1)), .int (zs g (7 * j + 2)), .int (zs g (7 * j + 3)), .int (zs g (7 * j + 4)), .int (zs g (7 * j + 5)), .int (zs g (7 * j + 6)), .ref (ad 69)]) (rest := []) ln_Lw_281 w_st_Lw_leastCost ok_Lw_law_Lw_leastCost d_Lw_law_1340 (fun wA hA => W_leastCost (IV.nil hA hI) _ _ _ _ _ _) rfl rfl (Nat.le_of_ble_eq_true rfl) (by omega) (by omega) (fun wA1340 hA1340 E wB1340 hx => ?_) (fun wA1340 hA1340 v wB1340 hx => ?_)
  · obtain ⟨⟨v9, e1⟩, -⟩ := hx
    cases e1
  · obtain ⟨⟨v9, e1⟩, u2, hI2⟩ := hx
    cases e1
    refine yw_st (st2 := [.int v9]) rfl ?_
    have hI := hI2
    refine y_base (cs := []) (z_I.nil _) ?_
    refine y_istore (lv' := [(6, .int v9), (5, .int (nI (7 * j))), (4, .ref (ad 70)), (3, .ref (ad 69)), (2, .ref (ad 52)), (1, .ref (ad 0)), (0, .ref (g.2.2 40))]) d_Lw_law_1343 (by decide) rfl ?_
    refine y_aload_n d_Lw_law_1345 rfl 4 rfl ?_
    refine y_aload_n d_Lw_law_1346 rfl 6 rfl ?_
    refine y_iload d_Lw_law_1347 1 rfl ?_
    refine y_iconst d_Lw_law_1349 (v := 1) (by decide) ?_
    refine y_iadd d_Lw_law_1350 (v := nI ((7 * j) + 1)) (nI_add _ _) ?_
    refine y_sld (v := zs g (7 * j + 1)) d_Lw_law_1351 (vp_in_nI (by omega) (by omega)) (by rw [nI_clamp (by omega)]; rfl) ?_
    refine y_aload_n d_Lw_law_1352 rfl 6 rfl ?_
    refine y_iload d_Lw_law_1353 1 rfl ?_
    refine y_iconst d_Lw_law_1355 (v := 2) (by decide) ?_
    refine y_iadd d_Lw_law_1356 (v := nI ((7 * j) + 2)) (nI_add _ _) ?_
    refine y_sld (v := zs g (7 * j + 2)) d_Lw_law_1357 (vp_in_nI (by omega) (by omega)) (by rw [nI_clamp (by omega)]; rfl) ?_
    refine y_aload_n d_Lw_law_1358 rfl 6 rfl ?_
    refine y_iload d_Lw_law_1359 1 rfl ?_
    refine y_iconst d_Lw_law_1361 (v := 3) (by decide) ?_
    refine y_iadd d_Lw_law_1362 (v := nI ((7 * j) + 3)) (nI_add _ _) ?_
    refine y_sld (v := zs g (7 * j + 3)) d_Lw_law_1363 (vp_in_nI (by omega) (by omega)) (by rw [nI_clamp (by omega)]; rfl) ?_
    refine y_aload_n d_Lw_law_1364 rfl 6 rfl ?_
    refine y_iload d_Lw_law_1365 1 rfl ?_
    refine y_iconst d_Lw_law_1367 (v := 4) (by decide) ?_
    refine y_iadd d_Lw_law_1368 (v := nI ((7 * j) + 4)) (nI_add _ _) ?_
    refine y_sld (v := zs g (7 * j + 4)) d_Lw_law_1369 (vp_in_nI (by omega) (by omega)) (by rw [nI_clamp (by omega)]; rfl) ?_
    refine y_aload_n d_Lw_law_1370 rfl 6 rfl ?_
    refine y_iload d_Lw_law_1371 1 rfl ?_
    refine y_iconst d_Lw_law_1373 (v := 5) (by decide) ?_
    refine y_iadd d_Lw_law_1374 (v := nI ((7 * j) + 5)) (nI_add _ _) ?_
    refine y_sld (v := zs g (7 * j + 5)) d_Lw_law_1375 (vp_in_nI (by omega) (by omega)) (by rw [nI_clamp (by omega)]; rfl) ?_
    refine y_aload_n d_Lw_law_1376 rfl 6 rfl ?_
    refine y_iload d_Lw_law_1377 1 rfl ?_
    refine y_bipush d_Lw_law_1379 (v := 6) (by decide) ?_
    refine y_iadd d_Lw_law_1381 (v := nI ((7 * j) + 6)) (nI_add _ _) ?_
    refine y_sld (v := zs g (7 * j + 6)) d_Lw_law_1382 (vp_in_nI (by omega) (by omega)) (by rw [nI_clamp (by omega)]; rfl) ?_
    refine yw_callVL (As := [.int (zs g (7 * j + 1)), .int (zs g (7 * j + 2)), .int (zs g (7 * j + 3)), .int (zs g (7 * j + 4)), .int (zs g (7 * j + 5)), .int (zs g (7 * j + 6))]) (rest := []) (ci := 12) rfl (fun wA hA => (IV.nil hA hI).rm) ln_Lw_284 w_im_Mm_leastCost w_se_Mm_leastCost ok_Lw_law_Mm_leastCost d_Lw_law_1383 (fun wA hA => K_Mm_leastCost (IV.nil hA hI) _ _ _ _ _ _) rfl rfl (Nat.le_of_ble_eq_true rfl) (by omega) (by omega) (fun wA1383 hA1383 E wB1383 hx => ?_) (fun wA1383 hA1383 v wB1383 hx => ?_)
    · obtain ⟨⟨v8, e1⟩, -⟩ := hx
      cases e1
    · obtain ⟨⟨v8, e1⟩, u2, hI2⟩ := hx
      cases e1
      refine yw_st (st2 := [.int v8]) rfl ?_
      have hI := hI2
      refine y_base (cs := []) (z_I.nil _) ?_
      refine y_istore (lv' := [(7, .int v8), (6, .int v9), (5, .int (nI (7 * j))), (4, .ref (ad 70)), (3, .ref (ad 69)), (2, .ref (ad 52)), (1, .ref (ad 0)), (0, .ref (g.2.2 40))]) d_Lw_law_1386 (by decide) rfl ?_
      refine y_goto (tgt := 1808) d_Lw_law_1388 (by decide) ?_
      refine y_lv (lv' := [(5, .int (nI (7 * j))), (4, .ref (ad 70)), (3, .ref (ad 69)), (2, .ref (ad 52)), (1, .ref (ad 0)), (0, .ref (g.2.2 40))]) [2, 3, 4, 5, 6, 7] rfl ?_
      refine y_end (fun wC hC => ?_)
      exact LC_next (IV.nil hC hI) (REL.lc _ _ _ _ _ _ hR) hJ hL ih (by omega) (by omega)
theorem d_Lw_law_1391 : decode code 1391 = .ok (.aload_n 1, 1) := by decide +kernel
theorem d_Lw_law_1392 : decode code 1392 = .ok (.aload_n 0, 1) := by decide +kernel
theorem d_Lw_law_1393 : decode code 1393 = .ok (.iload 5, 2) := by decide +kernel
theorem d_Lw_law_1395 : decode code 1395 = .ok (.iconst 1, 1) := by decide +kernel
theorem d_Lw_law_1396 : decode code 1396 = .ok (.iadd, 1) := by decide +kernel
theorem d_Lw_law_1397 : decode code 1397 = .ok (.iaload, 1) := by decide +kernel
theorem d_Lw_law_1398 : decode code 1398 = .ok (.i2c, 1) := by decide +kernel
theorem d_Lw_law_1399 : decode code 1399 = .ok (.aload_n 3, 1) := by decide +kernel
theorem d_Lw_law_1400 : decode code 1400 = .ok (.invokestatic 285, 3) := by decide +kernel
theorem ok_Lw_law_Lw_cheapest : z_okX M_Lw_law M_Lw_cheapest 3 := ⟨z_mem (i := 1217) (by decide +kernel) (by decide +kernel), by decide, ⟨by decide +kernel, by decide +kernel, by decide +kernel⟩, ⟨by decide, by decide⟩, z_mem (i := 57) (by decide +kernel) (by decide +kernel), rfl⟩
theorem ln_Lw_285 : Cond.methodLink "IronpourLaw" 285 M_Lw_cheapest.1 ∈ z_gw := z_mem (i := 1215) (by decide +kernel) (by decide +kernel)
theorem w_st_Lw_cheapest : Cond.static M_Lw_cheapest.1 ∈ z_gw := z_mem (i := 1216) (by decide +kernel) (by decide +kernel)
theorem d_Lw_law_1403 : decode code 1403 = .ok (.istore 6, 2) := by decide +kernel
theorem d_Lw_law_1405 : decode code 1405 = .ok (.aload_n 2, 1) := by decide +kernel
theorem d_Lw_law_1406 : decode code 1406 = .ok (.aload_n 0, 1) := by decide +kernel
theorem d_Lw_law_1407 : decode code 1407 = .ok (.iload 5, 2) := by decide +kernel
theorem d_Lw_law_1409 : decode code 1409 = .ok (.iconst 1, 1) := by decide +kernel
theorem d_Lw_law_1410 : decode code 1410 = .ok (.iadd, 1) := by decide +kernel
theorem d_Lw_law_1411 : decode code 1411 = .ok (.iaload, 1) := by decide +kernel
theorem d_Lw_law_1412 : decode code 1412 = .ok (.i2c, 1) := by decide +kernel
theorem d_Lw_law_1413 : decode code 1413 = .ok (.invokevirtual 287, 3) := by decide +kernel
theorem ok_Lw_law_Mm_cheapest : z_ok M_Lw_law M_Mm_cheapest 1 := ⟨z_mem (i := 1955) (by decide +kernel) (by decide +kernel), rfl, ⟨by decide +kernel, by decide +kernel, by decide +kernel⟩, ⟨by decide, by decide⟩, z_mem (i := 71) (by decide +kernel) (by decide +kernel), rfl⟩
theorem ln_Lw_287 : Cond.methodLink "IronpourLaw" 287 M_Mm_cheapest.1 ∈ z_gw := z_mem (i := 1952) (by decide +kernel) (by decide +kernel)
theorem w_im_Mm_cheapest : Cond.instanceMethod M_Mm_cheapest.1 ∈ z_gw := z_mem (i := 1953) (by decide +kernel) (by decide +kernel)
theorem w_se_Mm_cheapest : Cond.selects M_Mm_cheapest.1.cls M_Mm_cheapest.1 M_Mm_cheapest.1 ∈ z_gw := z_mem (i := 1954) (by decide +kernel) (by decide +kernel)
theorem d_Lw_law_1416 : decode code 1416 = .ok (.istore 7, 2) := by decide +kernel
theorem d_Lw_law_1418 : decode code 1418 = .ok (.goto 390, 3) := by decide +kernel
set_option maxHeartbeats 4000000 in
set_option maxRecDepth 100000 in
theorem LC_cheapest {g : zG} {ad : Nat → Nat} {t : zTT} {u : zNN} {w : zW} (hI : IV g ad t u w) (hR : REL t) {j r : Nat} (hJ : 7 * j + 7 ≤ g.2.2 41) (hL : g.2.2 41 < 2 ^ 31) (ih : LWI g ad j r) : DW g M_Lw_law lwQ w 1391 [(5, .int (nI (7 * j))), (4, .ref (ad 70)), (3, .ref (ad 69)), (2, .ref (ad 52)), (1, .ref (ad 0)), (0, .ref (g.2.2 40))] [] (100 * (r + 1)) (1000 * (r + 1)) := by
  refine y_base (cs := []) (z_I.nil w) ?_
  refine y_aload_n d_Lw_law_1391 rfl 4 rfl ?_
  refine y_aload_n d_Lw_law_1392 rfl 5 rfl ?_
  refine y_iload d_Lw_law_1393 0 rfl ?_
  refine y_iconst d_Lw_law_1395 (v := 1) (by decide) ?_
  refine y_iadd d_Lw_law_1396 (v := nI ((7 * j) + 1)) (nI_add _ _) ?_
  refine y_sld (v := zs g (7 * j + 1)) d_Lw_law_1397 (vp_in_nI (by omega) (by omega)) (by rw [nI_clamp (by omega)]; rfl) ?_
  refine y_i2c d_Lw_law_1398 (v := zc g (7 * j + 1)) rfl ?_
  refine y_aload_n d_Lw_law_1399 rfl 2 rfl ?_
  refine yw_callSX (As := [.ref (ad 0), .int (zc g (7 * j + 1)), .ref (ad 69)]) (rest := []) ln_Lw_285 w_st_Lw_cheapest ok_Lw_law_Lw_cheapest d_Lw_law_1400 (fun wA hA => W_cheapest (IV.nil hA hI) _) rfl rfl (Nat.le_of_ble_eq_true rfl) (by omega) (by omega) (fun wA1400 hA1400 E wB1400 hx => ?_) (fun wA1400 hA1400 v wB1400 hx => ?_)
  · obtain ⟨⟨v9, e1⟩, -⟩ := hx
    cases e1
  · obtain ⟨⟨v9, e1⟩, u2, hI2⟩ := hx
    cases e1
    refine yw_st (st2 := [.int v9]) rfl ?_
    have hI := hI2
    refine y_base (cs := []) (z_I.nil _) ?_
    refine y_istore (lv' := [(6, .int v9), (5, .int (nI (7 * j))), (4, .ref (ad 70)), (3, .ref (ad 69)), (2, .ref (ad 52)), (1, .ref (ad 0)), (0, .ref (g.2.2 40))]) d_Lw_law_1403 (by decide) rfl ?_
    refine y_aload_n d_Lw_law_1405 rfl 4 rfl ?_
    refine y_aload_n d_Lw_law_1406 rfl 6 rfl ?_
    refine y_iload d_Lw_law_1407 1 rfl ?_
    refine y_iconst d_Lw_law_1409 (v := 1) (by decide) ?_
    refine y_iadd d_Lw_law_1410 (v := nI ((7 * j) + 1)) (nI_add _ _) ?_
    refine y_sld (v := zs g (7 * j + 1)) d_Lw_law_1411 (vp_in_nI (by omega) (by omega)) (by rw [nI_clamp (by omega)]; rfl) ?_
    refine y_i2c d_Lw_law_1412 (v := zc g (7 * j + 1)) rfl ?_
    refine yw_callVL (As := [.int (zc g (7 * j + 1))]) (rest := []) (ci := 12) rfl (fun wA hA => (IV.nil hA hI).rm) ln_Lw_287 w_im_Mm_cheapest w_se_Mm_cheapest ok_Lw_law_Mm_cheapest d_Lw_law_1413 (fun wA hA => K_Mm_cheapest (IV.nil hA hI) _) rfl rfl (Nat.le_of_ble_eq_true rfl) (by omega) (by omega) (fun wA1413 hA1413 E wB1413 hx => ?_) (fun wA1413 hA1413 v wB1413 hx => ?_)
    · obtain ⟨⟨v8, e1⟩, -⟩ := hx
      cases e1
    · obtain ⟨⟨v8, e1⟩, u2, hI2⟩ := hx
      cases e1
      refine yw_st (st2 := [.int v8]) rfl ?_
      have hI := hI2
      refine y_base (cs := []) (z_I.nil _) ?_
      refine y_istore (lv' := [(7, .int v8), (6, .int v9), (5, .int (nI (7 * j))), (4, .ref (ad 70)), (3, .ref (ad 69)), (2, .ref (ad 52)), (1, .ref (ad 0)), (0, .ref (g.2.2 40))]) d_Lw_law_1416 (by decide) rfl ?_
      refine y_goto (tgt := 1808) d_Lw_law_1418 (by decide) ?_
      refine y_lv (lv' := [(5, .int (nI (7 * j))), (4, .ref (ad 70)), (3, .ref (ad 69)), (2, .ref (ad 52)), (1, .ref (ad 0)), (0, .ref (g.2.2 40))]) [2, 3, 4, 5, 6, 7] rfl ?_
      refine y_end (fun wC hC => ?_)
      exact LC_next (IV.nil hC hI) hR hJ hL ih (by omega) (by omega)
theorem d_Lw_law_1421 : decode code 1421 = .ok (.aload_n 1, 1) := by decide +kernel
theorem d_Lw_law_1422 : decode code 1422 = .ok (.aload_n 3, 1) := by decide +kernel
theorem d_Lw_law_1423 : decode code 1423 = .ok (.invokestatic 288, 3) := by decide +kernel
theorem ok_Lw_law_Lw_mould : z_okX M_Lw_law M_Lw_mould 2 := ⟨z_mem (i := 1231) (by decide +kernel) (by decide +kernel), by decide, ⟨by decide +kernel, by decide +kernel, by decide +kernel⟩, ⟨by decide, by decide⟩, z_mem (i := 57) (by decide +kernel) (by decide +kernel), rfl⟩
theorem ln_Lw_288 : Cond.methodLink "IronpourLaw" 288 M_Lw_mould.1 ∈ z_gw := z_mem (i := 1229) (by decide +kernel) (by decide +kernel)
theorem w_st_Lw_mould : Cond.static M_Lw_mould.1 ∈ z_gw := z_mem (i := 1230) (by decide +kernel) (by decide +kernel)
theorem d_Lw_law_1426 : decode code 1426 = .ok (.istore 6, 2) := by decide +kernel
theorem d_Lw_law_1428 : decode code 1428 = .ok (.aload_n 2, 1) := by decide +kernel
theorem d_Lw_law_1429 : decode code 1429 = .ok (.invokevirtual 290, 3) := by decide +kernel
theorem ok_Lw_law_Mm_mould : z_ok M_Lw_law M_Mm_mould 0 := ⟨z_mem (i := 1960) (by decide +kernel) (by decide +kernel), rfl, ⟨by decide +kernel, by decide +kernel, by decide +kernel⟩, ⟨by decide, by decide⟩, z_mem (i := 71) (by decide +kernel) (by decide +kernel), rfl⟩
theorem ln_Lw_290 : Cond.methodLink "IronpourLaw" 290 M_Mm_mould.1 ∈ z_gw := z_mem (i := 1957) (by decide +kernel) (by decide +kernel)
theorem w_im_Mm_mould : Cond.instanceMethod M_Mm_mould.1 ∈ z_gw := z_mem (i := 1958) (by decide +kernel) (by decide +kernel)
theorem w_se_Mm_mould : Cond.selects M_Mm_mould.1.cls M_Mm_mould.1 M_Mm_mould.1 ∈ z_gw := z_mem (i := 1959) (by decide +kernel) (by decide +kernel)
theorem d_Lw_law_1432 : decode code 1432 = .ok (.istore 7, 2) := by decide +kernel
theorem d_Lw_law_1434 : decode code 1434 = .ok (.goto 374, 3) := by decide +kernel
set_option maxHeartbeats 4000000 in
set_option maxRecDepth 100000 in
theorem LC_mould {g : zG} {ad : Nat → Nat} {t : zTT} {u : zNN} {w : zW} (hI : IV g ad t u w) (hR : REL t) {j r : Nat} (hJ : 7 * j + 7 ≤ g.2.2 41) (hL : g.2.2 41 < 2 ^ 31) (ih : LWI g ad j r) : DW g M_Lw_law lwQ w 1421 [(5, .int (nI (7 * j))), (4, .ref (ad 70)), (3, .ref (ad 69)), (2, .ref (ad 52)), (1, .ref (ad 0)), (0, .ref (g.2.2 40))] [] (100 * (r + 1)) (1000 * (r + 1)) := by
  refine y_base (cs := []) (z_I.nil w) ?_
  refine y_aload_n d_Lw_law_1421 rfl 4 rfl ?_
  refine y_aload_n d_Lw_law_1422 rfl 2 rfl ?_
  refine yw_callSX (As := [.ref (ad 0), .ref (ad 69)]) (rest := []) ln_Lw_288 w_st_Lw_mould ok_Lw_law_Lw_mould d_Lw_law_1423 (fun wA hA => W_mould (IV.nil hA hI)) rfl rfl (Nat.le_of_ble_eq_true rfl) (by omega) (by omega) (fun wA1423 hA1423 E wB1423 hx => ?_) (fun wA1423 hA1423 v wB1423 hx => ?_)
  · obtain ⟨⟨v9, e1⟩, -⟩ := hx
    cases e1
  · obtain ⟨⟨v9, e1⟩, u2, hI2⟩ := hx
    cases e1
    refine yw_st (st2 := [.int v9]) rfl ?_
    have hI := hI2
    refine y_base (cs := []) (z_I.nil _) ?_
    refine y_istore (lv' := [(6, .int v9), (5, .int (nI (7 * j))), (4, .ref (ad 70)), (3, .ref (ad 69)), (2, .ref (ad 52)), (1, .ref (ad 0)), (0, .ref (g.2.2 40))]) d_Lw_law_1426 (by decide) rfl ?_
    refine y_aload_n d_Lw_law_1428 rfl 4 rfl ?_
    refine yw_callVL (As := []) (rest := []) (ci := 12) rfl (fun wA hA => (IV.nil hA hI).rm) ln_Lw_290 w_im_Mm_mould w_se_Mm_mould ok_Lw_law_Mm_mould d_Lw_law_1429 (fun wA hA => K_Mm_mould (IV.nil hA hI)) rfl rfl (Nat.le_of_ble_eq_true rfl) (by omega) (by omega) (fun wA1429 hA1429 E wB1429 hx => ?_) (fun wA1429 hA1429 v wB1429 hx => ?_)
    · obtain ⟨⟨v8, e1⟩, -⟩ := hx
      cases e1
    · obtain ⟨⟨v8, e1⟩, u2, hI2⟩ := hx
      cases e1
      refine yw_st (st2 := [.int v8]) rfl ?_
      have hI := hI2
      refine y_base (cs := []) (z_I.nil _) ?_
      refine y_istore (lv' := [(7, .int v8), (6, .int v9), (5, .int (nI (7 * j))), (4, .ref (ad 70)), (3, .ref (ad 69)), (2, .ref (ad 52)), (1, .ref (ad 0)), (0, .ref (g.2.2 40))]) d_Lw_law_1432 (by decide) rfl ?_
      refine y_goto (tgt := 1808) d_Lw_law_1434 (by decide) ?_
      refine y_lv (lv' := [(5, .int (nI (7 * j))), (4, .ref (ad 70)), (3, .ref (ad 69)), (2, .ref (ad 52)), (1, .ref (ad 0)), (0, .ref (g.2.2 40))]) [2, 3, 4, 5, 6, 7] rfl ?_
      refine y_end (fun wC hC => ?_)
      exact LC_next (IV.nil hC hI) hR hJ hL ih (by omega) (by omega)
theorem d_Lw_law_1437 : decode code 1437 = .ok (.aload_n 1, 1) := by decide +kernel
theorem d_Lw_law_1438 : decode code 1438 = .ok (.aload_n 0, 1) := by decide +kernel
theorem d_Lw_law_1439 : decode code 1439 = .ok (.iload 5, 2) := by decide +kernel
theorem d_Lw_law_1441 : decode code 1441 = .ok (.iconst 1, 1) := by decide +kernel
theorem d_Lw_law_1442 : decode code 1442 = .ok (.iadd, 1) := by decide +kernel
theorem d_Lw_law_1443 : decode code 1443 = .ok (.iaload, 1) := by decide +kernel
theorem d_Lw_law_1444 : decode code 1444 = .ok (.aload_n 3, 1) := by decide +kernel
theorem d_Lw_law_1445 : decode code 1445 = .ok (.invokestatic 291, 3) := by decide +kernel
theorem ok_Lw_law_Lw_waiting : z_okX M_Lw_law M_Lw_waiting 3 := ⟨z_mem (i := 1356) (by decide +kernel) (by decide +kernel), by decide, ⟨by decide +kernel, by decide +kernel, by decide +kernel⟩, ⟨by decide, by decide⟩, z_mem (i := 57) (by decide +kernel) (by decide +kernel), rfl⟩
theorem ln_Lw_291 : Cond.methodLink "IronpourLaw" 291 M_Lw_waiting.1 ∈ z_gw := z_mem (i := 1354) (by decide +kernel) (by decide +kernel)
theorem w_st_Lw_waiting : Cond.static M_Lw_waiting.1 ∈ z_gw := z_mem (i := 1355) (by decide +kernel) (by decide +kernel)
theorem d_Lw_law_1448 : decode code 1448 = .ok (.istore 6, 2) := by decide +kernel
theorem d_Lw_law_1450 : decode code 1450 = .ok (.aload_n 2, 1) := by decide +kernel
theorem d_Lw_law_1451 : decode code 1451 = .ok (.aload_n 0, 1) := by decide +kernel
theorem d_Lw_law_1452 : decode code 1452 = .ok (.iload 5, 2) := by decide +kernel
theorem d_Lw_law_1454 : decode code 1454 = .ok (.iconst 1, 1) := by decide +kernel
theorem d_Lw_law_1455 : decode code 1455 = .ok (.iadd, 1) := by decide +kernel
theorem d_Lw_law_1456 : decode code 1456 = .ok (.iaload, 1) := by decide +kernel
theorem d_Lw_law_1457 : decode code 1457 = .ok (.invokevirtual 293, 3) := by decide +kernel
theorem ok_Lw_law_Mm_waiting : z_ok M_Lw_law M_Mm_waiting 1 := ⟨z_mem (i := 1972) (by decide +kernel) (by decide +kernel), rfl, ⟨by decide +kernel, by decide +kernel, by decide +kernel⟩, ⟨by decide, by decide⟩, z_mem (i := 71) (by decide +kernel) (by decide +kernel), rfl⟩
theorem ln_Lw_293 : Cond.methodLink "IronpourLaw" 293 M_Mm_waiting.1 ∈ z_gw := z_mem (i := 1969) (by decide +kernel) (by decide +kernel)
theorem w_im_Mm_waiting : Cond.instanceMethod M_Mm_waiting.1 ∈ z_gw := z_mem (i := 1970) (by decide +kernel) (by decide +kernel)
theorem w_se_Mm_waiting : Cond.selects M_Mm_waiting.1.cls M_Mm_waiting.1 M_Mm_waiting.1 ∈ z_gw := z_mem (i := 1971) (by decide +kernel) (by decide +kernel)
theorem d_Lw_law_1460 : decode code 1460 = .ok (.istore 7, 2) := by decide +kernel
theorem d_Lw_law_1462 : decode code 1462 = .ok (.goto 346, 3) := by decide +kernel
set_option maxHeartbeats 4000000 in
set_option maxRecDepth 100000 in
theorem LC_waiting {g : zG} {ad : Nat → Nat} {t : zTT} {u : zNN} {w : zW} (hI : IV g ad t u w) (hR : REL t) {j r : Nat} (hJ : 7 * j + 7 ≤ g.2.2 41) (hL : g.2.2 41 < 2 ^ 31) (ih : LWI g ad j r) : DW g M_Lw_law lwQ w 1437 [(5, .int (nI (7 * j))), (4, .ref (ad 70)), (3, .ref (ad 69)), (2, .ref (ad 52)), (1, .ref (ad 0)), (0, .ref (g.2.2 40))] [] (100 * (r + 1)) (1000 * (r + 1)) := by
  refine y_base (cs := []) (z_I.nil w) ?_
  refine y_aload_n d_Lw_law_1437 rfl 4 rfl ?_
  refine y_aload_n d_Lw_law_1438 rfl 5 rfl ?_
  refine y_iload d_Lw_law_1439 0 rfl ?_
  refine y_iconst d_Lw_law_1441 (v := 1) (by decide) ?_
  refine y_iadd d_Lw_law_1442 (v := nI ((7 * j) + 1)) (nI_add _ _) ?_
  refine y_sld (v := zs g (7 * j + 1)) d_Lw_law_1443 (vp_in_nI (by omega) (by omega)) (by rw [nI_clamp (by omega)]; rfl) ?_
  refine y_aload_n d_Lw_law_1444 rfl 2 rfl ?_
  refine yw_callSX (As := [.ref (ad 0), .int (zs g (7 * j + 1)), .ref (ad 69)]) (rest := []) ln_Lw_291 w_st_Lw_waiting ok_Lw_law_Lw_waiting d_Lw_law_1445 (fun wA hA => W_waiting (IV.nil hA hI) _) rfl rfl (Nat.le_of_ble_eq_true rfl) (by omega) (by omega) (fun wA1445 hA1445 E wB1445 hx => ?_) (fun wA1445 hA1445 v wB1445 hx => ?_)
  · obtain ⟨⟨v9, e1⟩, -⟩ := hx
    cases e1
  · obtain ⟨⟨v9, e1⟩, u2, hI2⟩ := hx
    cases e1
    refine yw_st (st2 := [.int v9]) rfl ?_
    have hI := hI2
    refine y_base (cs := []) (z_I.nil _) ?_
    refine y_istore (lv' := [(6, .int v9), (5, .int (nI (7 * j))), (4, .ref (ad 70)), (3, .ref (ad 69)), (2, .ref (ad 52)), (1, .ref (ad 0)), (0, .ref (g.2.2 40))]) d_Lw_law_1448 (by decide) rfl ?_
    refine y_aload_n d_Lw_law_1450 rfl 4 rfl ?_
    refine y_aload_n d_Lw_law_1451 rfl 6 rfl ?_
    refine y_iload d_Lw_law_1452 1 rfl ?_
    refine y_iconst d_Lw_law_1454 (v := 1) (by decide) ?_
    refine y_iadd d_Lw_law_1455 (v := nI ((7 * j) + 1)) (nI_add _ _) ?_
    refine y_sld (v := zs g (7 * j + 1)) d_Lw_law_1456 (vp_in_nI (by omega) (by omega)) (by rw [nI_clamp (by omega)]; rfl) ?_
    refine yw_callVL (As := [.int (zs g (7 * j + 1))]) (rest := []) (ci := 12) rfl (fun wA hA => (IV.nil hA hI).rm) ln_Lw_293 w_im_Mm_waiting w_se_Mm_waiting ok_Lw_law_Mm_waiting d_Lw_law_1457 (fun wA hA => K_Mm_waiting (IV.nil hA hI) _) rfl rfl (Nat.le_of_ble_eq_true rfl) (by omega) (by omega) (fun wA1457 hA1457 E wB1457 hx => ?_) (fun wA1457 hA1457 v wB1457 hx => ?_)
    · obtain ⟨⟨v8, e1⟩, -⟩ := hx
      cases e1
    · obtain ⟨⟨v8, e1⟩, u2, hI2⟩ := hx
      cases e1
      refine yw_st (st2 := [.int v8]) rfl ?_
      have hI := hI2
      refine y_base (cs := []) (z_I.nil _) ?_
      refine y_istore (lv' := [(7, .int v8), (6, .int v9), (5, .int (nI (7 * j))), (4, .ref (ad 70)), (3, .ref (ad 69)), (2, .ref (ad 52)), (1, .ref (ad 0)), (0, .ref (g.2.2 40))]) d_Lw_law_1460 (by decide) rfl ?_
      refine y_goto (tgt := 1808) d_Lw_law_1462 (by decide) ?_
      refine y_lv (lv' := [(5, .int (nI (7 * j))), (4, .ref (ad 70)), (3, .ref (ad 69)), (2, .ref (ad 52)), (1, .ref (ad 0)), (0, .ref (g.2.2 40))]) [2, 3, 4, 5, 6, 7] rfl ?_
      refine y_end (fun wC hC => ?_)
      exact LC_next (IV.nil hC hI) hR hJ hL ih (by omega) (by omega)
theorem d_Lw_law_1465 : decode code 1465 = .ok (.aload_n 1, 1) := by decide +kernel
theorem d_Lw_law_1466 : decode code 1466 = .ok (.aload_n 3, 1) := by decide +kernel
theorem d_Lw_law_1467 : decode code 1467 = .ok (.invokestatic 294, 3) := by decide +kernel
theorem ok_Lw_law_Lw_pour : z_okX M_Lw_law M_Lw_pour 2 := ⟨z_mem (i := 1364) (by decide +kernel) (by decide +kernel), by decide, ⟨by decide +kernel, by decide +kernel, by decide +kernel⟩, ⟨by decide, by decide⟩, z_mem (i := 57) (by decide +kernel) (by decide +kernel), rfl⟩
theorem ln_Lw_294 : Cond.methodLink "IronpourLaw" 294 M_Lw_pour.1 ∈ z_gw := z_mem (i := 1362) (by decide +kernel) (by decide +kernel)
theorem w_st_Lw_pour : Cond.static M_Lw_pour.1 ∈ z_gw := z_mem (i := 1363) (by decide +kernel) (by decide +kernel)
theorem d_Lw_law_1470 : decode code 1470 = .ok (.istore 6, 2) := by decide +kernel
theorem d_Lw_law_1472 : decode code 1472 = .ok (.aload_n 2, 1) := by decide +kernel
theorem d_Lw_law_1473 : decode code 1473 = .ok (.invokevirtual 296, 3) := by decide +kernel
theorem ok_Lw_law_Mm_pour : z_ok M_Lw_law M_Mm_pour 0 := ⟨z_mem (i := 1976) (by decide +kernel) (by decide +kernel), rfl, ⟨by decide +kernel, by decide +kernel, by decide +kernel⟩, ⟨by decide, by decide⟩, z_mem (i := 71) (by decide +kernel) (by decide +kernel), rfl⟩
theorem ln_Lw_296 : Cond.methodLink "IronpourLaw" 296 M_Mm_pour.1 ∈ z_gw := z_mem (i := 1973) (by decide +kernel) (by decide +kernel)
theorem w_im_Mm_pour : Cond.instanceMethod M_Mm_pour.1 ∈ z_gw := z_mem (i := 1974) (by decide +kernel) (by decide +kernel)
theorem w_se_Mm_pour : Cond.selects M_Mm_pour.1.cls M_Mm_pour.1 M_Mm_pour.1 ∈ z_gw := z_mem (i := 1975) (by decide +kernel) (by decide +kernel)
theorem d_Lw_law_1476 : decode code 1476 = .ok (.istore 7, 2) := by decide +kernel
theorem d_Lw_law_1478 : decode code 1478 = .ok (.goto 330, 3) := by decide +kernel
set_option maxHeartbeats 4000000 in
set_option maxRecDepth 100000 in
theorem LC_pour {g : zG} {ad : Nat → Nat} {t : zTT} {u : zNN} {w : zW} (hI : IV g ad t u w) (hR : REL t) {j r : Nat} (hJ : 7 * j + 7 ≤ g.2.2 41) (hL : g.2.2 41 < 2 ^ 31) (ih : LWI g ad j r) : DW g M_Lw_law lwQ w 1465 [(5, .int (nI (7 * j))), (4, .ref (ad 70)), (3, .ref (ad 69)), (2, .ref (ad 52)), (1, .ref (ad 0)), (0, .ref (g.2.2 40))] [] (100 * (r + 1)) (1000 * (r + 1)) := by
  refine y_base (cs := []) (z_I.nil w) ?_
  refine y_aload_n d_Lw_law_1465 rfl 4 rfl ?_
  refine y_aload_n d_Lw_law_1466 rfl 2 rfl ?_
  refine yw_callSX (As := [.ref (ad 0), .ref (ad 69)]) (rest := []) ln_Lw_294 w_st_Lw_pour ok_Lw_law_Lw_pour d_Lw_law_1467 (fun wA hA => W_pour (IV.nil hA hI)) rfl rfl (Nat.le_of_ble_eq_true rfl) (by omega) (by omega) (fun wA1467 hA1467 E wB1467 hx => ?_) (fun wA1467 hA1467 v wB1467 hx => ?_)
  · obtain ⟨⟨v9, e1⟩, -⟩ := hx
    cases e1
  · obtain ⟨⟨v9, e1⟩, u2, hI2⟩ := hx
    cases e1
    refine yw_st (st2 := [.int v9]) rfl ?_
    have hI := hI2
    refine y_base (cs := []) (z_I.nil _) ?_
    refine y_istore (lv' := [(6, .int v9), (5, .int (nI (7 * j))), (4, .ref (ad 70)), (3, .ref (ad 69)), (2, .ref (ad 52)), (1, .ref (ad 0)), (0, .ref (g.2.2 40))]) d_Lw_law_1470 (by decide) rfl ?_
    refine y_aload_n d_Lw_law_1472 rfl 4 rfl ?_
    refine yw_callVL (As := []) (rest := []) (ci := 12) rfl (fun wA hA => (IV.nil hA hI).rm) ln_Lw_296 w_im_Mm_pour w_se_Mm_pour ok_Lw_law_Mm_pour d_Lw_law_1473 (fun wA hA => K_Mm_pour (IV.nil hA hI)) rfl rfl (Nat.le_of_ble_eq_true rfl) (by omega) (by omega) (fun wA1473 hA1473 E wB1473 hx => ?_) (fun wA1473 hA1473 v wB1473 hx => ?_)
    · obtain ⟨⟨v8, e1⟩, -⟩ := hx
      cases e1
    · obtain ⟨⟨v8, e1⟩, u2, hI2⟩ := hx
      cases e1
      refine yw_st (st2 := [.int v8]) rfl ?_
      have hI := hI2
      refine y_base (cs := []) (z_I.nil _) ?_
      refine y_istore (lv' := [(7, .int v8), (6, .int v9), (5, .int (nI (7 * j))), (4, .ref (ad 70)), (3, .ref (ad 69)), (2, .ref (ad 52)), (1, .ref (ad 0)), (0, .ref (g.2.2 40))]) d_Lw_law_1476 (by decide) rfl ?_
      refine y_goto (tgt := 1808) d_Lw_law_1478 (by decide) ?_
      refine y_lv (lv' := [(5, .int (nI (7 * j))), (4, .ref (ad 70)), (3, .ref (ad 69)), (2, .ref (ad 52)), (1, .ref (ad 0)), (0, .ref (g.2.2 40))]) [2, 3, 4, 5, 6, 7] rfl ?_
      refine y_end (fun wC hC => ?_)
      exact LC_next (IV.nil hC hI) hR hJ hL ih (by omega) (by omega)
theorem d_Lw_law_1481 : decode code 1481 = .ok (.aload_n 1, 1) := by decide +kernel
theorem d_Lw_law_1482 : decode code 1482 = .ok (.invokevirtual 297, 3) := by decide +kernel
theorem ok_Lw_law_Ip_castings : z_ok M_Lw_law M_Ip_castings 0 := ⟨z_mem (i := 465) (by decide +kernel) (by decide +kernel), rfl, ⟨by decide +kernel, by decide +kernel, by decide +kernel⟩, ⟨by decide, by decide⟩, z_mem (i := 58) (by decide +kernel) (by decide +kernel), rfl⟩
theorem ln_Lw_297 : Cond.methodLink "IronpourLaw" 297 M_Ip_castings.1 ∈ z_gw := z_mem (i := 462) (by decide +kernel) (by decide +kernel)
theorem w_im_Ip_castings : Cond.instanceMethod M_Ip_castings.1 ∈ z_gw := z_mem (i := 463) (by decide +kernel) (by decide +kernel)
theorem w_se_Ip_castings : Cond.selects M_Ip_castings.1.cls M_Ip_castings.1 M_Ip_castings.1 ∈ z_gw := z_mem (i := 464) (by decide +kernel) (by decide +kernel)
theorem d_Lw_law_1485 : decode code 1485 = .ok (.pop, 1) := by decide +kernel
theorem d_Lw_law_1486 : decode code 1486 = .ok (.aload_n 2, 1) := by decide +kernel
theorem d_Lw_law_1487 : decode code 1487 = .ok (.invokevirtual 300, 3) := by decide +kernel
theorem ok_Lw_law_Mm_castings : z_ok M_Lw_law M_Mm_castings 0 := ⟨z_mem (i := 1986) (by decide +kernel) (by decide +kernel), rfl, ⟨by decide +kernel, by decide +kernel, by decide +kernel⟩, ⟨by decide, by decide⟩, z_mem (i := 71) (by decide +kernel) (by decide +kernel), rfl⟩
theorem ln_Lw_300 : Cond.methodLink "IronpourLaw" 300 M_Mm_castings.1 ∈ z_gw := z_mem (i := 1983) (by decide +kernel) (by decide +kernel)
theorem w_im_Mm_castings : Cond.instanceMethod M_Mm_castings.1 ∈ z_gw := z_mem (i := 1984) (by decide +kernel) (by decide +kernel)
theorem w_se_Mm_castings : Cond.selects M_Mm_castings.1.cls M_Mm_castings.1 M_Mm_castings.1 ∈ z_gw := z_mem (i := 1985) (by decide +kernel) (by decide +kernel)
theorem d_Lw_law_1490 : decode code 1490 = .ok (.pop, 1) := by decide +kernel
theorem d_Lw_law_1491 : decode code 1491 = .ok (.goto 317, 3) := by decide +kernel
set_option maxHeartbeats 4000000 in
set_option maxRecDepth 100000 in
theorem LC_castings {g : zG} {ad : Nat → Nat} {t : zTT} {u : zNN} {w : zW} (hI : IV g ad t u w) (hR : REL t) {j r : Nat} (hJ : 7 * j + 7 ≤ g.2.2 41) (hL : g.2.2 41 < 2 ^ 31) (ih : LWI g ad j r) : DW g M_Lw_law lwQ w 1481 [(5, .int (nI (7 * j))), (4, .ref (ad 70)), (3, .ref (ad 69)), (2, .ref (ad 52)), (1, .ref (ad 0)), (0, .ref (g.2.2 40))] [] (100 * (r + 1)) (1000 * (r + 1)) := by
  refine y_base (cs := []) (z_I.nil w) ?_
  refine y_aload_n d_Lw_law_1481 rfl 4 rfl ?_
  refine yw_callVL (As := []) (rest := []) (ci := 11) rfl (fun wA hA => (IV.nil hA hI).ra) ln_Lw_297 w_im_Ip_castings w_se_Ip_castings ok_Lw_law_Ip_castings d_Lw_law_1482 (fun wA hA => K_Ip_castings (IV.nil hA hI)) rfl rfl (Nat.le_of_ble_eq_true rfl) (by omega) (by omega) (fun wA1482 hA1482 E wB1482 hx => ?_) (fun wA1482 hA1482 v wB1482 hx => ?_)
  · obtain ⟨h1, -⟩ := hx
    cases zriE h1
  · obtain ⟨h1, u2, hI2⟩ := hx
    obtain ⟨v9, rfl⟩ := zriV h1
    refine yw_st (st2 := [.int v9]) rfl ?_
    have hI := hI2
    refine y_base (cs := []) (z_I.nil _) ?_
    refine y_pop d_Lw_law_1485 rfl ?_
    refine y_aload_n d_Lw_law_1486 rfl 3 rfl ?_
    refine yw_callVL (As := []) (rest := []) (ci := 12) rfl (fun wA hA => (IV.nil hA hI).rm) ln_Lw_300 w_im_Mm_castings w_se_Mm_castings ok_Lw_law_Mm_castings d_Lw_law_1487 (fun wA hA => K_Mm_castings (IV.nil hA hI)) rfl rfl (Nat.le_of_ble_eq_true rfl) (by omega) (by omega) (fun wA1487 hA1487 E wB1487 hx => ?_) (fun wA1487 hA1487 v wB1487 hx => ?_)
    · obtain ⟨⟨v8, e1⟩, -⟩ := hx
      cases e1
    · obtain ⟨⟨v8, e1⟩, u2, hI2⟩ := hx
      cases e1
      refine yw_st (st2 := [.int v8]) rfl ?_
      have hI := hI2
      refine y_base (cs := []) (z_I.nil _) ?_
      refine y_pop d_Lw_law_1490 rfl ?_
      refine y_goto (tgt := 1808) d_Lw_law_1491 (by decide) ?_
      refine y_lv (lv' := [(5, .int (nI (7 * j))), (4, .ref (ad 70)), (3, .ref (ad 69)), (2, .ref (ad 52)), (1, .ref (ad 0)), (0, .ref (g.2.2 40))]) [0, 1, 2, 3, 4, 5] rfl ?_
      refine y_end (fun wC hC => ?_)
      exact LC_next (IV.nil hC hI) hR hJ hL ih (by omega) (by omega)
theorem d_Lw_law_1494 : decode code 1494 = .ok (.aload_n 1, 1) := by decide +kernel
theorem d_Lw_law_1495 : decode code 1495 = .ok (.aload_n 0, 1) := by decide +kernel
theorem d_Lw_law_1496 : decode code 1496 = .ok (.iload 5, 2) := by decide +kernel
theorem d_Lw_law_1498 : decode code 1498 = .ok (.iconst 1, 1) := by decide +kernel
theorem d_Lw_law_1499 : decode code 1499 = .ok (.iadd, 1) := by decide +kernel
theorem d_Lw_law_1500 : decode code 1500 = .ok (.iaload, 1) := by decide +kernel
theorem d_Lw_law_1501 : decode code 1501 = .ok (.aload_n 3, 1) := by decide +kernel
theorem d_Lw_law_1502 : decode code 1502 = .ok (.invokestatic 301, 3) := by decide +kernel
theorem ok_Lw_law_Lw_alloy : z_okX M_Lw_law M_Lw_alloy 3 := ⟨z_mem (i := 1442) (by decide +kernel) (by decide +kernel), by decide, ⟨by decide +kernel, by decide +kernel, by decide +kernel⟩, ⟨by decide, by decide⟩, z_mem (i := 57) (by decide +kernel) (by decide +kernel), rfl⟩
theorem ln_Lw_301 : Cond.methodLink "IronpourLaw" 301 M_Lw_alloy.1 ∈ z_gw := z_mem (i := 1440) (by decide +kernel) (by decide +kernel)
theorem w_st_Lw_alloy : Cond.static M_Lw_alloy.1 ∈ z_gw := z_mem (i := 1441) (by decide +kernel) (by decide +kernel)
theorem d_Lw_law_1505 : decode code 1505 = .ok (.istore 6, 2) := by decide +kernel
theorem d_Lw_law_1507 : decode code 1507 = .ok (.aload_n 2, 1) := by decide +kernel
theorem d_Lw_law_1508 : decode code 1508 = .ok (.aload_n 0, 1) := by decide +kernel
theorem d_Lw_law_1509 : decode code 1509 = .ok (.iload 5, 2) := by decide +kernel
theorem d_Lw_law_1511 : decode code 1511 = .ok (.iconst 1, 1) := by decide +kernel
theorem d_Lw_law_1512 : decode code 1512 = .ok (.iadd, 1) := by decide +kernel
theorem d_Lw_law_1513 : decode code 1513 = .ok (.iaload, 1) := by decide +kernel
theorem d_Lw_law_1514 : decode code 1514 = .ok (.invokevirtual 303, 3) := by decide +kernel
theorem ok_Lw_law_Mm_alloy : z_ok M_Lw_law M_Mm_alloy 1 := ⟨z_mem (i := 1990) (by decide +kernel) (by decide +kernel), rfl, ⟨by decide +kernel, by decide +kernel, by decide +kernel⟩, ⟨by decide, by decide⟩, z_mem (i := 71) (by decide +kernel) (by decide +kernel), rfl⟩
theorem ln_Lw_303 : Cond.methodLink "IronpourLaw" 303 M_Mm_alloy.1 ∈ z_gw := z_mem (i := 1987) (by decide +kernel) (by decide +kernel)
theorem w_im_Mm_alloy : Cond.instanceMethod M_Mm_alloy.1 ∈ z_gw := z_mem (i := 1988) (by decide +kernel) (by decide +kernel)
theorem w_se_Mm_alloy : Cond.selects M_Mm_alloy.1.cls M_Mm_alloy.1 M_Mm_alloy.1 ∈ z_gw := z_mem (i := 1989) (by decide +kernel) (by decide +kernel)
theorem d_Lw_law_1517 : decode code 1517 = .ok (.istore 7, 2) := by decide +kernel
theorem d_Lw_law_1519 : decode code 1519 = .ok (.goto 289, 3) := by decide +kernel
set_option maxHeartbeats 4000000 in
set_option maxRecDepth 100000 in
theorem LC_alloy {g : zG} {ad : Nat → Nat} {t : zTT} {u : zNN} {w : zW} (hI : IV g ad t u w) (hR : REL t) {j r : Nat} (hJ : 7 * j + 7 ≤ g.2.2 41) (hL : g.2.2 41 < 2 ^ 31) (ih : LWI g ad j r) : DW g M_Lw_law lwQ w 1494 [(5, .int (nI (7 * j))), (4, .ref (ad 70)), (3, .ref (ad 69)), (2, .ref (ad 52)), (1, .ref (ad 0)), (0, .ref (g.2.2 40))] [] (100 * (r + 1)) (1000 * (r + 1)) := by
  refine y_base (cs := []) (z_I.nil w) ?_
  refine y_aload_n d_Lw_law_1494 rfl 4 rfl ?_
  refine y_aload_n d_Lw_law_1495 rfl 5 rfl ?_
  refine y_iload d_Lw_law_1496 0 rfl ?_
  refine y_iconst d_Lw_law_1498 (v := 1) (by decide) ?_
  refine y_iadd d_Lw_law_1499 (v := nI ((7 * j) + 1)) (nI_add _ _) ?_
  refine y_sld (v := zs g (7 * j + 1)) d_Lw_law_1500 (vp_in_nI (by omega) (by omega)) (by rw [nI_clamp (by omega)]; rfl) ?_
  refine y_aload_n d_Lw_law_1501 rfl 2 rfl ?_
  refine yw_callSX (As := [.ref (ad 0), .int (zs g (7 * j + 1)), .ref (ad 69)]) (rest := []) ln_Lw_301 w_st_Lw_alloy ok_Lw_law_Lw_alloy d_Lw_law_1502 (fun wA hA => W_alloy (IV.nil hA hI) _) rfl rfl (Nat.le_of_ble_eq_true rfl) (by omega) (by omega) (fun wA1502 hA1502 E wB1502 hx => ?_) (fun wA1502 hA1502 v wB1502 hx => ?_)
  · obtain ⟨⟨v9, e1⟩, -⟩ := hx
    cases e1
  · obtain ⟨⟨v9, e1⟩, u2, hI2⟩ := hx
    cases e1
    refine yw_st (st2 := [.int v9]) rfl ?_
    have hI := hI2
    refine y_base (cs := []) (z_I.nil _) ?_
    refine y_istore (lv' := [(6, .int v9), (5, .int (nI (7 * j))), (4, .ref (ad 70)), (3, .ref (ad 69)), (2, .ref (ad 52)), (1, .ref (ad 0)), (0, .ref (g.2.2 40))]) d_Lw_law_1505 (by decide) rfl ?_
    refine y_aload_n d_Lw_law_1507 rfl 4 rfl ?_
    refine y_aload_n d_Lw_law_1508 rfl 6 rfl ?_
    refine y_iload d_Lw_law_1509 1 rfl ?_
    refine y_iconst d_Lw_law_1511 (v := 1) (by decide) ?_
    refine y_iadd d_Lw_law_1512 (v := nI ((7 * j) + 1)) (nI_add _ _) ?_
    refine y_sld (v := zs g (7 * j + 1)) d_Lw_law_1513 (vp_in_nI (by omega) (by omega)) (by rw [nI_clamp (by omega)]; rfl) ?_
    refine yw_callVL (As := [.int (zs g (7 * j + 1))]) (rest := []) (ci := 12) rfl (fun wA hA => (IV.nil hA hI).rm) ln_Lw_303 w_im_Mm_alloy w_se_Mm_alloy ok_Lw_law_Mm_alloy d_Lw_law_1514 (fun wA hA => K_Mm_alloy (IV.nil hA hI) _) rfl rfl (Nat.le_of_ble_eq_true rfl) (by omega) (by omega) (fun wA1514 hA1514 E wB1514 hx => ?_) (fun wA1514 hA1514 v wB1514 hx => ?_)
    · obtain ⟨⟨v8, e1⟩, -⟩ := hx
      cases e1
    · obtain ⟨⟨v8, e1⟩, u2, hI2⟩ := hx
      cases e1
      refine yw_st (st2 := [.int v8]) rfl ?_
      have hI := hI2
      refine y_base (cs := []) (z_I.nil _) ?_
      refine y_istore (lv' := [(7, .int v8), (6, .int v9), (5, .int (nI (7 * j))), (4, .ref (ad 70)), (3, .ref (ad 69)), (2, .ref (ad 52)), (1, .ref (ad 0)), (0, .ref (g.2.2 40))]) d_Lw_law_1517 (by decide) rfl ?_
      refine y_goto (tgt := 1808) d_Lw_law_1519 (by decide) ?_
      refine y_lv (lv' := [(5, .int (nI (7 * j))), (4, .ref (ad 70)), (3, .ref (ad 69)), (2, .ref (ad 52)), (1, .ref (ad 0)), (0, .ref (g.2.2 40))]) [2, 3, 4, 5, 6, 7] rfl ?_
      refine y_end (fun wC hC => ?_)
      exact LC_next (IV.nil hC hI) hR hJ hL ih (by omega) (by omega)
theorem d_Lw_law_1522 : decode code 1522 = .ok (.aload_n 1, 1) := by decide +kernel
theorem d_Lw_law_1523 : decode code 1523 = .ok (.aload_n 0, 1) := by decide +kernel
theorem d_Lw_law_1524 : decode code 1524 = .ok (.iload 5, 2) := by decide +kernel
theorem d_Lw_law_1526 : decode code 1526 = .ok (.iconst 1, 1) := by decide +kernel
theorem d_Lw_law_1527 : decode code 1527 = .ok (.iadd, 1) := by decide +kernel
theorem d_Lw_law_1528 : decode code 1528 = .ok (.iaload, 1) := by decide +kernel
theorem d_Lw_law_1529 : decode code 1529 = .ok (.aload_n 3, 1) := by decide +kernel
theorem d_Lw_law_1530 : decode code 1530 = .ok (.invokestatic 304, 3) := by decide +kernel
theorem ok_Lw_law_Lw_faults : z_okX M_Lw_law M_Lw_faults 3 := ⟨z_mem (i := 1455) (by decide +kernel) (by decide +kernel), by decide, ⟨by decide +kernel, by decide +kernel, by decide +kernel⟩, ⟨by decide, by decide⟩, z_mem (i := 57) (by decide +kernel) (by decide +kernel), rfl⟩
theorem ln_Lw_304 : Cond.methodLink "IronpourLaw" 304 M_Lw_faults.1 ∈ z_gw := z_mem (i := 1453) (by decide +kernel) (by decide +kernel)
theorem w_st_Lw_faults : Cond.static M_Lw_faults.1 ∈ z_gw := z_mem (i := 1454) (by decide +kernel) (by decide +kernel)
theorem d_Lw_law_1533 : decode code 1533 = .ok (.istore 6, 2) := by decide +kernel
theorem d_Lw_law_1535 : decode code 1535 = .ok (.aload_n 2, 1) := by decide +kernel
theorem d_Lw_law_1536 : decode code 1536 = .ok (.aload_n 0, 1) := by decide +kernel
theorem d_Lw_law_1537 : decode code 1537 = .ok (.iload 5, 2) := by decide +kernel
theorem d_Lw_law_1539 : decode code 1539 = .ok (.iconst 1, 1) := by decide +kernel
theorem d_Lw_law_1540 : decode code 1540 = .ok (.iadd, 1) := by decide +kernel
theorem d_Lw_law_1541 : decode code 1541 = .ok (.iaload, 1) := by decide +kernel
theorem d_Lw_law_1542 : decode code 1542 = .ok (.invokevirtual 306, 3) := by decide +kernel
theorem ok_Lw_law_Mm_faults : z_ok M_Lw_law M_Mm_faults 1 := ⟨z_mem (i := 1998) (by decide +kernel) (by decide +kernel), rfl, ⟨by decide +kernel, by decide +kernel, by decide +kernel⟩, ⟨by decide, by decide⟩, z_mem (i := 71) (by decide +kernel) (by decide +kernel), rfl⟩
theorem ln_Lw_306 : Cond.methodLink "IronpourLaw" 306 M_Mm_faults.1 ∈ z_gw := z_mem (i := 1995) (by decide +kernel) (by decide +kernel)
theorem w_im_Mm_faults : Cond.instanceMethod M_Mm_faults.1 ∈ z_gw := z_mem (i := 1996) (by decide +kernel) (by decide +kernel)
theorem w_se_Mm_faults : Cond.selects M_Mm_faults.1.cls M_Mm_faults.1 M_Mm_faults.1 ∈ z_gw := z_mem (i := 1997) (by decide +kernel) (by decide +kernel)
theorem d_Lw_law_1545 : decode code 1545 = .ok (.istore 7, 2) := by decide +kernel
theorem d_Lw_law_1547 : decode code 1547 = .ok (.goto 261, 3) := by decide +kernel
set_option maxHeartbeats 4000000 in
set_option maxRecDepth 100000 in
theorem LC_faults {g : zG} {ad : Nat → Nat} {t : zTT} {u : zNN} {w : zW} (hI : IV g ad t u w) (hR : REL t) {j r : Nat} (hJ : 7 * j + 7 ≤ g.2.2 41) (hL : g.2.2 41 < 2 ^ 31) (ih : LWI g ad j r) : DW g M_Lw_law lwQ w 1522 [(5, .int (nI (7 * j))), (4, .ref (ad 70)), (3, .ref (ad 69)), (2, .ref (ad 52)), (1, .ref (ad 0)), (0, .ref (g.2.2 40))] [] (100 * (r + 1)) (1000 * (r + 1)) := by
  refine y_base (cs := []) (z_I.nil w) ?_
  refine y_aload_n d_Lw_law_1522 rfl 4 rfl ?_
  refine y_aload_n d_Lw_law_1523 rfl 5 rfl ?_
  refine y_iload d_Lw_law_1524 0 rfl ?_
  refine y_iconst d_Lw_law_1526 (v := 1) (by decide) ?_
  refine y_iadd d_Lw_law_1527 (v := nI ((7 * j) + 1)) (nI_add _ _) ?_
  refine y_sld (v := zs g (7 * j + 1)) d_Lw_law_1528 (vp_in_nI (by omega) (by omega)) (by rw [nI_clamp (by omega)]; rfl) ?_
  refine y_aload_n d_Lw_law_1529 rfl 2 rfl ?_
  refine yw_callSX (As := [.ref (ad 0), .int (zs g (7 * j + 1)), .ref (ad 69)]) (rest := []) ln_Lw_304 w_st_Lw_faults ok_Lw_law_Lw_faults d_Lw_law_1530 (fun wA hA => W_faults (IV.nil hA hI) _) rfl rfl (Nat.le_of_ble_eq_true rfl) (by omega) (by omega) (fun wA1530 hA1530 E wB1530 hx => ?_) (fun wA1530 hA1530 v wB1530 hx => ?_)
  · obtain ⟨⟨v9, e1⟩, -⟩ := hx
    cases e1
  · obtain ⟨⟨v9, e1⟩, u2, hI2⟩ := hx
    cases e1
    refine yw_st (st2 := [.int v9]) rfl ?_
    have hI := hI2
    refine y_base (cs := []) (z_I.nil _) ?_
    refine y_istore (lv' := [(6, .int v9), (5, .int (nI (7 * j))), (4, .ref (ad 70)), (3, .ref (ad 69)), (2, .ref (ad 52)), (1, .ref (ad 0)), (0, .ref (g.2.2 40))]) d_Lw_law_1533 (by decide) rfl ?_
    refine y_aload_n d_Lw_law_1535 rfl 4 rfl ?_
    refine y_aload_n d_Lw_law_1536 rfl 6 rfl ?_
    refine y_iload d_Lw_law_1537 1 rfl ?_
    refine y_iconst d_Lw_law_1539 (v := 1) (by decide) ?_
    refine y_iadd d_Lw_law_1540 (v := nI ((7 * j) + 1)) (nI_add _ _) ?_
    refine y_sld (v := zs g (7 * j + 1)) d_Lw_law_1541 (vp_in_nI (by omega) (by omega)) (by rw [nI_clamp (by omega)]; rfl) ?_
    refine yw_callVL (As := [.int (zs g (7 * j + 1))]) (rest := []) (ci := 12) rfl (fun wA hA => (IV.nil hA hI).rm) ln_Lw_306 w_im_Mm_faults w_se_Mm_faults ok_Lw_law_Mm_faults d_Lw_law_1542 (fun wA hA => K_Mm_faults (IV.nil hA hI) _) rfl rfl (Nat.le_of_ble_eq_true rfl) (by omega) (by omega) (fun wA1542 hA1542 E wB1542 hx => ?_) (fun wA1542 hA1542 v wB1542 hx => ?_)
    · obtain ⟨⟨v8, e1⟩, -⟩ := hx
      cases e1
    · obtain ⟨⟨v8, e1⟩, u2, hI2⟩ := hx
      cases e1
      refine yw_st (st2 := [.int v8]) rfl ?_
      have hI := hI2
      refine y_base (cs := []) (z_I.nil _) ?_
      refine y_istore (lv' := [(7, .int v8), (6, .int v9), (5, .int (nI (7 * j))), (4, .ref (ad 70)), (3, .ref (ad 69)), (2, .ref (ad 52)), (1, .ref (ad 0)), (0, .ref (g.2.2 40))]) d_Lw_law_1545 (by decide) rfl ?_
      refine y_goto (tgt := 1808) d_Lw_law_1547 (by decide) ?_
      refine y_lv (lv' := [(5, .int (nI (7 * j))), (4, .ref (ad 70)), (3, .ref (ad 69)), (2, .ref (ad 52)), (1, .ref (ad 0)), (0, .ref (g.2.2 40))]) [2, 3, 4, 5, 6, 7] rfl ?_
      refine y_end (fun wC hC => ?_)
      exact LC_next (IV.nil hC hI) hR hJ hL ih (by omega) (by omega)
theorem d_Lw_law_1550 : decode code 1550 = .ok (.aload_n 1, 1) := by decide +kernel
theorem d_Lw_law_1551 : decode code 1551 = .ok (.aload_n 0, 1) := by decide +kernel
theorem d_Lw_law_1552 : decode code 1552 = .ok (.iload 5, 2) := by decide +kernel
theorem d_Lw_law_1554 : decode code 1554 = .ok (.iconst 1, 1) := by decide +kernel
theorem d_Lw_law_1555 : decode code 1555 = .ok (.iadd, 1) := by decide +kernel
theorem d_Lw_law_1556 : decode code 1556 = .ok (.iaload, 1) := by decide +kernel
theorem d_Lw_law_1557 : decode code 1557 = .ok (.aload_n 3, 1) := by decide +kernel
theorem d_Lw_law_1558 : decode code 1558 = .ok (.invokestatic 307, 3) := by decide +kernel
theorem ok_Lw_law_Lw_shrunkIn : z_okX M_Lw_law M_Lw_shrunkIn 3 := ⟨z_mem (i := 1462) (by decide +kernel) (by decide +kernel), by decide, ⟨by decide +kernel, by decide +kernel, by decide +kernel⟩, ⟨by decide, by decide⟩, z_mem (i := 57) (by decide +kernel) (by decide +kernel), rfl⟩
theorem ln_Lw_307 : Cond.methodLink "IronpourLaw" 307 M_Lw_shrunkIn.1 ∈ z_gw := z_mem (i := 1460) (by decide +kernel) (by decide +kernel)
theorem w_st_Lw_shrunkIn : Cond.static M_Lw_shrunkIn.1 ∈ z_gw := z_mem (i := 1461) (by decide +kernel) (by decide +kernel)
theorem d_Lw_law_1561 : decode code 1561 = .ok (.istore 6, 2) := by decide +kernel
theorem d_Lw_law_1563 : decode code 1563 = .ok (.aload_n 2, 1) := by decide +kernel
theorem d_Lw_law_1564 : decode code 1564 = .ok (.aload_n 0, 1) := by decide +kernel
theorem d_Lw_law_1565 : decode code 1565 = .ok (.iload 5, 2) := by decide +kernel
theorem d_Lw_law_1567 : decode code 1567 = .ok (.iconst 1, 1) := by decide +kernel
theorem d_Lw_law_1568 : decode code 1568 = .ok (.iadd, 1) := by decide +kernel
theorem d_Lw_law_1569 : decode code 1569 = .ok (.iaload, 1) := by decide +kernel
theorem d_Lw_law_1570 : decode code 1570 = .ok (.invokevirtual 309, 3) := by decide +kernel
theorem ok_Lw_law_Mm_shrunkIn : z_ok M_Lw_law M_Mm_shrunkIn 1 := ⟨z_mem (i := 2002) (by decide +kernel) (by decide +kernel), rfl, ⟨by decide +kernel, by decide +kernel, by decide +kernel⟩, ⟨by decide, by decide⟩, z_mem (i := 71) (by decide +kernel) (by decide +kernel), rfl⟩
theorem ln_Lw_309 : Cond.methodLink "IronpourLaw" 309 M_Mm_shrunkIn.1 ∈ z_gw := z_mem (i := 1999) (by decide +kernel) (by decide +kernel)
theorem w_im_Mm_shrunkIn : Cond.instanceMethod M_Mm_shrunkIn.1 ∈ z_gw := z_mem (i := 2000) (by decide +kernel) (by decide +kernel)
theorem w_se_Mm_shrunkIn : Cond.selects M_Mm_shrunkIn.1.cls M_Mm_shrunkIn.1 M_Mm_shrunkIn.1 ∈ z_gw := z_mem (i := 2001) (by decide +kernel) (by decide +kernel)
theorem d_Lw_law_1573 : decode code 1573 = .ok (.istore 7, 2) := by decide +kernel
theorem d_Lw_law_1575 : decode code 1575 = .ok (.goto 233, 3) := by decide +kernel
set_option maxHeartbeats 4000000 in
set_option maxRecDepth 100000 in
theorem LC_shrunkIn {g : zG} {ad : Nat → Nat} {t : zTT} {u : zNN} {w : zW} (hI : IV g ad t u w) (hR : REL t) {j r : Nat} (hJ : 7 * j + 7 ≤ g.2.2 41) (hL : g.2.2 41 < 2 ^ 31) (ih : LWI g ad j r) : DW g M_Lw_law lwQ w 1550 [(5, .int (nI (7 * j))), (4, .ref (ad 70)), (3, .ref (ad 69)), (2, .ref (ad 52)), (1, .ref (ad 0)), (0, .ref (g.2.2 40))] [] (100 * (r + 1)) (1000 * (r + 1)) := by
  refine y_base (cs := []) (z_I.nil w) ?_
  refine y_aload_n d_Lw_law_1550 rfl 4 rfl ?_
  refine y_aload_n d_Lw_law_1551 rfl 5 rfl ?_
  refine y_iload d_Lw_law_1552 0 rfl ?_
  refine y_iconst d_Lw_law_1554 (v := 1) (by decide) ?_
  refine y_iadd d_Lw_law_1555 (v := nI ((7 * j) + 1)) (nI_add _ _) ?_
  refine y_sld (v := zs g (7 * j + 1)) d_Lw_law_1556 (vp_in_nI (by omega) (by omega)) (by rw [nI_clamp (by omega)]; rfl) ?_
  refine y_aload_n d_Lw_law_1557 rfl 2 rfl ?_
  refine yw_callSX (As := [.ref (ad 0), .int (zs g (7 * j + 1)), .ref (ad 69)]) (rest := []) ln_Lw_307 w_st_Lw_shrunkIn ok_Lw_law_Lw_shrunkIn d_Lw_law_1558 (fun wA hA => W_shrunkIn (IV.nil hA hI) _) rfl rfl (Nat.le_of_ble_eq_true rfl) (by omega) (by omega) (fun wA1558 hA1558 E wB1558 hx => ?_) (fun wA1558 hA1558 v wB1558 hx => ?_)
  · obtain ⟨⟨v9, e1⟩, -⟩ := hx
    cases e1
  · obtain ⟨⟨v9, e1⟩, u2, hI2⟩ := hx
    cases e1
    refine yw_st (st2 := [.int v9]) rfl ?_
    have hI := hI2
    refine y_base (cs := []) (z_I.nil _) ?_
    refine y_istore (lv' := [(6, .int v9), (5, .int (nI (7 * j))), (4, .ref (ad 70)), (3, .ref (ad 69)), (2, .ref (ad 52)), (1, .ref (ad 0)), (0, .ref (g.2.2 40))]) d_Lw_law_1561 (by decide) rfl ?_
    refine y_aload_n d_Lw_law_1563 rfl 4 rfl ?_
    refine y_aload_n d_Lw_law_1564 rfl 6 rfl ?_
    refine y_iload d_Lw_law_1565 1 rfl ?_
    refine y_iconst d_Lw_law_1567 (v := 1) (by decide) ?_
    refine y_iadd d_Lw_law_1568 (v := nI ((7 * j) + 1)) (nI_add _ _) ?_
    refine y_sld (v := zs g (7 * j + 1)) d_Lw_law_1569 (vp_in_nI (by omega) (by omega)) (by rw [nI_clamp (by omega)]; rfl) ?_
    refine yw_callVL (As := [.int (zs g (7 * j + 1))]) (rest := []) (ci := 12) rfl (fun wA hA => (IV.nil hA hI).rm) ln_Lw_309 w_im_Mm_shrunkIn w_se_Mm_shrunkIn ok_Lw_law_Mm_shrunkIn d_Lw_law_1570 (fun wA hA => K_Mm_shrunkIn (IV.nil hA hI) _) rfl rfl (Nat.le_of_ble_eq_true rfl) (by omega) (by omega) (fun wA1570 hA1570 E wB1570 hx => ?_) (fun wA1570 hA1570 v wB1570 hx => ?_)
    · obtain ⟨⟨v8, e1⟩, -⟩ := hx
      cases e1
    · obtain ⟨⟨v8, e1⟩, u2, hI2⟩ := hx
      cases e1
      refine yw_st (st2 := [.int v8]) rfl ?_
      have hI := hI2
      refine y_base (cs := []) (z_I.nil _) ?_
      refine y_istore (lv' := [(7, .int v8), (6, .int v9), (5, .int (nI (7 * j))), (4, .ref (ad 70)), (3, .ref (ad 69)), (2, .ref (ad 52)), (1, .ref (ad 0)), (0, .ref (g.2.2 40))]) d_Lw_law_1573 (by decide) rfl ?_
      refine y_goto (tgt := 1808) d_Lw_law_1575 (by decide) ?_
      refine y_lv (lv' := [(5, .int (nI (7 * j))), (4, .ref (ad 70)), (3, .ref (ad 69)), (2, .ref (ad 52)), (1, .ref (ad 0)), (0, .ref (g.2.2 40))]) [2, 3, 4, 5, 6, 7] rfl ?_
      refine y_end (fun wC hC => ?_)
      exact LC_next (IV.nil hC hI) hR hJ hL ih (by omega) (by omega)
theorem d_Lw_law_1578 : decode code 1578 = .ok (.aload_n 1, 1) := by decide +kernel
theorem d_Lw_law_1579 : decode code 1579 = .ok (.aload_n 0, 1) := by decide +kernel
theorem d_Lw_law_1580 : decode code 1580 = .ok (.iload 5, 2) := by decide +kernel
theorem d_Lw_law_1582 : decode code 1582 = .ok (.iconst 1, 1) := by decide +kernel
theorem d_Lw_law_1583 : decode code 1583 = .ok (.iadd, 1) := by decide +kernel
theorem d_Lw_law_1584 : decode code 1584 = .ok (.iaload, 1) := by decide +kernel
theorem d_Lw_law_1585 : decode code 1585 = .ok (.aload_n 0, 1) := by decide +kernel
theorem d_Lw_law_1586 : decode code 1586 = .ok (.iload 5, 2) := by decide +kernel
theorem d_Lw_law_1588 : decode code 1588 = .ok (.iconst 2, 1) := by decide +kernel
theorem d_Lw_law_1589 : decode code 1589 = .ok (.iadd, 1) := by decide +kernel
theorem d_Lw_law_1590 : decode code 1590 = .ok (.iaload, 1) := by decide +kernel
theorem d_Lw_law_1591 : decode code 1591 = .ok (.i2c, 1) := by decide +kernel
theorem d_Lw_law_1592 : decode code 1592 = .ok (.aload_n 3, 1) := by decide +kernel
theorem d_Lw_law_1593 : decode code 1593 = .ok (.invokestatic 310, 3) := by decide +kernel
theorem ok_Lw_law_Lw_has : z_okX M_Lw_law M_Lw_has 4 := ⟨z_mem (i := 1469) (by decide +kernel) (by decide +kernel), by decide, ⟨by decide +kernel, by decide +kernel, by decide +kernel⟩, ⟨by decide, by decide⟩, z_mem (i := 57) (by decide +kernel) (by decide +kernel), rfl⟩
theorem ln_Lw_310 : Cond.methodLink "IronpourLaw" 310 M_Lw_has.1 ∈ z_gw := z_mem (i := 1467) (by decide +kernel) (by decide +kernel)
theorem w_st_Lw_has : Cond.static M_Lw_has.1 ∈ z_gw := z_mem (i := 1468) (by decide +kernel) (by decide +kernel)
theorem d_Lw_law_1596 : decode code 1596 = .ok (.istore 6, 2) := by decide +kernel
theorem d_Lw_law_1598 : decode code 1598 = .ok (.aload_n 2, 1) := by decide +kernel
theorem d_Lw_law_1599 : decode code 1599 = .ok (.aload_n 0, 1) := by decide +kernel
theorem d_Lw_law_1600 : decode code 1600 = .ok (.iload 5, 2) := by decide +kernel
theorem d_Lw_law_1602 : decode code 1602 = .ok (.iconst 1, 1) := by decide +kernel
theorem d_Lw_law_1603 : decode code 1603 = .ok (.iadd, 1) := by decide +kernel
theorem d_Lw_law_1604 : decode code 1604 = .ok (.iaload, 1) := by decide +kernel
theorem d_Lw_law_1605 : decode code 1605 = .ok (.aload_n 0, 1) := by decide +kernel
theorem d_Lw_law_1606 : decode code 1606 = .ok (.iload 5, 2) := by decide +kernel
theorem d_Lw_law_1608 : decode code 1608 = .ok (.iconst 2, 1) := by decide +kernel
theorem d_Lw_law_1609 : decode code 1609 = .ok (.iadd, 1) := by decide +kernel
theorem d_Lw_law_1610 : decode code 1610 = .ok (.iaload, 1) := by decide +kernel
theorem d_Lw_law_1611 : decode code 1611 = .ok (.i2c, 1) := by decide +kernel
theorem d_Lw_law_1612 : decode code 1612 = .ok (.invokevirtual 313, 3) := by decide +kernel
theorem ok_Lw_law_Mm_has_1 : z_ok M_Lw_law M_Mm_has_1 2 := ⟨z_mem (i := 2006) (by decide +kernel) (by decide +kernel), rfl, ⟨by decide +kernel, by decide +kernel, by decide +kernel⟩, ⟨by decide, by decide⟩, z_mem (i := 71) (by decide +kernel) (by decide +kernel), rfl⟩
theorem ln_Lw_313 : Cond.methodLink "IronpourLaw" 313 M_Mm_has_1.1 ∈ z_gw := z_mem (i := 2003) (by decide +kernel) (by decide +kernel)
theorem w_im_Mm_has_1 : Cond.instanceMethod M_Mm_has_1.1 ∈ z_gw := z_mem (i := 2004) (by decide +kernel) (by decide +kernel)
theorem w_se_Mm_has_1 : Cond.selects M_Mm_has_1.1.cls M_Mm_has_1.1 M_Mm_has_1.1 ∈ z_gw := z_mem (i := 2005) (by decide +kernel) (by decide +kernel)
theorem d_Lw_law_1615 : decode code 1615 = .ok (.istore 7, 2) := by decide +kernel
theorem d_Lw_law_1617 : decode code 1617 = .ok (.goto 191, 3) := by decide +kernel
set_option maxHeartbeats 4000000 in
set_option maxRecDepth 100000 in
theorem LC_has {g : zG} {ad : Nat → Nat} {t : zTT} {u : zNN} {w : zW} (hI : IV g ad t u w) (hR : REL t) {j r : Nat} (hJ : 7 * j + 7 ≤ g.2.2 41) (hL : g.2.2 41 < 2 ^ 31) (ih : LWI g ad j r) : DW g M_Lw_law lwQ w 1578 [(5, .int (nI (7 * j))), (4, .ref (ad 70)), (3, .ref (ad 69)), (2, .ref (ad 52)), (1, .ref (ad 0)), (0, .ref (g.2.2 40))] [] (100 * (r + 1)) (1000 * (r + 1)) := by
  refine y_base (cs := []) (z_I.nil w) ?_
  refine y_aload_n d_Lw_law_1578 rfl 4 rfl ?_
  refine y_aload_n d_Lw_law_1579 rfl 5 rfl ?_
  refine y_iload d_Lw_law_1580 0 rfl ?_
  refine y_iconst d_Lw_law_1582 (v := 1) (by decide) ?_
  refine y_iadd d_Lw_law_1583 (v := nI ((7 * j) + 1)) (nI_add _ _) ?_
  refine y_sld (v := zs g (7 * j + 1)) d_Lw_law_1584 (vp_in_nI (by omega) (by omega)) (by rw [nI_clamp (by omega)]; rfl) ?_
  refine y_aload_n d_Lw_law_1585 rfl 5 rfl ?_
  refine y_iload d_Lw_law_1586 0 rfl ?_
  refine y_iconst d_Lw_law_1588 (v := 2) (by decide) ?_
  refine y_iadd d_Lw_law_1589 (v := nI ((7 * j) + 2)) (nI_add _ _) ?_
  refine y_sld (v := zs g (7 * j + 2)) d_Lw_law_1590 (vp_in_nI (by omega) (by omega)) (by rw [nI_clamp (by omega)]; rfl) ?_
  refine y_i2c d_Lw_law_1591 (v := zc g (7 * j + 2)) rfl ?_
  refine y_aload_n d_Lw_law_1592 rfl 2 rfl ?_
  refine yw_callSX (As := [.ref (ad 0), .int (zs g (7 * j + 1)), .int (zc g (7 * j + 2)), .ref (ad 69)]) (rest := []) ln_Lw_310 w_st_Lw_has ok_Lw_law_Lw_has d_Lw_law_1593 (fun wA hA => W_has (IV.nil hA hI) _ _) rfl rfl (Nat.le_of_ble_eq_true rfl) (by omega) (by omega) (fun wA1593 hA1593 E wB1593 hx => ?_) (fun wA1593 hA1593 v wB1593 hx => ?_)
  · obtain ⟨⟨v9, e1⟩, -⟩ := hx
    cases e1
  · obtain ⟨⟨v9, e1⟩, u2, hI2⟩ := hx
    cases e1
    refine yw_st (st2 := [.int v9]) rfl ?_
    have hI := hI2
    refine y_base (cs := []) (z_I.nil _) ?_
    refine y_istore (lv' := [(6, .int v9), (5, .int (nI (7 * j))), (4, .ref (ad 70)), (3, .ref (ad 69)), (2, .ref (ad 52)), (1, .ref (ad 0)), (0, .ref (g.2.2 40))]) d_Lw_law_1596 (by decide) rfl ?_
    refine y_aload_n d_Lw_law_1598 rfl 4 rfl ?_
    refine y_aload_n d_Lw_law_1599 rfl 6 rfl ?_
    refine y_iload d_Lw_law_1600 1 rfl ?_
    refine y_iconst d_Lw_law_1602 (v := 1) (by decide) ?_
    refine y_iadd d_Lw_law_1603 (v := nI ((7 * j) + 1)) (nI_add _ _) ?_
    refine y_sld (v := zs g (7 * j + 1)) d_Lw_law_1604 (vp_in_nI (by omega) (by omega)) (by rw [nI_clamp (by omega)]; rfl) ?_
    refine y_aload_n d_Lw_law_1605 rfl 6 rfl ?_
    refine y_iload d_Lw_law_1606 1 rfl ?_
    refine y_iconst d_Lw_law_1608 (v := 2) (by decide) ?_
    refine y_iadd d_Lw_law_1609 (v := nI ((7 * j) + 2)) (nI_add _ _) ?_
    refine y_sld (v := zs g (7 * j + 2)) d_Lw_law_1610 (vp_in_nI (by omega) (by omega)) (by rw [nI_clamp (by omega)]; rfl) ?_
    refine y_i2c d_Lw_law_1611 (v := zc g (7 * j + 2)) rfl ?_
    refine yw_callVL (As := [.int (zs g (7 * j + 1)), .int (zc g (7 * j + 2))]) (rest := []) (ci := 12) rfl (fun wA hA => (IV.nil hA hI).rm) ln_Lw_313 w_im_Mm_has_1 w_se_Mm_has_1 ok_Lw_law_Mm_has_1 d_Lw_law_1612 (fun wA hA => K_Mm_has (IV.nil hA hI) _ _) rfl rfl (Nat.le_of_ble_eq_true rfl) (by omega) (by omega) (fun wA1612 hA1612 E wB1612 hx => ?_) (fun wA1612 hA1612 v wB1612 hx => ?_)
    · obtain ⟨⟨v8, e1⟩, -⟩ := hx
      cases e1
    · obtain ⟨⟨v8, e1⟩, u2, hI2⟩ := hx
      cases e1
      refine yw_st (st2 := [.int v8]) rfl ?_
      have hI := hI2
      refine y_base (cs := []) (z_I.nil _) ?_
      refine y_istore (lv' := [(7, .int v8), (6, .int v9), (5, .int (nI (7 * j))), (4, .ref (ad 70)), (3, .ref (ad 69)), (2, .ref (ad 52)), (1, .ref (ad 0)), (0, .ref (g.2.2 40))]) d_Lw_law_1615 (by decide) rfl ?_
      refine y_goto (tgt := 1808) d_Lw_law_1617 (by decide) ?_
      refine y_lv (lv' := [(5, .int (nI (7 * j))), (4, .ref (ad 70)), (3, .ref (ad 69)), (2, .ref (ad 52)), (1, .ref (ad 0)), (0, .ref (g.2.2 40))]) [2, 3, 4, 5, 6, 7] rfl ?_
      refine y_end (fun wC hC => ?_)
      exact LC_next (IV.nil hC hI) hR hJ hL ih (by omega) (by omega)
theorem d_Lw_law_1620 : decode code 1620 = .ok (.aload_n 1, 1) := by decide +kernel
theorem d_Lw_law_1621 : decode code 1621 = .ok (.aload_n 0, 1) := by decide +kernel
theorem d_Lw_law_1622 : decode code 1622 = .ok (.iload 5, 2) := by decide +kernel
theorem d_Lw_law_1624 : decode code 1624 = .ok (.iconst 1, 1) := by decide +kernel
theorem d_Lw_law_1625 : decode code 1625 = .ok (.iadd, 1) := by decide +kernel
theorem d_Lw_law_1626 : decode code 1626 = .ok (.iaload, 1) := by decide +kernel
theorem d_Lw_law_1627 : decode code 1627 = .ok (.aload_n 3, 1) := by decide +kernel
theorem d_Lw_law_1628 : decode code 1628 = .ok (.invokestatic 314, 3) := by decide +kernel
theorem ok_Lw_law_Lw_bar : z_okX M_Lw_law M_Lw_bar 3 := ⟨z_mem (i := 1476) (by decide +kernel) (by decide +kernel), by decide, ⟨by decide +kernel, by decide +kernel, by decide +kernel⟩, ⟨by decide, by decide⟩, z_mem (i := 57) (by decide +kernel) (by decide +kernel), rfl⟩
theorem ln_Lw_314 : Cond.methodLink "IronpourLaw" 314 M_Lw_bar.1 ∈ z_gw := z_mem (i := 1474) (by decide +kernel) (by decide +kernel)
theorem w_st_Lw_bar : Cond.static M_Lw_bar.1 ∈ z_gw := z_mem (i := 1475) (by decide +kernel) (by decide +kernel)
theorem d_Lw_law_1631 : decode code 1631 = .ok (.istore 6, 2) := by decide +kernel
theorem d_Lw_law_1633 : decode code 1633 = .ok (.aload_n 2, 1) := by decide +kernel
theorem d_Lw_law_1634 : decode code 1634 = .ok (.aload_n 0, 1) := by decide +kernel
theorem d_Lw_law_1635 : decode code 1635 = .ok (.iload 5, 2) := by decide +kernel
theorem d_Lw_law_1637 : decode code 1637 = .ok (.iconst 1, 1) := by decide +kernel
theorem d_Lw_law_1638 : decode code 1638 = .ok (.iadd, 1) := by decide +kernel
theorem d_Lw_law_1639 : decode code 1639 = .ok (.iaload, 1) := by decide +kernel
theorem d_Lw_law_1640 : decode code 1640 = .ok (.invokevirtual 316, 3) := by decide +kernel
theorem ok_Lw_law_Mm_bar : z_ok M_Lw_law M_Mm_bar 1 := ⟨z_mem (i := 2015) (by decide +kernel) (by decide +kernel), rfl, ⟨by decide +kernel, by decide +kernel, by decide +kernel⟩, ⟨by decide, by decide⟩, z_mem (i := 71) (by decide +kernel) (by decide +kernel), rfl⟩
theorem ln_Lw_316 : Cond.methodLink "IronpourLaw" 316 M_Mm_bar.1 ∈ z_gw := z_mem (i := 2012) (by decide +kernel) (by decide +kernel)
theorem w_im_Mm_bar : Cond.instanceMethod M_Mm_bar.1 ∈ z_gw := z_mem (i := 2013) (by decide +kernel) (by decide +kernel)
theorem w_se_Mm_bar : Cond.selects M_Mm_bar.1.cls M_Mm_bar.1 M_Mm_bar.1 ∈ z_gw := z_mem (i := 2014) (by decide +kernel) (by decide +kernel)
theorem d_Lw_law_1643 : decode code 1643 = .ok (.istore 7, 2) := by decide +kernel
theorem d_Lw_law_1645 : decode code 1645 = .ok (.goto 163, 3) := by decide +kernel
set_option maxHeartbeats 4000000 in
set_option maxRecDepth 100000 in
theorem LC_bar {g : zG} {ad : Nat → Nat} {t : zTT} {u : zNN} {w : zW} (hI : IV g ad t u w) (hR : REL t) {j r : Nat} (hJ : 7 * j + 7 ≤ g.2.2 41) (hL : g.2.2 41 < 2 ^ 31) (ih : LWI g ad j r) : DW g M_Lw_law lwQ w 1620 [(5, .int (nI (7 * j))), (4, .ref (ad 70)), (3, .ref (ad 69)), (2, .ref (ad 52)), (1, .ref (ad 0)), (0, .ref (g.2.2 40))] [] (100 * (r + 1)) (1000 * (r + 1)) := by
  refine y_base (cs := []) (z_I.nil w) ?_
  refine y_aload_n d_Lw_law_1620 rfl 4 rfl ?_
  refine y_aload_n d_Lw_law_1621 rfl 5 rfl ?_
  refine y_iload d_Lw_law_1622 0 rfl ?_
  refine y_iconst d_Lw_law_1624 (v := 1) (by decide) ?_
  refine y_iadd d_Lw_law_1625 (v := nI ((7 * j) + 1)) (nI_add _ _) ?_
  refine y_sld (v := zs g (7 * j + 1)) d_Lw_law_1626 (vp_in_nI (by omega) (by omega)) (by rw [nI_clamp (by omega)]; rfl) ?_
  refine y_aload_n d_Lw_law_1627 rfl 2 rfl ?_
  refine yw_callSX (As := [.ref (ad 0), .int (zs g (7 * j + 1)), .ref (ad 69)]) (rest := []) ln_Lw_314 w_st_Lw_bar ok_Lw_law_Lw_bar d_Lw_law_1628 (fun wA hA => W_bar (IV.nil hA hI) _) rfl rfl (Nat.le_of_ble_eq_true rfl) (by omega) (by omega) (fun wA1628 hA1628 E wB1628 hx => ?_) (fun wA1628 hA1628 v wB1628 hx => ?_)
  · obtain ⟨⟨v9, e1⟩, -⟩ := hx
    cases e1
  · obtain ⟨⟨v9, e1⟩, u2, hI2⟩ := hx
    cases e1
    refine yw_st (st2 := [.int v9]) rfl ?_
    have hI := hI2
    refine y_base (cs := []) (z_I.nil _) ?_
    refine y_istore (lv' := [(6, .int v9), (5, .int (nI (7 * j))), (4, .ref (ad 70)), (3, .ref (ad 69)), (2, .ref (ad 52)), (1, .ref (ad 0)), (0, .ref (g.2.2 40))]) d_Lw_law_1631 (by decide) rfl ?_
    refine y_aload_n d_Lw_law_1633 rfl 4 rfl ?_
    refine y_aload_n d_Lw_law_1634 rfl 6 rfl ?_
    refine y_iload d_Lw_law_1635 1 rfl ?_
    refine y_iconst d_Lw_law_1637 (v := 1) (by decide) ?_
    refine y_iadd d_Lw_law_1638 (v := nI ((7 * j) + 1)) (nI_add _ _) ?_
    refine y_sld (v := zs g (7 * j + 1)) d_Lw_law_1639 (vp_in_nI (by omega) (by omega)) (by rw [nI_clamp (by omega)]; rfl) ?_
    refine yw_callVL (As := [.int (zs g (7 * j + 1))]) (rest := []) (ci := 12) rfl (fun wA hA => (IV.nil hA hI).rm) ln_Lw_316 w_im_Mm_bar w_se_Mm_bar ok_Lw_law_Mm_bar d_Lw_law_1640 (fun wA hA => K_Mm_bar (IV.nil hA hI) _) rfl rfl (Nat.le_of_ble_eq_true rfl) (by omega) (by omega) (fun wA1640 hA1640 E wB1640 hx => ?_) (fun wA1640 hA1640 v wB1640 hx => ?_)
    · obtain ⟨⟨v8, e1⟩, -⟩ := hx
      cases e1
    · obtain ⟨⟨v8, e1⟩, u2, hI2⟩ := hx
      cases e1
      refine yw_st (st2 := [.int v8]) rfl ?_
      have hI := hI2
      refine y_base (cs := []) (z_I.nil _) ?_
      refine y_istore (lv' := [(7, .int v8), (6, .int v9), (5, .int (nI (7 * j))), (4, .ref (ad 70)), (3, .ref (ad 69)), (2, .ref (ad 52)), (1, .ref (ad 0)), (0, .ref (g.2.2 40))]) d_Lw_law_1643 (by decide) rfl ?_
      refine y_goto (tgt := 1808) d_Lw_law_1645 (by decide) ?_
      refine y_lv (lv' := [(5, .int (nI (7 * j))), (4, .ref (ad 70)), (3, .ref (ad 69)), (2, .ref (ad 52)), (1, .ref (ad 0)), (0, .ref (g.2.2 40))]) [2, 3, 4, 5, 6, 7] rfl ?_
      refine y_end (fun wC hC => ?_)
      exact LC_next (IV.nil hC hI) hR hJ hL ih (by omega) (by omega)
theorem d_Lw_law_1648 : decode code 1648 = .ok (.aload_n 1, 1) := by decide +kernel
theorem d_Lw_law_1649 : decode code 1649 = .ok (.aload_n 0, 1) := by decide +kernel
theorem d_Lw_law_1650 : decode code 1650 = .ok (.iload 5, 2) := by decide +kernel
theorem d_Lw_law_1652 : decode code 1652 = .ok (.iconst 1, 1) := by decide +kernel
theorem d_Lw_law_1653 : decode code 1653 = .ok (.iadd, 1) := by decide +kernel
theorem d_Lw_law_1654 : decode code 1654 = .ok (.iaload, 1) := by decide +kernel
theorem d_Lw_law_1655 : decode code 1655 = .ok (.aload_n 3, 1) := by decide +kernel
theorem d_Lw_law_1656 : decode code 1656 = .ok (.invokestatic 317, 3) := by decide +kernel
theorem ok_Lw_law_Lw_weld : z_okX M_Lw_law M_Lw_weld 3 := ⟨z_mem (i := 1494) (by decide +kernel) (by decide +kernel), by decide, ⟨by decide +kernel, by decide +kernel, by decide +kernel⟩, ⟨by decide, by decide⟩, z_mem (i := 57) (by decide +kernel) (by decide +kernel), rfl⟩
theorem ln_Lw_317 : Cond.methodLink "IronpourLaw" 317 M_Lw_weld.1 ∈ z_gw := z_mem (i := 1492) (by decide +kernel) (by decide +kernel)
theorem w_st_Lw_weld : Cond.static M_Lw_weld.1 ∈ z_gw := z_mem (i := 1493) (by decide +kernel) (by decide +kernel)
theorem d_Lw_law_1659 : decode code 1659 = .ok (.istore 6, 2) := by decide +kernel
theorem d_Lw_law_1661 : decode code 1661 = .ok (.aload_n 2, 1) := by decide +kernel
theorem d_Lw_law_1662 : decode code 1662 = .ok (.aload_n 0, 1) := by decide +kernel
theorem d_Lw_law_1663 : decode code 1663 = .ok (.iload 5, 2) := by decide +kernel
theorem d_Lw_law_1665 : decode code 1665 = .ok (.iconst 1, 1) := by decide +kernel
theorem d_Lw_law_1666 : decode code 1666 = .ok (.iadd, 1) := by decide +kernel
theorem d_Lw_law_1667 : decode code 1667 = .ok (.iaload, 1) := by decide +kernel
theorem d_Lw_law_1668 : decode code 1668 = .ok (.invokevirtual 319, 3) := by decide +kernel
theorem ok_Lw_law_Mm_weld : z_ok M_Lw_law M_Mm_weld 1 := ⟨z_mem (i := 2024) (by decide +kernel) (by decide +kernel), rfl, ⟨by decide +kernel, by decide +kernel, by decide +kernel⟩, ⟨by decide, by decide⟩, z_mem (i := 71) (by decide +kernel) (by decide +kernel), rfl⟩
theorem ln_Lw_319 : Cond.methodLink "IronpourLaw" 319 M_Mm_weld.1 ∈ z_gw := z_mem (i := 2021) (by decide +kernel) (by decide +kernel)
theorem w_im_Mm_weld : Cond.instanceMethod M_Mm_weld.1 ∈ z_gw := z_mem (i := 2022) (by decide +kernel) (by decide +kernel)
theorem w_se_Mm_weld : Cond.selects M_Mm_weld.1.cls M_Mm_weld.1 M_Mm_weld.1 ∈ z_gw := z_mem (i := 2023) (by decide +kernel) (by decide +kernel)
theorem d_Lw_law_1671 : decode code 1671 = .ok (.istore 7, 2) := by decide +kernel
theorem d_Lw_law_1673 : decode code 1673 = .ok (.goto 135, 3) := by decide +kernel
set_option maxHeartbeats 4000000 in
set_option maxRecDepth 100000 in
theorem LC_weld {g : zG} {ad : Nat → Nat} {t : zTT} {u : zNN} {w : zW} (hI : IV g ad t u w) (hR : REL t) {j r : Nat} (hJ : 7 * j + 7 ≤ g.2.2 41) (hL : g.2.2 41 < 2 ^ 31) (ih : LWI g ad j r) : DW g M_Lw_law lwQ w 1648 [(5, .int (nI (7 * j))), (4, .ref (ad 70)), (3, .ref (ad 69)), (2, .ref (ad 52)), (1, .ref (ad 0)), (0, .ref (g.2.2 40))] [] (100 * (r + 1)) (1000 * (r + 1)) := by
  refine y_base (cs := []) (z_I.nil w) ?_
  refine y_aload_n d_Lw_law_1648 rfl 4 rfl ?_
  refine y_aload_n d_Lw_law_1649 rfl 5 rfl ?_
  refine y_iload d_Lw_law_1650 0 rfl ?_
  refine y_iconst d_Lw_law_1652 (v := 1) (by decide) ?_
  refine y_iadd d_Lw_law_1653 (v := nI ((7 * j) + 1)) (nI_add _ _) ?_
  refine y_sld (v := zs g (7 * j + 1)) d_Lw_law_1654 (vp_in_nI (by omega) (by omega)) (by rw [nI_clamp (by omega)]; rfl) ?_
  refine y_aload_n d_Lw_law_1655 rfl 2 rfl ?_
  refine yw_callSX (As := [.ref (ad 0), .int (zs g (7 * j + 1)), .ref (ad 69)]) (rest := []) ln_Lw_317 w_st_Lw_weld ok_Lw_law_Lw_weld d_Lw_law_1656 (fun wA hA => W_weld (IV.nil hA hI) _) rfl rfl (Nat.le_of_ble_eq_true rfl) (by omega) (by omega) (fun wA1656 hA1656 E wB1656 hx => ?_) (fun wA1656 hA1656 v wB1656 hx => ?_)
  · obtain ⟨⟨v9, e1⟩, -⟩ := hx
    cases e1
  · obtain ⟨⟨v9, e1⟩, u2, hI2⟩ := hx
    cases e1
    refine yw_st (st2 := [.int v9]) rfl ?_
    have hI := hI2
    refine y_base (cs := []) (z_I.nil _) ?_
    refine y_istore (lv' := [(6, .int v9), (5, .int (nI (7 * j))), (4, .ref (ad 70)), (3, .ref (ad 69)), (2, .ref (ad 52)), (1, .ref (ad 0)), (0, .ref (g.2.2 40))]) d_Lw_law_1659 (by decide) rfl ?_
    refine y_aload_n d_Lw_law_1661 rfl 4 rfl ?_
    refine y_aload_n d_Lw_law_1662 rfl 6 rfl ?_
    refine y_iload d_Lw_law_1663 1 rfl ?_
    refine y_iconst d_Lw_law_1665 (v := 1) (by decide) ?_
    refine y_iadd d_Lw_law_1666 (v := nI ((7 * j) + 1)) (nI_add _ _) ?_
    refine y_sld (v := zs g (7 * j + 1)) d_Lw_law_1667 (vp_in_nI (by omega) (by omega)) (by rw [nI_clamp (by omega)]; rfl) ?_
    refine yw_callVL (As := [.int (zs g (7 * j + 1))]) (rest := []) (ci := 12) rfl (fun wA hA => (IV.nil hA hI).rm) ln_Lw_319 w_im_Mm_weld w_se_Mm_weld ok_Lw_law_Mm_weld d_Lw_law_1668 (fun wA hA => K_Mm_weld (IV.nil hA hI) _) rfl rfl (Nat.le_of_ble_eq_true rfl) (by omega) (by omega) (fun wA1668 hA1668 E wB1668 hx => ?_) (fun wA1668 hA1668 v wB1668 hx => ?_)
    · obtain ⟨⟨v8, e1⟩, -⟩ := hx
      cases e1
    · obtain ⟨⟨v8, e1⟩, u2, hI2⟩ := hx
      cases e1
      refine yw_st (st2 := [.int v8]) rfl ?_
      have hI := hI2
      refine y_base (cs := []) (z_I.nil _) ?_
      refine y_istore (lv' := [(7, .int v8), (6, .int v9), (5, .int (nI (7 * j))), (4, .ref (ad 70)), (3, .ref (ad 69)), (2, .ref (ad 52)), (1, .ref (ad 0)), (0, .ref (g.2.2 40))]) d_Lw_law_1671 (by decide) rfl ?_
      refine y_goto (tgt := 1808) d_Lw_law_1673 (by decide) ?_
      refine y_lv (lv' := [(5, .int (nI (7 * j))), (4, .ref (ad 70)), (3, .ref (ad 69)), (2, .ref (ad 52)), (1, .ref (ad 0)), (0, .ref (g.2.2 40))]) [2, 3, 4, 5, 6, 7] rfl ?_
      refine y_end (fun wC hC => ?_)
      exact LC_next (IV.nil hC hI) hR hJ hL ih (by omega) (by omega)
theorem d_Lw_law_1676 : decode code 1676 = .ok (.aload_n 1, 1) := by decide +kernel
theorem d_Lw_law_1677 : decode code 1677 = .ok (.aload_n 0, 1) := by decide +kernel
theorem d_Lw_law_1678 : decode code 1678 = .ok (.iload 5, 2) := by decide +kernel
theorem d_Lw_law_1680 : decode code 1680 = .ok (.iconst 1, 1) := by decide +kernel
theorem d_Lw_law_1681 : decode code 1681 = .ok (.iadd, 1) := by decide +kernel
theorem d_Lw_law_1682 : decode code 1682 = .ok (.iaload, 1) := by decide +kernel
theorem d_Lw_law_1683 : decode code 1683 = .ok (.aload_n 3, 1) := by decide +kernel
theorem d_Lw_law_1684 : decode code 1684 = .ok (.invokestatic 320, 3) := by decide +kernel
theorem ok_Lw_law_Lw_deliver : z_okX M_Lw_law M_Lw_deliver 3 := ⟨z_mem (i := 1510) (by decide +kernel) (by decide +kernel), by decide, ⟨by decide +kernel, by decide +kernel, by decide +kernel⟩, ⟨by decide, by decide⟩, z_mem (i := 57) (by decide +kernel) (by decide +kernel), rfl⟩
theorem ln_Lw_320 : Cond.methodLink "IronpourLaw" 320 M_Lw_deliver.1 ∈ z_gw := z_mem (i := 1508) (by decide +kernel) (by decide +kernel)
theorem w_st_Lw_deliver : Cond.static M_Lw_deliver.1 ∈ z_gw := z_mem (i := 1509) (by decide +kernel) (by decide +kernel)
theorem d_Lw_law_1687 : decode code 1687 = .ok (.istore 6, 2) := by decide +kernel
theorem d_Lw_law_1689 : decode code 1689 = .ok (.aload_n 2, 1) := by decide +kernel
theorem d_Lw_law_1690 : decode code 1690 = .ok (.aload_n 0, 1) := by decide +kernel
theorem d_Lw_law_1691 : decode code 1691 = .ok (.iload 5, 2) := by decide +kernel
theorem d_Lw_law_1693 : decode code 1693 = .ok (.iconst 1, 1) := by decide +kernel
theorem d_Lw_law_1694 : decode code 1694 = .ok (.iadd, 1) := by decide +kernel
theorem d_Lw_law_1695 : decode code 1695 = .ok (.iaload, 1) := by decide +kernel
theorem d_Lw_law_1696 : decode code 1696 = .ok (.invokevirtual 322, 3) := by decide +kernel
theorem ok_Lw_law_Mm_deliver : z_ok M_Lw_law M_Mm_deliver 1 := ⟨z_mem (i := 2028) (by decide +kernel) (by decide +kernel), rfl, ⟨by decide +kernel, by decide +kernel, by decide +kernel⟩, ⟨by decide, by decide⟩, z_mem (i := 71) (by decide +kernel) (by decide +kernel), rfl⟩
theorem ln_Lw_322 : Cond.methodLink "IronpourLaw" 322 M_Mm_deliver.1 ∈ z_gw := z_mem (i := 2025) (by decide +kernel) (by decide +kernel)
theorem w_im_Mm_deliver : Cond.instanceMethod M_Mm_deliver.1 ∈ z_gw := z_mem (i := 2026) (by decide +kernel) (by decide +kernel)
theorem w_se_Mm_deliver : Cond.selects M_Mm_deliver.1.cls M_Mm_deliver.1 M_Mm_deliver.1 ∈ z_gw := z_mem (i := 2027) (by decide +kernel) (by decide +kernel)
theorem d_Lw_law_1699 : decode code 1699 = .ok (.istore 7, 2) := by decide +kernel
theorem d_Lw_law_1701 : decode code 1701 = .ok (.goto 107, 3) := by decide +kernel
set_option maxHeartbeats 4000000 in
set_option maxRecDepth 100000 in
theorem LC_deliver {g : zG} {ad : Nat → Nat} {t : zTT} {u : zNN} {w : zW} (hI : IV g ad t u w) (hR : REL t) {j r : Nat} (hJ : 7 * j + 7 ≤ g.2.2 41) (hL : g.2.2 41 < 2 ^ 31) (ih : LWI g ad j r) : DW g M_Lw_law lwQ w 1676 [(5, .int (nI (7 * j))), (4, .ref (ad 70)), (3, .ref (ad 69)), (2, .ref (ad 52)), (1, .ref (ad 0)), (0, .ref (g.2.2 40))] [] (100 * (r + 1)) (1000 * (r + 1)) := by
  refine y_base (cs := []) (z_I.nil w) ?_
  refine y_aload_n d_Lw_law_1676 rfl 4 rfl ?_
  refine y_aload_n d_Lw_law_1677 rfl 5 rfl ?_
  refine y_iload d_Lw_law_1678 0 rfl ?_
  refine y_iconst d_Lw_law_1680 (v := 1) (by decide) ?_
  refine y_iadd d_Lw_law_1681 (v := nI ((7 * j) + 1)) (nI_add _ _) ?_
  refine y_sld (v := zs g (7 * j + 1)) d_Lw_law_1682 (vp_in_nI (by omega) (by omega)) (by rw [nI_clamp (by omega)]; rfl) ?_
  refine y_aload_n d_Lw_law_1683 rfl 2 rfl ?_
  refine yw_callSX (As := [.ref (ad 0), .int (zs g (7 * j + 1)), .ref (ad 69)]) (rest := []) ln_Lw_320 w_st_Lw_deliver ok_Lw_law_Lw_deliver d_Lw_law_1684 (fun wA hA => W_deliver (IV.nil hA hI) _) rfl rfl (Nat.le_of_ble_eq_true rfl) (by omega) (by omega) (fun wA1684 hA1684 E wB1684 hx => ?_) (fun wA1684 hA1684 v wB1684 hx => ?_)
  · obtain ⟨⟨v9, e1⟩, -⟩ := hx
    cases e1
  · obtain ⟨⟨v9, e1⟩, u2, hI2⟩ := hx
    cases e1
    refine yw_st (st2 := [.int v9]) rfl ?_
    have hI := hI2
    refine y_base (cs := []) (z_I.nil _) ?_
    refine y_istore (lv' := [(6, .int v9), (5, .int (nI (7 * j))), (4, .ref (ad 70)), (3, .ref (ad 69)), (2, .ref (ad 52)), (1, .ref (ad 0)), (0, .ref (g.2.2 40))]) d_Lw_law_1687 (by decide) rfl ?_
    refine y_aload_n d_Lw_law_1689 rfl 4 rfl ?_
    refine y_aload_n d_Lw_law_1690 rfl 6 rfl ?_
    refine y_iload d_Lw_law_1691 1 rfl ?_
    refine y_iconst d_Lw_law_1693 (v := 1) (by decide) ?_
    refine y_iadd d_Lw_law_1694 (v := nI ((7 * j) + 1)) (nI_add _ _) ?_
    refine y_sld (v := zs g (7 * j + 1)) d_Lw_law_1695 (vp_in_nI (by omega) (by omega)) (by rw [nI_clamp (by omega)]; rfl) ?_
    refine yw_callVL (As := [.int (zs g (7 * j + 1))]) (rest := []) (ci := 12) rfl (fun wA hA => (IV.nil hA hI).rm) ln_Lw_322 w_im_Mm_deliver w_se_Mm_deliver ok_Lw_law_Mm_deliver d_Lw_law_1696 (fun wA hA => K_Mm_deliver (IV.nil hA hI) _) rfl rfl (Nat.le_of_ble_eq_true rfl) (by omega) (by omega) (fun wA1696 hA1696 E wB1696 hx => ?_) (fun wA1696 hA1696 v wB1696 hx => ?_)
    · obtain ⟨⟨v8, e1⟩, -⟩ := hx
      cases e1
    · obtain ⟨⟨v8, e1⟩, u2, hI2⟩ := hx
      cases e1
      refine yw_st (st2 := [.int v8]) rfl ?_
      have hI := hI2
      refine y_base (cs := []) (z_I.nil _) ?_
      refine y_istore (lv' := [(7, .int v8), (6, .int v9), (5, .int (nI (7 * j))), (4, .ref (ad 70)), (3, .ref (ad 69)), (2, .ref (ad 52)), (1, .ref (ad 0)), (0, .ref (g.2.2 40))]) d_Lw_law_1699 (by decide) rfl ?_
      refine y_goto (tgt := 1808) d_Lw_law_1701 (by decide) ?_
      refine y_lv (lv' := [(5, .int (nI (7 * j))), (4, .ref (ad 70)), (3, .ref (ad 69)), (2, .ref (ad 52)), (1, .ref (ad 0)), (0, .ref (g.2.2 40))]) [2, 3, 4, 5, 6, 7] rfl ?_
      refine y_end (fun wC hC => ?_)
      exact LC_next (IV.nil hC hI) hR hJ hL ih (by omega) (by omega)
theorem d_Lw_law_1704 : decode code 1704 = .ok (.aload_n 1, 1) := by decide +kernel
theorem d_Lw_law_1705 : decode code 1705 = .ok (.aload_n 0, 1) := by decide +kernel
theorem d_Lw_law_1706 : decode code 1706 = .ok (.iload 5, 2) := by decide +kernel
theorem d_Lw_law_1708 : decode code 1708 = .ok (.iconst 1, 1) := by decide +kernel
theorem d_Lw_law_1709 : decode code 1709 = .ok (.iadd, 1) := by decide +kernel
theorem d_Lw_law_1710 : decode code 1710 = .ok (.iaload, 1) := by decide +kernel
theorem d_Lw_law_1711 : decode code 1711 = .ok (.aload_n 3, 1) := by decide +kernel
theorem d_Lw_law_1712 : decode code 1712 = .ok (.invokestatic 323, 3) := by decide +kernel
theorem ok_Lw_law_Lw_breakUp : z_okX M_Lw_law M_Lw_breakUp 3 := ⟨z_mem (i := 1517) (by decide +kernel) (by decide +kernel), by decide, ⟨by decide +kernel, by decide +kernel, by decide +kernel⟩, ⟨by decide, by decide⟩, z_mem (i := 57) (by decide +kernel) (by decide +kernel), rfl⟩
theorem ln_Lw_323 : Cond.methodLink "IronpourLaw" 323 M_Lw_breakUp.1 ∈ z_gw := z_mem (i := 1515) (by decide +kernel) (by decide +kernel)
theorem w_st_Lw_breakUp : Cond.static M_Lw_breakUp.1 ∈ z_gw := z_mem (i := 1516) (by decide +kernel) (by decide +kernel)
theorem d_Lw_law_1715 : decode code 1715 = .ok (.istore 6, 2) := by decide +kernel
theorem d_Lw_law_1717 : decode code 1717 = .ok (.aload_n 2, 1) := by decide +kernel
theorem d_Lw_law_1718 : decode code 1718 = .ok (.aload_n 0, 1) := by decide +kernel
theorem d_Lw_law_1719 : decode code 1719 = .ok (.iload 5, 2) := by decide +kernel
theorem d_Lw_law_1721 : decode code 1721 = .ok (.iconst 1, 1) := by decide +kernel
theorem d_Lw_law_1722 : decode code 1722 = .ok (.iadd, 1) := by decide +kernel
theorem d_Lw_law_1723 : decode code 1723 = .ok (.iaload, 1) := by decide +kernel
theorem d_Lw_law_1724 : decode code 1724 = .ok (.invokevirtual 325, 3) := by decide +kernel
theorem ok_Lw_law_Mm_breakUp : z_ok M_Lw_law M_Mm_breakUp 1 := ⟨z_mem (i := 2032) (by decide +kernel) (by decide +kernel), rfl, ⟨by decide +kernel, by decide +kernel, by decide +kernel⟩, ⟨by decide, by decide⟩, z_mem (i := 71) (by decide +kernel) (by decide +kernel), rfl⟩
theorem ln_Lw_325 : Cond.methodLink "IronpourLaw" 325 M_Mm_breakUp.1 ∈ z_gw := z_mem (i := 2029) (by decide +kernel) (by decide +kernel)
theorem w_im_Mm_breakUp : Cond.instanceMethod M_Mm_breakUp.1 ∈ z_gw := z_mem (i := 2030) (by decide +kernel) (by decide +kernel)
theorem w_se_Mm_breakUp : Cond.selects M_Mm_breakUp.1.cls M_Mm_breakUp.1 M_Mm_breakUp.1 ∈ z_gw := z_mem (i := 2031) (by decide +kernel) (by decide +kernel)
theorem d_Lw_law_1727 : decode code 1727 = .ok (.istore 7, 2) := by decide +kernel
theorem d_Lw_law_1729 : decode code 1729 = .ok (.goto 79, 3) := by decide +kernel
set_option maxHeartbeats 4000000 in
set_option maxRecDepth 100000 in
theorem LC_breakUp {g : zG} {ad : Nat → Nat} {t : zTT} {u : zNN} {w : zW} (hI : IV g ad t u w) (hR : REL t) {j r : Nat} (hJ : 7 * j + 7 ≤ g.2.2 41) (hL : g.2.2 41 < 2 ^ 31) (ih : LWI g ad j r) : DW g M_Lw_law lwQ w 1704 [(5, .int (nI (7 * j))), (4, .ref (ad 70)), (3, .ref (ad 69)), (2, .ref (ad 52)), (1, .ref (ad 0)), (0, .ref (g.2.2 40))] [] (100 * (r + 1)) (1000 * (r + 1)) := by
  refine y_base (cs := []) (z_I.nil w) ?_
  refine y_aload_n d_Lw_law_1704 rfl 4 rfl ?_
  refine y_aload_n d_Lw_law_1705 rfl 5 rfl ?_
  refine y_iload d_Lw_law_1706 0 rfl ?_
  refine y_iconst d_Lw_law_1708 (v := 1) (by decide) ?_
  refine y_iadd d_Lw_law_1709 (v := nI ((7 * j) + 1)) (nI_add _ _) ?_
  refine y_sld (v := zs g (7 * j + 1)) d_Lw_law_1710 (vp_in_nI (by omega) (by omega)) (by rw [nI_clamp (by omega)]; rfl) ?_
  refine y_aload_n d_Lw_law_1711 rfl 2 rfl ?_
  refine yw_callSX (As := [.ref (ad 0), .int (zs g (7 * j + 1)), .ref (ad 69)]) (rest := []) ln_Lw_323 w_st_Lw_breakUp ok_Lw_law_Lw_breakUp d_Lw_law_1712 (fun wA hA => W_breakUp (IV.nil hA hI) _) rfl rfl (Nat.le_of_ble_eq_true rfl) (by omega) (by omega) (fun wA1712 hA1712 E wB1712 hx => ?_) (fun wA1712 hA1712 v wB1712 hx => ?_)
  · obtain ⟨⟨v9, e1⟩, -⟩ := hx
    cases e1
  · obtain ⟨⟨v9, e1⟩, u2, hI2⟩ := hx
    cases e1
    refine yw_st (st2 := [.int v9]) rfl ?_
    have hI := hI2
    refine y_base (cs := []) (z_I.nil _) ?_
    refine y_istore (lv' := [(6, .int v9), (5, .int (nI (7 * j))), (4, .ref (ad 70)), (3, .ref (ad 69)), (2, .ref (ad 52)), (1, .ref (ad 0)), (0, .ref (g.2.2 40))]) d_Lw_law_1715 (by decide) rfl ?_
    refine y_aload_n d_Lw_law_1717 rfl 4 rfl ?_
    refine y_aload_n d_Lw_law_1718 rfl 6 rfl ?_
    refine y_iload d_Lw_law_1719 1 rfl ?_
    refine y_iconst d_Lw_law_1721 (v := 1) (by decide) ?_
    refine y_iadd d_Lw_law_1722 (v := nI ((7 * j) + 1)) (nI_add _ _) ?_
    refine y_sld (v := zs g (7 * j + 1)) d_Lw_law_1723 (vp_in_nI (by omega) (by omega)) (by rw [nI_clamp (by omega)]; rfl) ?_
    refine yw_callVL (As := [.int (zs g (7 * j + 1))]) (rest := []) (ci := 12) rfl (fun wA hA => (IV.nil hA hI).rm) ln_Lw_325 w_im_Mm_breakUp w_se_Mm_breakUp ok_Lw_law_Mm_breakUp d_Lw_law_1724 (fun wA hA => K_Mm_breakUp (IV.nil hA hI) _) rfl rfl (Nat.le_of_ble_eq_true rfl) (by omega) (by omega) (fun wA1724 hA1724 E wB1724 hx => ?_) (fun wA1724 hA1724 v wB1724 hx => ?_)
    · obtain ⟨⟨v8, e1⟩, -⟩ := hx
      cases e1
    · obtain ⟨⟨v8, e1⟩, u2, hI2⟩ := hx
      cases e1
      refine yw_st (st2 := [.int v8]) rfl ?_
      have hI := hI2
      refine y_base (cs := []) (z_I.nil _) ?_
      refine y_istore (lv' := [(7, .int v8), (6, .int v9), (5, .int (nI (7 * j))), (4, .ref (ad 70)), (3, .ref (ad 69)), (2, .ref (ad 52)), (1, .ref (ad 0)), (0, .ref (g.2.2 40))]) d_Lw_law_1727 (by decide) rfl ?_
      refine y_goto (tgt := 1808) d_Lw_law_1729 (by decide) ?_
      refine y_lv (lv' := [(5, .int (nI (7 * j))), (4, .ref (ad 70)), (3, .ref (ad 69)), (2, .ref (ad 52)), (1, .ref (ad 0)), (0, .ref (g.2.2 40))]) [2, 3, 4, 5, 6, 7] rfl ?_
      refine y_end (fun wC hC => ?_)
      exact LC_next (IV.nil hC hI) hR hJ hL ih (by omega) (by omega)
theorem d_Lw_law_1732 : decode code 1732 = .ok (.aload_n 1, 1) := by decide +kernel
theorem d_Lw_law_1733 : decode code 1733 = .ok (.aload_n 3, 1) := by decide +kernel
theorem d_Lw_law_1734 : decode code 1734 = .ok (.invokestatic 326, 3) := by decide +kernel
theorem ok_Lw_law_Lw_worst : z_okX M_Lw_law M_Lw_worst 2 := ⟨z_mem (i := 1528) (by decide +kernel) (by decide +kernel), by decide, ⟨by decide +kernel, by decide +kernel, by decide +kernel⟩, ⟨by decide, by decide⟩, z_mem (i := 57) (by decide +kernel) (by decide +kernel), rfl⟩
theorem ln_Lw_326 : Cond.methodLink "IronpourLaw" 326 M_Lw_worst.1 ∈ z_gw := z_mem (i := 1526) (by decide +kernel) (by decide +kernel)
theorem w_st_Lw_worst : Cond.static M_Lw_worst.1 ∈ z_gw := z_mem (i := 1527) (by decide +kernel) (by decide +kernel)
theorem d_Lw_law_1737 : decode code 1737 = .ok (.istore 6, 2) := by decide +kernel
theorem d_Lw_law_1739 : decode code 1739 = .ok (.aload_n 2, 1) := by decide +kernel
theorem d_Lw_law_1740 : decode code 1740 = .ok (.invokevirtual 328, 3) := by decide +kernel
theorem ok_Lw_law_Mm_worst : z_ok M_Lw_law M_Mm_worst 0 := ⟨z_mem (i := 2036) (by decide +kernel) (by decide +kernel), rfl, ⟨by decide +kernel, by decide +kernel, by decide +kernel⟩, ⟨by decide, by decide⟩, z_mem (i := 71) (by decide +kernel) (by decide +kernel), rfl⟩
theorem ln_Lw_328 : Cond.methodLink "IronpourLaw" 328 M_Mm_worst.1 ∈ z_gw := z_mem (i := 2033) (by decide +kernel) (by decide +kernel)
theorem w_im_Mm_worst : Cond.instanceMethod M_Mm_worst.1 ∈ z_gw := z_mem (i := 2034) (by decide +kernel) (by decide +kernel)
theorem w_se_Mm_worst : Cond.selects M_Mm_worst.1.cls M_Mm_worst.1 M_Mm_worst.1 ∈ z_gw := z_mem (i := 2035) (by decide +kernel) (by decide +kernel)
theorem d_Lw_law_1743 : decode code 1743 = .ok (.istore 7, 2) := by decide +kernel
theorem d_Lw_law_1745 : decode code 1745 = .ok (.goto 63, 3) := by decide +kernel
set_option maxHeartbeats 4000000 in
set_option maxRecDepth 100000 in
theorem LC_worst {g : zG} {ad : Nat → Nat} {t : zTT} {u : zNN} {w : zW} (hI : IV g ad t u w) (hR : REL t) {j r : Nat} (hJ : 7 * j + 7 ≤ g.2.2 41) (hL : g.2.2 41 < 2 ^ 31) (ih : LWI g ad j r) : DW g M_Lw_law lwQ w 1732 [(5, .int (nI (7 * j))), (4, .ref (ad 70)), (3, .ref (ad 69)), (2, .ref (ad 52)), (1, .ref (ad 0)), (0, .ref (g.2.2 40))] [] (100 * (r + 1)) (1000 * (r + 1)) := by
  refine y_base (cs := []) (z_I.nil w) ?_
  refine y_aload_n d_Lw_law_1732 rfl 4 rfl ?_
  refine y_aload_n d_Lw_law_1733 rfl 2 rfl ?_
  refine yw_callSX (As := [.ref (ad 0), .ref (ad 69)]) (rest := []) ln_Lw_326 w_st_Lw_worst ok_Lw_law_Lw_worst d_Lw_law_1734 (fun wA hA => W_worst (IV.nil hA hI)) rfl rfl (Nat.le_of_ble_eq_true rfl) (by omega) (by omega) (fun wA1734 hA1734 E wB1734 hx => ?_) (fun wA1734 hA1734 v wB1734 hx => ?_)
  · obtain ⟨⟨v9, e1⟩, -⟩ := hx
    cases e1
  · obtain ⟨⟨v9, e1⟩, u2, hI2⟩ := hx
    cases e1
    refine yw_st (st2 := [.int v9]) rfl ?_
    have hI := hI2
    refine y_base (cs := []) (z_I.nil _) ?_
    refine y_istore (lv' := [(6, .int v9), (5, .int (nI (7 * j))), (4, .ref (ad 70)), (3, .ref (ad 69)), (2, .ref (ad 52)), (1, .ref (ad 0)), (0, .ref (g.2.2 40))]) d_Lw_law_1737 (by decide) rfl ?_
    refine y_aload_n d_Lw_law_1739 rfl 4 rfl ?_
    refine yw_callVL (As := []) (rest := []) (ci := 12) rfl (fun wA hA => (IV.nil hA hI).rm) ln_Lw_328 w_im_Mm_worst w_se_Mm_worst ok_Lw_law_Mm_worst d_Lw_law_1740 (fun wA hA => K_Mm_worst (IV.nil hA hI)) rfl rfl (Nat.le_of_ble_eq_true rfl) (by omega) (by omega) (fun wA1740 hA1740 E wB1740 hx => ?_) (fun wA1740 hA1740 v wB1740 hx => ?_)
    · obtain ⟨⟨v8, e1⟩, -⟩ := hx
      cases e1
    · obtain ⟨⟨v8, e1⟩, u2, hI2⟩ := hx
      cases e1
      refine yw_st (st2 := [.int v8]) rfl ?_
      have hI := hI2
      refine y_base (cs := []) (z_I.nil _) ?_
      refine y_istore (lv' := [(7, .int v8), (6, .int v9), (5, .int (nI (7 * j))), (4, .ref (ad 70)), (3, .ref (ad 69)), (2, .ref (ad 52)), (1, .ref (ad 0)), (0, .ref (g.2.2 40))]) d_Lw_law_1743 (by decide) rfl ?_
      refine y_goto (tgt := 1808) d_Lw_law_1745 (by decide) ?_
      refine y_lv (lv' := [(5, .int (nI (7 * j))), (4, .ref (ad 70)), (3, .ref (ad 69)), (2, .ref (ad 52)), (1, .ref (ad 0)), (0, .ref (g.2.2 40))]) [2, 3, 4, 5, 6, 7] rfl ?_
      refine y_end (fun wC hC => ?_)
      exact LC_next (IV.nil hC hI) hR hJ hL ih (by omega) (by omega)
theorem d_Lw_law_1748 : decode code 1748 = .ok (.aload_n 1, 1) := by decide +kernel
theorem d_Lw_law_1749 : decode code 1749 = .ok (.invokevirtual 329, 3) := by decide +kernel
theorem ok_Lw_law_Ip_delivered : z_ok M_Lw_law M_Ip_delivered 0 := ⟨z_mem (i := 473) (by decide +kernel) (by decide +kernel), rfl, ⟨by decide +kernel, by decide +kernel, by decide +kernel⟩, ⟨by decide, by decide⟩, z_mem (i := 58) (by decide +kernel) (by decide +kernel), rfl⟩
theorem ln_Lw_329 : Cond.methodLink "IronpourLaw" 329 M_Ip_delivered.1 ∈ z_gw := z_mem (i := 470) (by decide +kernel) (by decide +kernel)
theorem d_Lw_law_1752 : decode code 1752 = .ok (.pop2, 1) := by decide +kernel
theorem d_Lw_law_1753 : decode code 1753 = .ok (.aload_n 2, 1) := by decide +kernel
theorem d_Lw_law_1754 : decode code 1754 = .ok (.invokevirtual 333, 3) := by decide +kernel
theorem ok_Lw_law_Mm_delivered : z_ok M_Lw_law M_Mm_delivered 0 := ⟨z_mem (i := 2044) (by decide +kernel) (by decide +kernel), rfl, ⟨by decide +kernel, by decide +kernel, by decide +kernel⟩, ⟨by decide, by decide⟩, z_mem (i := 71) (by decide +kernel) (by decide +kernel), rfl⟩
theorem ln_Lw_333 : Cond.methodLink "IronpourLaw" 333 M_Mm_delivered.1 ∈ z_gw := z_mem (i := 2041) (by decide +kernel) (by decide +kernel)
theorem w_im_Mm_delivered : Cond.instanceMethod M_Mm_delivered.1 ∈ z_gw := z_mem (i := 2042) (by decide +kernel) (by decide +kernel)
theorem w_se_Mm_delivered : Cond.selects M_Mm_delivered.1.cls M_Mm_delivered.1 M_Mm_delivered.1 ∈ z_gw := z_mem (i := 2043) (by decide +kernel) (by decide +kernel)
theorem d_Lw_law_1757 : decode code 1757 = .ok (.pop2, 1) := by decide +kernel
theorem d_Lw_law_1758 : decode code 1758 = .ok (.goto 50, 3) := by decide +kernel
set_option maxHeartbeats 4000000 in
set_option maxRecDepth 100000 in
theorem LC_delivered {g : zG} {ad : Nat → Nat} {t : zTT} {u : zNN} {w : zW} (hI : IV g ad t u w) (hR : REL t) {j r : Nat} (hJ : 7 * j + 7 ≤ g.2.2 41) (hL : g.2.2 41 < 2 ^ 31) (ih : LWI g ad j r) : DW g M_Lw_law lwQ w 1748 [(5, .int (nI (7 * j))), (4, .ref (ad 70)), (3, .ref (ad 69)), (2, .ref (ad 52)), (1, .ref (ad 0)), (0, .ref (g.2.2 40))] [] (100 * (r + 1)) (1000 * (r + 1)) := by
  refine y_base (cs := []) (z_I.nil w) ?_
  refine y_aload_n d_Lw_law_1748 rfl 4 rfl ?_
  refine yw_callVL (As := []) (rest := []) (ci := 11) rfl (fun wA hA => (IV.nil hA hI).ra) ln_Lw_329 w_im_Ip_delivered w_se_Ip_delivered ok_Lw_law_Ip_delivered d_Lw_law_1749 (fun wA hA => Q_delivered (IV.nil hA hI)) rfl rfl (Nat.le_of_ble_eq_true rfl) (by omega) (by omega) (fun wA1749 hA1749 E wB1749 hx => ?_) (fun wA1749 hA1749 v wB1749 hx => ?_)
  · obtain ⟨⟨v9, e1⟩, -⟩ := hx
    cases e1
  · obtain ⟨⟨v9, e1⟩, e2⟩ := hx
    cases e1
    subst e2
    have hI2 := IV.nil hA1749 hI
    refine yw_st (st2 := [.long v9]) rfl ?_
    have hI := hI2
    refine y_base (cs := []) (z_I.nil _) ?_
    refine y_pop2 d_Lw_law_1752 rfl ?_
    refine y_aload_n d_Lw_law_1753 rfl 3 rfl ?_
    refine yw_callVL (As := []) (rest := []) (ci := 12) rfl (fun wA hA => (IV.nil hA hI).rm) ln_Lw_333 w_im_Mm_delivered w_se_Mm_delivered ok_Lw_law_Mm_delivered d_Lw_law_1754 (fun wA hA => Q_Mm_delivered (IV.nil hA hI)) rfl rfl (Nat.le_of_ble_eq_true rfl) (by omega) (by omega) (fun wA1754 hA1754 E wB1754 hx => ?_) (fun wA1754 hA1754 v wB1754 hx => ?_)
    · obtain ⟨⟨v9, e1⟩, -⟩ := hx
      cases e1
    · obtain ⟨⟨v8, e1⟩, hI2⟩ := hx
      cases e1
      refine yw_st (st2 := [.long v8]) rfl ?_
      have hI := hI2
      refine y_base (cs := []) (z_I.nil _) ?_
      refine y_pop2 d_Lw_law_1757 rfl ?_
      refine y_goto (tgt := 1808) d_Lw_law_1758 (by decide) ?_
      refine y_lv (lv' := [(5, .int (nI (7 * j))), (4, .ref (ad 70)), (3, .ref (ad 69)), (2, .ref (ad 52)), (1, .ref (ad 0)), (0, .ref (g.2.2 40))]) [0, 1, 2, 3, 4, 5] rfl ?_
      refine y_end (fun wC hC => ?_)
      exact LC_next (IV.nil hC hI) hR hJ hL ih (by omega) (by omega)
theorem d_Lw_law_1761 : decode code 1761 = .ok (.aload_n 1, 1) := by decide +kernel
theorem d_Lw_law_1762 : decode code 1762 = .ok (.aload 4, 2) := by decide +kernel
theorem d_Lw_law_1764 : decode code 1764 = .ok (.invokestatic 334, 3) := by decide +kernel
theorem ok_Lw_law_Lw_goodShare : z_okX M_Lw_law M_Lw_goodShare 2 := ⟨z_mem (i := 1541) (by decide +kernel) (by decide +kernel), by decide, ⟨by decide +kernel, by decide +kernel, by decide +kernel⟩, ⟨by decide, by decide⟩, z_mem (i := 57) (by decide +kernel) (by decide +kernel), rfl⟩
theorem ln_Lw_334 : Cond.methodLink "IronpourLaw" 334 M_Lw_goodShare.1 ∈ z_gw := z_mem (i := 1539) (by decide +kernel) (by decide +kernel)
theorem w_st_Lw_goodShare : Cond.static M_Lw_goodShare.1 ∈ z_gw := z_mem (i := 1540) (by decide +kernel) (by decide +kernel)
theorem d_Lw_law_1767 : decode code 1767 = .ok (.istore 6, 2) := by decide +kernel
theorem d_Lw_law_1769 : decode code 1769 = .ok (.aload_n 2, 1) := by decide +kernel
theorem d_Lw_law_1770 : decode code 1770 = .ok (.invokevirtual 337, 3) := by decide +kernel
theorem ok_Lw_law_Mm_goodShare : z_ok M_Lw_law M_Mm_goodShare 0 := ⟨z_mem (i := 2048) (by decide +kernel) (by decide +kernel), rfl, ⟨by decide +kernel, by decide +kernel, by decide +kernel⟩, ⟨by decide, by decide⟩, z_mem (i := 71) (by decide +kernel) (by decide +kernel), rfl⟩
theorem ln_Lw_337 : Cond.methodLink "IronpourLaw" 337 M_Mm_goodShare.1 ∈ z_gw := z_mem (i := 2045) (by decide +kernel) (by decide +kernel)
theorem w_im_Mm_goodShare : Cond.instanceMethod M_Mm_goodShare.1 ∈ z_gw := z_mem (i := 2046) (by decide +kernel) (by decide +kernel)
theorem w_se_Mm_goodShare : Cond.selects M_Mm_goodShare.1.cls M_Mm_goodShare.1 M_Mm_goodShare.1 ∈ z_gw := z_mem (i := 2047) (by decide +kernel) (by decide +kernel)
theorem d_Lw_law_1773 : decode code 1773 = .ok (.fstore 7, 2) := by decide +kernel
theorem d_Lw_law_1775 : decode code 1775 = .ok (.goto 33, 3) := by decide +kernel
set_option maxHeartbeats 4000000 in
set_option maxRecDepth 100000 in
theorem LC_goodShare {g : zG} {ad : Nat → Nat} {t : zTT} {u : zNN} {w : zW} (hI : IV g ad t u w) (hR : REL t) {j r : Nat} (hJ : 7 * j + 7 ≤ g.2.2 41) (hL : g.2.2 41 < 2 ^ 31) (ih : LWI g ad j r) : DW g M_Lw_law lwQ w 1761 [(5, .int (nI (7 * j))), (4, .ref (ad 70)), (3, .ref (ad 69)), (2, .ref (ad 52)), (1, .ref (ad 0)), (0, .ref (g.2.2 40))] [] (100 * (r + 1)) (1000 * (r + 1)) := by
  refine y_base (cs := []) (z_I.nil w) ?_
  refine y_aload_n d_Lw_law_1761 rfl 4 rfl ?_
  refine y_aload d_Lw_law_1762 1 rfl ?_
  refine yw_callSX (As := [.ref (ad 0), .ref (ad 70)]) (rest := []) ln_Lw_334 w_st_Lw_goodShare ok_Lw_law_Lw_goodShare d_Lw_law_1764 (fun wA hA => W_goodShare (IV.nil hA hI)) rfl rfl (Nat.le_of_ble_eq_true rfl) (by omega) (by omega) (fun wA1764 hA1764 E wB1764 hx => ?_) (fun wA1764 hA1764 v wB1764 hx => ?_)
  · obtain ⟨⟨v9, e1⟩, -⟩ := hx
    cases e1
  · obtain ⟨⟨v9, e1⟩, u2, hI2⟩ := hx
    cases e1
    refine yw_st (st2 := [.int v9]) rfl ?_
    have hI := hI2
    refine y_base (cs := []) (z_I.nil _) ?_
    refine y_istore (lv' := [(6, .int v9), (5, .int (nI (7 * j))), (4, .ref (ad 70)), (3, .ref (ad 69)), (2, .ref (ad 52)), (1, .ref (ad 0)), (0, .ref (g.2.2 40))]) d_Lw_law_1767 (by decide) rfl ?_
    refine y_aload_n d_Lw_law_1769 rfl 4 rfl ?_
    refine yw_callVL (As := []) (rest := []) (ci := 12) rfl (fun wA hA => (IV.nil hA hI).rm) ln_Lw_337 w_im_Mm_goodShare w_se_Mm_goodShare ok_Lw_law_Mm_goodShare d_Lw_law_1770 (fun wA hA => Q_Mm_goodShare (IV.nil hA hI)) rfl rfl (Nat.le_of_ble_eq_true rfl) (by omega) (by omega) (fun wA1770 hA1770 E wB1770 hx => ?_) (fun wA1770 hA1770 v wB1770 hx => ?_)
    · obtain ⟨⟨v9, e1⟩, -⟩ := hx
      cases e1
    · obtain ⟨⟨v8, e1⟩, hI2⟩ := hx
      cases e1
      refine yw_st (st2 := [.float v8]) rfl ?_
      have hI := hI2
      refine y_base (cs := []) (z_I.nil _) ?_
      refine y_fstore (lv' := [(7, .float v8), (6, .int v9), (5, .int (nI (7 * j))), (4, .ref (ad 70)), (3, .ref (ad 69)), (2, .ref (ad 52)), (1, .ref (ad 0)), (0, .ref (g.2.2 40))]) d_Lw_law_1773 (by decide) rfl ?_
      refine y_goto (tgt := 1808) d_Lw_law_1775 (by decide) ?_
      refine y_lv (lv' := [(5, .int (nI (7 * j))), (4, .ref (ad 70)), (3, .ref (ad 69)), (2, .ref (ad 52)), (1, .ref (ad 0)), (0, .ref (g.2.2 40))]) [2, 3, 4, 5, 6, 7] rfl ?_
      refine y_end (fun wC hC => ?_)
      exact LC_next (IV.nil hC hI) hR hJ hL ih (by omega) (by omega)
theorem d_Lw_law_1778 : decode code 1778 = .ok (.aload_n 1, 1) := by decide +kernel
theorem d_Lw_law_1779 : decode code 1779 = .ok (.aload 4, 2) := by decide +kernel
theorem d_Lw_law_1781 : decode code 1781 = .ok (.invokestatic 338, 3) := by decide +kernel
theorem ok_Lw_law_Lw_meanBar : z_okX M_Lw_law M_Lw_meanBar 2 := ⟨z_mem (i := 1566) (by decide +kernel) (by decide +kernel), by decide, ⟨by decide +kernel, by decide +kernel, by decide +kernel⟩, ⟨by decide, by decide⟩, z_mem (i := 57) (by decide +kernel) (by decide +kernel), rfl⟩
theorem ln_Lw_338 : Cond.methodLink "IronpourLaw" 338 M_Lw_meanBar.1 ∈ z_gw := z_mem (i := 1564) (by decide +kernel) (by decide +kernel)
theorem w_st_Lw_meanBar : Cond.static M_Lw_meanBar.1 ∈ z_gw := z_mem (i := 1565) (by decide +kernel) (by decide +kernel)
theorem d_Lw_law_1784 : decode code 1784 = .ok (.istore 6, 2) := by decide +kernel
theorem d_Lw_law_1786 : decode code 1786 = .ok (.aload_n 2, 1) := by decide +kernel
theorem d_Lw_law_1787 : decode code 1787 = .ok (.invokevirtual 340, 3) := by decide +kernel
theorem ok_Lw_law_Mm_meanBar : z_ok M_Lw_law M_Mm_meanBar 0 := ⟨z_mem (i := 2052) (by decide +kernel) (by decide +kernel), rfl, ⟨by decide +kernel, by decide +kernel, by decide +kernel⟩, ⟨by decide, by decide⟩, z_mem (i := 71) (by decide +kernel) (by decide +kernel), rfl⟩
theorem ln_Lw_340 : Cond.methodLink "IronpourLaw" 340 M_Mm_meanBar.1 ∈ z_gw := z_mem (i := 2049) (by decide +kernel) (by decide +kernel)
theorem w_im_Mm_meanBar : Cond.instanceMethod M_Mm_meanBar.1 ∈ z_gw := z_mem (i := 2050) (by decide +kernel) (by decide +kernel)
theorem w_se_Mm_meanBar : Cond.selects M_Mm_meanBar.1.cls M_Mm_meanBar.1 M_Mm_meanBar.1 ∈ z_gw := z_mem (i := 2051) (by decide +kernel) (by decide +kernel)
theorem d_Lw_law_1790 : decode code 1790 = .ok (.dstore 7, 2) := by decide +kernel
theorem d_Lw_law_1792 : decode code 1792 = .ok (.goto 16, 3) := by decide +kernel
set_option maxHeartbeats 4000000 in
set_option maxRecDepth 100000 in
theorem LC_meanBar {g : zG} {ad : Nat → Nat} {t : zTT} {u : zNN} {w : zW} (hI : IV g ad t u w) (hR : REL t) {j r : Nat} (hJ : 7 * j + 7 ≤ g.2.2 41) (hL : g.2.2 41 < 2 ^ 31) (ih : LWI g ad j r) : DW g M_Lw_law lwQ w 1778 [(5, .int (nI (7 * j))), (4, .ref (ad 70)), (3, .ref (ad 69)), (2, .ref (ad 52)), (1, .ref (ad 0)), (0, .ref (g.2.2 40))] [] (100 * (r + 1)) (1000 * (r + 1)) := by
  refine y_base (cs := []) (z_I.nil w) ?_
  refine y_aload_n d_Lw_law_1778 rfl 4 rfl ?_
  refine y_aload d_Lw_law_1779 1 rfl ?_
  refine yw_callSX (As := [.ref (ad 0), .ref (ad 70)]) (rest := []) ln_Lw_338 w_st_Lw_meanBar ok_Lw_law_Lw_meanBar d_Lw_law_1781 (fun wA hA => W_meanBar (IV.nil hA hI)) rfl rfl (Nat.le_of_ble_eq_true rfl) (by omega) (by omega) (fun wA1781 hA1781 E wB1781 hx => ?_) (fun wA1781 hA1781 v wB1781 hx => ?_)
  · obtain ⟨⟨v9, e1⟩, -⟩ := hx
    cases e1
  · obtain ⟨⟨v9, e1⟩, u2, hI2⟩ := hx
    cases e1
    refine yw_st (st2 := [.int v9]) rfl ?_
    have hI := hI2
    refine y_base (cs := []) (z_I.nil _) ?_
    refine y_istore (lv' := [(6, .int v9), (5, .int (nI (7 * j))), (4, .ref (ad 70)), (3, .ref (ad 69)), (2, .ref (ad 52)), (1, .ref (ad 0)), (0, .ref (g.2.2 40))]) d_Lw_law_1784 (by decide) rfl ?_
    refine y_aload_n d_Lw_law_1786 rfl 4 rfl ?_
    refine yw_callVL (As := []) (rest := []) (ci := 12) rfl (fun wA hA => (IV.nil hA hI).rm) ln_Lw_340 w_im_Mm_meanBar w_se_Mm_meanBar ok_Lw_law_Mm_meanBar d_Lw_law_1787 (fun wA hA => Q_Mm_meanBar (IV.nil hA hI)) rfl rfl (Nat.le_of_ble_eq_true rfl) (by omega) (by omega) (fun wA1787 hA1787 E wB1787 hx => ?_) (fun wA1787 hA1787 v wB1787 hx => ?_)
    · obtain ⟨⟨v9, e1⟩, -⟩ := hx
      cases e1
    · obtain ⟨⟨v8, e1⟩, hI2⟩ := hx
      cases e1
      refine yw_st (st2 := [.double v8]) rfl ?_
      have hI := hI2
      refine y_base (cs := []) (z_I.nil _) ?_
      refine y_dstore (lv' := [(7, .double v8), (6, .int v9), (5, .int (nI (7 * j))), (4, .ref (ad 70)), (3, .ref (ad 69)), (2, .ref (ad 52)), (1, .ref (ad 0)), (0, .ref (g.2.2 40))]) d_Lw_law_1790 (by decide) rfl ?_
      refine y_goto (tgt := 1808) d_Lw_law_1792 (by decide) ?_
      refine y_lv (lv' := [(5, .int (nI (7 * j))), (4, .ref (ad 70)), (3, .ref (ad 69)), (2, .ref (ad 52)), (1, .ref (ad 0)), (0, .ref (g.2.2 40))]) [2, 3, 4, 5, 6, 7] rfl ?_
      refine y_end (fun wC hC => ?_)
      exact LC_next (IV.nil hC hI) hR hJ hL ih (by omega) (by omega)
theorem d_Lw_law_1795 : decode code 1795 = .ok (.aload_n 1, 1) := by decide +kernel
theorem d_Lw_law_1796 : decode code 1796 = .ok (.invokevirtual 341, 3) := by decide +kernel
theorem ok_Lw_law_Ip_isSound : z_ok M_Lw_law M_Ip_isSound 0 := ⟨z_mem (i := 492) (by decide +kernel) (by decide +kernel), rfl, ⟨by decide +kernel, by decide +kernel, by decide +kernel⟩, ⟨by decide, by decide⟩, z_mem (i := 58) (by decide +kernel) (by decide +kernel), rfl⟩
theorem ln_Lw_341 : Cond.methodLink "IronpourLaw" 341 M_Ip_isSound.1 ∈ z_gw := z_mem (i := 489) (by decide +kernel) (by decide +kernel)
theorem w_im_Ip_isSound : Cond.instanceMethod M_Ip_isSound.1 ∈ z_gw := z_mem (i := 490) (by decide +kernel) (by decide +kernel)
theorem w_se_Ip_isSound : Cond.selects M_Ip_isSound.1.cls M_Ip_isSound.1 M_Ip_isSound.1 ∈ z_gw := z_mem (i := 491) (by decide +kernel) (by decide +kernel)
theorem d_Lw_law_1799 : decode code 1799 = .ok (.pop, 1) := by decide +kernel
theorem d_Lw_law_1800 : decode code 1800 = .ok (.aload_n 2, 1) := by decide +kernel
theorem d_Lw_law_1801 : decode code 1801 = .ok (.invokevirtual 345, 3) := by decide +kernel
theorem ok_Lw_law_Mm_isSound : z_ok M_Lw_law M_Mm_isSound 0 := ⟨z_mem (i := 2056) (by decide +kernel) (by decide +kernel), rfl, ⟨by decide +kernel, by decide +kernel, by decide +kernel⟩, ⟨by decide, by decide⟩, z_mem (i := 71) (by decide +kernel) (by decide +kernel), rfl⟩
theorem ln_Lw_345 : Cond.methodLink "IronpourLaw" 345 M_Mm_isSound.1 ∈ z_gw := z_mem (i := 2053) (by decide +kernel) (by decide +kernel)
theorem w_im_Mm_isSound : Cond.instanceMethod M_Mm_isSound.1 ∈ z_gw := z_mem (i := 2054) (by decide +kernel) (by decide +kernel)
theorem w_se_Mm_isSound : Cond.selects M_Mm_isSound.1.cls M_Mm_isSound.1 M_Mm_isSound.1 ∈ z_gw := z_mem (i := 2055) (by decide +kernel) (by decide +kernel)
theorem d_Lw_law_1804 : decode code 1804 = .ok (.pop, 1) := by decide +kernel
theorem d_Lw_law_1805 : decode code 1805 = .ok (.goto 3, 3) := by decide +kernel
set_option maxHeartbeats 4000000 in
set_option maxRecDepth 100000 in
theorem LC_isSound {g : zG} {ad : Nat → Nat} {t : zTT} {u : zNN} {w : zW} (hI : IV g ad t u w) (hR : REL t) {j r : Nat} (hJ : 7 * j + 7 ≤ g.2.2 41) (hL : g.2.2 41 < 2 ^ 31) (ih : LWI g ad j r) : DW g M_Lw_law lwQ w 1795 [(5, .int (nI (7 * j))), (4, .ref (ad 70)), (3, .ref (ad 69)), (2, .ref (ad 52)), (1, .ref (ad 0)), (0, .ref (g.2.2 40))] [] (100 * (r + 1)) (1000 * (r + 1)) := by
  refine y_base (cs := []) (z_I.nil w) ?_
  refine y_aload_n d_Lw_law_1795 rfl 4 rfl ?_
  refine yw_callVL (As := []) (rest := []) (ci := 11) rfl (fun wA hA => (IV.nil hA hI).ra) ln_Lw_341 w_im_Ip_isSound w_se_Ip_isSound ok_Lw_law_Ip_isSound d_Lw_law_1796 (fun wA hA => K_Ip_isSound (IV.nil hA hI)) rfl rfl (Nat.le_of_ble_eq_true rfl) (by omega) (by omega) (fun wA1796 hA1796 E wB1796 hx => ?_) (fun wA1796 hA1796 v wB1796 hx => ?_)
  · obtain ⟨h1, -⟩ := hx
    cases zriE h1
  · obtain ⟨h1, u2, hI2⟩ := hx
    obtain ⟨v9, rfl⟩ := zriV h1
    refine yw_st (st2 := [.int v9]) rfl ?_
    have hI := hI2
    refine y_base (cs := []) (z_I.nil _) ?_
    refine y_pop d_Lw_law_1799 rfl ?_
    refine y_aload_n d_Lw_law_1800 rfl 3 rfl ?_
    refine yw_callVL (As := []) (rest := []) (ci := 12) rfl (fun wA hA => (IV.nil hA hI).rm) ln_Lw_345 w_im_Mm_isSound w_se_Mm_isSound ok_Lw_law_Mm_isSound d_Lw_law_1801 (fun wA hA => K_Mm_isSound (IV.nil hA hI)) rfl rfl (Nat.le_of_ble_eq_true rfl) (by omega) (by omega) (fun wA1801 hA1801 E wB1801 hx => ?_) (fun wA1801 hA1801 v wB1801 hx => ?_)
    · obtain ⟨⟨v8, e1⟩, -⟩ := hx
      cases e1
    · obtain ⟨⟨v8, e1⟩, u2, hI2⟩ := hx
      cases e1
      refine yw_st (st2 := [.int v8]) rfl ?_
      have hI := hI2
      refine y_base (cs := []) (z_I.nil _) ?_
      refine y_pop d_Lw_law_1804 rfl ?_
      refine y_goto (tgt := 1808) d_Lw_law_1805 (by decide) ?_
      refine y_lv (lv' := [(5, .int (nI (7 * j))), (4, .ref (ad 70)), (3, .ref (ad 69)), (2, .ref (ad 52)), (1, .ref (ad 0)), (0, .ref (g.2.2 40))]) [0, 1, 2, 3, 4, 5] rfl ?_
      refine y_end (fun wC hC => ?_)
      exact LC_next (IV.nil hC hI) hR hJ hL ih (by omega) (by omega)
theorem d_Lw_law_338 : decode code 338 = .ok (.aload_n 1, 1) := by decide +kernel
theorem d_Lw_law_339 : decode code 339 = .ok (.aload_n 0, 1) := by decide +kernel
theorem d_Lw_law_340 : decode code 340 = .ok (.iload 5, 2) := by decide +kernel
theorem d_Lw_law_342 : decode code 342 = .ok (.iconst 1, 1) := by decide +kernel
theorem d_Lw_law_343 : decode code 343 = .ok (.iadd, 1) := by decide +kernel
theorem d_Lw_law_344 : decode code 344 = .ok (.iaload, 1) := by decide +kernel
theorem d_Lw_law_345 : decode code 345 = .ok (.aload_n 0, 1) := by decide +kernel
theorem d_Lw_law_346 : decode code 346 = .ok (.iload 5, 2) := by decide +kernel
theorem d_Lw_law_348 : decode code 348 = .ok (.iconst 2, 1) := by decide +kernel
theorem d_Lw_law_349 : decode code 349 = .ok (.iadd, 1) := by decide +kernel
theorem d_Lw_law_350 : decode code 350 = .ok (.iaload, 1) := by decide +kernel
theorem d_Lw_law_351 : decode code 351 = .ok (.aload_n 3, 1) := by decide +kernel
theorem d_Lw_law_352 : decode code 352 = .ok (.invokestatic 175, 3) := by decide +kernel
theorem ok_Lw_law_Lw_cell : z_okX M_Lw_law M_Lw_cell 4 := ⟨z_mem (i := 768) (by decide +kernel) (by decide +kernel), by decide, ⟨by decide +kernel, by decide +kernel, by decide +kernel⟩, ⟨by decide, by decide⟩, z_mem (i := 57) (by decide +kernel) (by decide +kernel), rfl⟩
theorem ln_Lw_175 : Cond.methodLink "IronpourLaw" 175 M_Lw_cell.1 ∈ z_gw := z_mem (i := 766) (by decide +kernel) (by decide +kernel)
theorem w_st_Lw_cell : Cond.static M_Lw_cell.1 ∈ z_gw := z_mem (i := 767) (by decide +kernel) (by decide +kernel)
theorem d_Lw_law_355 : decode code 355 = .ok (.istore 6, 2) := by decide +kernel
theorem d_Lw_law_357 : decode code 357 = .ok (.aload_n 2, 1) := by decide +kernel
theorem d_Lw_law_358 : decode code 358 = .ok (.aload_n 0, 1) := by decide +kernel
theorem d_Lw_law_359 : decode code 359 = .ok (.iload 5, 2) := by decide +kernel
theorem d_Lw_law_361 : decode code 361 = .ok (.iconst 1, 1) := by decide +kernel
theorem d_Lw_law_362 : decode code 362 = .ok (.iadd, 1) := by decide +kernel
theorem d_Lw_law_363 : decode code 363 = .ok (.iaload, 1) := by decide +kernel
theorem d_Lw_law_364 : decode code 364 = .ok (.aload_n 0, 1) := by decide +kernel
theorem d_Lw_law_365 : decode code 365 = .ok (.iload 5, 2) := by decide +kernel
theorem d_Lw_law_367 : decode code 367 = .ok (.iconst 2, 1) := by decide +kernel
theorem d_Lw_law_368 : decode code 368 = .ok (.iadd, 1) := by decide +kernel
theorem d_Lw_law_369 : decode code 369 = .ok (.iaload, 1) := by decide +kernel
theorem d_Lw_law_370 : decode code 370 = .ok (.invokevirtual 178, 3) := by decide +kernel
theorem ok_Lw_law_Mm_cell : z_ok M_Lw_law M_Mm_cell 2 := ⟨z_mem (i := 1697) (by decide +kernel) (by decide +kernel), rfl, ⟨by decide +kernel, by decide +kernel, by decide +kernel⟩, ⟨by decide, by decide⟩, z_mem (i := 71) (by decide +kernel) (by decide +kernel), rfl⟩
theorem ln_Lw_178 : Cond.methodLink "IronpourLaw" 178 M_Mm_cell.1 ∈ z_gw := z_mem (i := 1694) (by decide +kernel) (by decide +kernel)
theorem w_im_Mm_cell : Cond.instanceMethod M_Mm_cell.1 ∈ z_gw := z_mem (i := 1695) (by decide +kernel) (by decide +kernel)
theorem w_se_Mm_cell : Cond.selects M_Mm_cell.1.cls M_Mm_cell.1 M_Mm_cell.1 ∈ z_gw := z_mem (i := 1696) (by decide +kernel) (by decide +kernel)
theorem d_Lw_law_373 : decode code 373 = .ok (.istore 7, 2) := by decide +kernel
theorem d_Lw_law_375 : decode code 375 = .ok (.aload_n 2, 1) := by decide +kernel
theorem d_Lw_law_376 : decode code 376 = .ok (.invokevirtual 179, 3) := by decide +kernel
theorem ok_Lw_law_Mm_thrown : z_ok M_Lw_law M_Mm_thrown 0 := ⟨z_mem (i := 1677) (by decide +kernel) (by decide +kernel), rfl, ⟨by decide +kernel, by decide +kernel, by decide +kernel⟩, ⟨by decide, by decide⟩, z_mem (i := 71) (by decide +kernel) (by decide +kernel), rfl⟩
theorem ln_Lw_179 : Cond.methodLink "IronpourLaw" 179 M_Mm_thrown.1 ∈ z_gw := z_mem (i := 1674) (by decide +kernel) (by decide +kernel)
theorem w_im_Mm_thrown : Cond.instanceMethod M_Mm_thrown.1 ∈ z_gw := z_mem (i := 1675) (by decide +kernel) (by decide +kernel)
theorem w_se_Mm_thrown : Cond.selects M_Mm_thrown.1.cls M_Mm_thrown.1 M_Mm_thrown.1 ∈ z_gw := z_mem (i := 1676) (by decide +kernel) (by decide +kernel)
theorem d_Lw_law_379 : decode code 379 = .ok (.iload 6, 2) := by decide +kernel
theorem d_Lw_law_381 : decode code 381 = .ok (.if_icmp .eq 5, 3) := by decide +kernel
theorem d_Lw_law_386 : decode code 386 = .ok (.iload 6, 2) := by decide +kernel
theorem d_Lw_law_388 : decode code 388 = .ok (.ifCond .ne 15, 3) := by decide +kernel
theorem d_Lw_law_403 : decode code 403 = .ok (.goto 1405, 3) := by decide +kernel
set_option maxHeartbeats 4000000 in
set_option maxRecDepth 100000 in
theorem LC_cellE {g : zG} {ad : Nat → Nat} {t : zTT} {u : zNN} {w : zW} (hI : IV g ad t u w) (hR : REL t) {j r : Nat} (hJ : 7 * j + 7 ≤ g.2.2 41) (hL : g.2.2 41 < 2 ^ 31) (ih : LWI g ad j r) (hz : z_cl (zs g (7 * j + 1)) (zs g (7 * j + 2)) = none) : DW g M_Lw_law lwQ w 338 [(5, .int (nI (7 * j))), (4, .ref (ad 70)), (3, .ref (ad 69)), (2, .ref (ad 52)), (1, .ref (ad 0)), (0, .ref (g.2.2 40))] [] (100 * (r + 1)) (1000 * (r + 1)) := by
  refine y_base (cs := []) (z_I.nil w) ?_
  refine y_aload_n d_Lw_law_338 rfl 4 rfl ?_
  refine y_aload_n d_Lw_law_339 rfl 5 rfl ?_
  refine y_iload d_Lw_law_340 0 rfl ?_
  refine y_iconst d_Lw_law_342 (v := 1) (by decide) ?_
  refine y_iadd d_Lw_law_343 (v := nI ((7 * j) + 1)) (nI_add _ _) ?_
  refine y_sld (v := zs g (7 * j + 1)) d_Lw_law_344 (vp_in_nI (by omega) (by omega)) (by rw [nI_clamp (by omega)]; rfl) ?_
  refine y_aload_n d_Lw_law_345 rfl 5 rfl ?_
  refine y_iload d_Lw_law_346 0 rfl ?_
  refine y_iconst d_Lw_law_348 (v := 2) (by decide) ?_
  refine y_iadd d_Lw_law_349 (v := nI ((7 * j) + 2)) (nI_add _ _) ?_
  refine y_sld (v := zs g (7 * j + 2)) d_Lw_law_350 (vp_in_nI (by omega) (by omega)) (by rw [nI_clamp (by omega)]; rfl) ?_
  refine y_aload_n d_Lw_law_351 rfl 2 rfl ?_
  refine yw_callSX (As := [.ref (ad 0), .int (zs g (7 * j + 1)), .int (zs g (7 * j + 2)), .ref (ad 69)]) (rest := []) ln_Lw_175 w_st_Lw_cell ok_Lw_law_Lw_cell d_Lw_law_352 (fun wA hA => W_cellE (IV.nil hA hI) _ _ hz) rfl rfl (Nat.le_of_ble_eq_true rfl) (by omega) (by omega) (fun wA352 hA352 E wB352 hx => ?_) (fun wA352 hA352 v wB352 hx => ?_)
  · obtain ⟨e1, -⟩ := hx
    cases e1
  · obtain ⟨e1, hI2⟩ := hx
    cases e1
    refine yw_st (st2 := [.int 1]) rfl ?_
    have hI := hI2
    obtain ⟨e_m, wf_m, k_m⟩ := hI.1.2 52 (by decide)
    obtain ⟨v_m_th, v_m_cl, v_m_wa, v_m_co_, v_m_fi, v_m_bu, v_m_ho, v_m_lh, v_m_mg, v_m_wd, v_m_po, v_m_de, rfl⟩ := kd_52.mp k_m
    obtain ⟨e_mp, wf_mp, k_mp⟩ := hI.1.2 53 (by decide)
    obtain rfl := kd_53.mp k_mp
    refine y_base (cs := [((ad 52), .inr (12, [.int v_m_th, .ref (ad 53), .int (nI t.2.2.2.1), .ref (ad 54), .ref (ad 55), .ref (ad 56), .ref (ad 57), .ref (ad 58), .ref (ad 59), .ref (ad 60), .ref (ad 61), .int v_m_cl, .int v_m_wa, .int v_m_co_, .int v_m_fi, .int v_m_bu, .int v_m_ho, .ref (ad 62), .ref (ad 63), .ref (ad 64), .int v_m_lh, .int v_m_mg, .int v_m_wd, .int (t.2.2.2.2 3), .int (t.2.2.2.2 4), .ref (ad 65), .ref (ad 66), .ref (ad 67), .ref (ad 68), .long v_m_po, .long v_m_de])), ((ad 53), .inl (1, 108, .inl t.2.1))]) (hI.1.I [52, 53] _ rfl (by decide) (by decide) (List.forall_mem_cons.mpr ⟨wf_m, (List.forall_mem_cons.mpr ⟨wf_mp, (fun _ h => nomatch h)⟩)⟩)) ?_
    refine y_istore (lv' := [(6, .int 1), (5, .int (nI (7 * j))), (4, .ref (ad 70)), (3, .ref (ad 69)), (2, .ref (ad 52)), (1, .ref (ad 0)), (0, .ref (g.2.2 40))]) d_Lw_law_355 (by decide) rfl ?_
    refine y_aload_n d_Lw_law_357 rfl 4 rfl ?_
    refine y_aload_n d_Lw_law_358 rfl 6 rfl ?_
    refine y_iload d_Lw_law_359 1 rfl ?_
    refine y_iconst d_Lw_law_361 (v := 1) (by decide) ?_
    refine y_iadd d_Lw_law_362 (v := nI ((7 * j) + 1)) (nI_add _ _) ?_
    refine y_sld (v := zs g (7 * j + 1)) d_Lw_law_363 (vp_in_nI (by omega) (by omega)) (by rw [nI_clamp (by omega)]; rfl) ?_
    refine y_aload_n d_Lw_law_364 rfl 6 rfl ?_
    refine y_iload d_Lw_law_365 1 rfl ?_
    refine y_iconst d_Lw_law_367 (v := 2) (by decide) ?_
    refine y_iadd d_Lw_law_368 (v := nI ((7 * j) + 2)) (nI_add _ _) ?_
    refine y_sld (v := zs g (7 * j + 2)) d_Lw_law_369 (vp_in_nI (by omega) (by omega)) (by rw [nI_clamp (by omega)]; rfl) ?_
    refine y_callV (As := [.int (zs g (7 * j + 1)), .int (zs g (7 * j + 2))]) (rest := []) (csC := [((ad 52), .inr (12, [.int v_m_th, .ref (ad 53), .int (nI t.2.2.2.1), .ref (ad 54), .ref (ad 55), .ref (ad 56), .ref (ad 57), .ref (ad 58), .ref (ad 59), .ref (ad 60), .ref (ad 61), .int v_m_cl, .int v_m_wa, .int v_m_co_, .int v_m_fi, .int v_m_bu, .int v_m_ho, .ref (ad 62), .ref (ad 63), .ref (ad 64), .int v_m_lh, .int v_m_mg, .int v_m_wd, .int (t.2.2.2.2 3), .int (t.2.2.2.2 4), .ref (ad 65), .ref (ad 66), .ref (ad 67), .ref (ad 68), .long v_m_po, .long v_m_de])), ((ad 53), .inl (1, 108, .inl t.2.1))]) (is := [0, 1]) (q0 := 0) rfl rfl ln_Lw_178 w_im_Mm_cell w_se_Mm_cell ok_Lw_law_Mm_cell d_Lw_law_370 (C_Mm_cellE g (ad 52) (ad 53) (ad 54) (ad 55) (ad 56) (ad 57) (ad 58) (ad 59) (ad 60) (ad 61) (ad 62) (ad 63) (ad 64) (ad 65) (ad 66) (ad 67) (ad 68) v_m_th (nI t.2.2.2.1) v_m_cl v_m_wa v_m_co_ v_m_fi v_m_bu v_m_ho v_m_lh v_m_mg v_m_wd (t.2.2.2.2 3) (t.2.2.2.2 4) v_m_po v_m_de t.2.1 (zs g (7 * j + 1)) (zs g (7 * j + 2)) hz) rfl rfl (Nat.le_of_ble_eq_true rfl) rfl (by decide) (by omega) (by omega) (fun E cs1 hx => ?_) (fun v cs1 hx => ?_)
    · exact absurd hx.1 (by simp)
    · obtain ⟨e1, rfl⟩ := hx
      cases e1
      refine ⟨rfl, ?_⟩
      refine y_st (st2 := [.int 0]) rfl ?_
      refine y_cs (cs2 := [((ad 52), .inr (12, [.int 1, .ref (ad 53), .int (nI t.2.2.2.1), .ref (ad 54), .ref (ad 55), .ref (ad 56), .ref (ad 57), .ref (ad 58), .ref (ad 59), .ref (ad 60), .ref (ad 61), .int v_m_cl, .int v_m_wa, .int v_m_co_, .int v_m_fi, .int v_m_bu, .int v_m_ho, .ref (ad 62), .ref (ad 63), .ref (ad 64), .int v_m_lh, .int v_m_mg, .int v_m_wd, .int (t.2.2.2.2 3), .int (t.2.2.2.2 4), .ref (ad 65), .ref (ad 66), .ref (ad 67), .ref (ad 68), .long v_m_po, .long v_m_de])), ((ad 53), .inl (1, 108, .inl t.2.1))]) rfl ?_
      refine y_istore (lv' := [(7, .int 0), (6, .int 1), (5, .int (nI (7 * j))), (4, .ref (ad 70)), (3, .ref (ad 69)), (2, .ref (ad 52)), (1, .ref (ad 0)), (0, .ref (g.2.2 40))]) d_Lw_law_373 (by decide) rfl ?_
      refine y_aload_n d_Lw_law_375 rfl 5 rfl ?_
      refine y_callV (As := []) (rest := []) (csC := [((ad 52), .inr (12, [.int 1, .ref (ad 53), .int (nI t.2.2.2.1), .ref (ad 54), .ref (ad 55), .ref (ad 56), .ref (ad 57), .ref (ad 58), .ref (ad 59), .ref (ad 60), .ref (ad 61), .int v_m_cl, .int v_m_wa, .int v_m_co_, .int v_m_fi, .int v_m_bu, .int v_m_ho, .ref (ad 62), .ref (ad 63), .ref (ad 64), .int v_m_lh, .int v_m_mg, .int v_m_wd, .int (t.2.2.2.2 3), .int (t.2.2.2.2 4), .ref (ad 65), .ref (ad 66), .ref (ad 67), .ref (ad 68), .long v_m_po, .long v_m_de]))]) (is := [0]) (q0 := 0) rfl rfl ln_Lw_179 w_im_Mm_thrown w_se_Mm_thrown ok_Lw_law_Mm_thrown d_Lw_law_376 (C_Mm_thrown g (ad 52) (ad 53) (ad 54) (ad 55) (ad 56) (ad 57) (ad 58) (ad 59) (ad 60) (ad 61) (ad 62) (ad 63) (ad 64) (ad 65) (ad 66) (ad 67) (ad 68) 1 (nI t.2.2.2.1) v_m_cl v_m_wa v_m_co_ v_m_fi v_m_bu v_m_ho v_m_lh v_m_mg v_m_wd (t.2.2.2.2 3) (t.2.2.2.2 4) v_m_po v_m_de) rfl rfl (Nat.le_of_ble_eq_true rfl) rfl (by decide) (by omega) (by omega) (fun E cs1 hx => ?_) (fun v cs1 hx => ?_)
      · exact absurd hx.1 (by simp)
      · obtain ⟨e1, rfl⟩ := hx
        cases e1
        refine ⟨rfl, ?_⟩
        refine y_st (st2 := [.int 1]) rfl ?_
        refine y_cs (cs2 := [((ad 52), .inr (12, [.int 1, .ref (ad 53), .int (nI t.2.2.2.1), .ref (ad 54), .ref (ad 55), .ref (ad 56), .ref (ad 57), .ref (ad 58), .ref (ad 59), .ref (ad 60), .ref (ad 61), .int v_m_cl, .int v_m_wa, .int v_m_co_, .int v_m_fi, .int v_m_bu, .int v_m_ho, .ref (ad 62), .ref (ad 63), .ref (ad 64), .int v_m_lh, .int v_m_mg, .int v_m_wd, .int (t.2.2.2.2 3), .int (t.2.2.2.2 4), .ref (ad 65), .ref (ad 66), .ref (ad 67), .ref (ad 68), .long v_m_po, .long v_m_de])), ((ad 53), .inl (1, 108, .inl t.2.1))]) rfl ?_
        refine y_iload d_Lw_law_379 1 rfl ?_
        refine y_icmp_eq (tgt := 386) d_Lw_law_381 (by decide) (fun c_381 => ?_) (fun c_381 => ?_)
        · refine y_iload d_Lw_law_386 1 rfl ?_
          refine y_if_ne (tgt := 403) d_Lw_law_388 (by decide) (fun c_388 => ?_) (fun c_388 => ?_)
          · refine y_goto (tgt := 1808) d_Lw_law_403 (by decide) ?_
            refine y_lv (lv' := [(5, .int (nI (7 * j))), (4, .ref (ad 70)), (3, .ref (ad 69)), (2, .ref (ad 52)), (1, .ref (ad 0)), (0, .ref (g.2.2 40))]) [2, 3, 4, 5, 6, 7] rfl ?_
            refine y_end (fun wC hC => ?_)
            exact LC_next ((hI.gen (t2 := t) (is := [52, 53]) (L2 := []) hC rfl ⟨kd_52.mpr ⟨_, _, _, _, _, _, _, _, _, _, _, _, rfl⟩, kd_53.mpr rfl, trivial⟩ (by decide) (by decide) (fun _ h => nomatch h) (fun _ h => nomatch h) (fun _ _ _ _ h => h) (fun h => h))) hR hJ hL ih (by omega) (by omega)
          · exact absurd c_388 (by decide)
        · exact absurd c_381 (by decide)
theorem d_Lw_law_391 : decode code 391 = .ok (.aload_n 3, 1) := by decide +kernel
theorem d_Lw_law_392 : decode code 392 = .ok (.iconst 0, 1) := by decide +kernel
theorem d_Lw_law_393 : decode code 393 = .ok (.laload, 1) := by decide +kernel
theorem d_Lw_law_394 : decode code 394 = .ok (.iload 7, 2) := by decide +kernel
theorem d_Lw_law_396 : decode code 396 = .ok (.i2l, 1) := by decide +kernel
theorem d_Lw_law_397 : decode code 397 = .ok (.lcmp, 1) := by decide +kernel
theorem d_Lw_law_398 : decode code 398 = .ok (.ifCond .eq 5, 3) := by decide +kernel
set_option maxHeartbeats 4000000 in
set_option maxRecDepth 100000 in
theorem LC_cellN {g : zG} {ad : Nat → Nat} {t : zTT} {u : zNN} {w : zW} (hI : IV g ad t u w) (hR : REL t) {j r : Nat} (hJ : 7 * j + 7 ≤ g.2.2 41) (hL : g.2.2 41 < 2 ^ 31) (ih : LWI g ad j r) (x0 y0 : Nat) (hx0 : x0 < 12) (hy0 : y0 < 9) (q1 : zs g (7 * j + 1) = nI x0) (q2 : zs g (7 * j + 2) = nI y0) : DW g M_Lw_law lwQ w 338 [(5, .int (nI (7 * j))), (4, .ref (ad 70)), (3, .ref (ad 69)), (2, .ref (ad 52)), (1, .ref (ad 0)), (0, .ref (g.2.2 40))] [] (100 * (r + 1)) (1000 * (r + 1)) := by
  refine y_base (cs := []) (z_I.nil w) ?_
  refine y_aload_n d_Lw_law_338 rfl 4 rfl ?_
  refine y_aload_n d_Lw_law_339 rfl 5 rfl ?_
  refine y_iload d_Lw_law_340 0 rfl ?_
  refine y_iconst d_Lw_law_342 (v := 1) (by decide) ?_
  refine y_iadd d_Lw_law_343 (v := nI ((7 * j) + 1)) (nI_add _ _) ?_
  refine y_sld (v := nI x0) d_Lw_law_344 (vp_in_nI (by omega) (by omega)) (by rw [nI_clamp (by omega)]; exact q1) ?_
  refine y_aload_n d_Lw_law_345 rfl 5 rfl ?_
  refine y_iload d_Lw_law_346 0 rfl ?_
  refine y_iconst d_Lw_law_348 (v := 2) (by decide) ?_
  refine y_iadd d_Lw_law_349 (v := nI ((7 * j) + 2)) (nI_add _ _) ?_
  refine y_sld (v := nI y0) d_Lw_law_350 (vp_in_nI (by omega) (by omega)) (by rw [nI_clamp (by omega)]; exact q2) ?_
  refine y_aload_n d_Lw_law_351 rfl 2 rfl ?_
  refine yw_callSX (As := [.ref (ad 0), .int (nI x0), .int (nI y0), .ref (ad 69)]) (rest := []) ln_Lw_175 w_st_Lw_cell ok_Lw_law_Lw_cell d_Lw_law_352 (fun wA hA => W_cellN (IV.nil hA hI) _ _ (12 * y0 + x0) (z_clI hx0 hy0)) rfl rfl (Nat.le_of_ble_eq_true rfl) (by omega) (by omega) (fun wA352 hA352 E wB352 hx => ?_) (fun wA352 hA352 v wB352 hx => ?_)
  · obtain ⟨e1, -⟩ := hx
    cases e1
  · obtain ⟨e1, hI2, f9, hw9, hf9⟩ := hx
    cases e1
    refine yw_st (st2 := [.int 0]) rfl ?_
    have hI := hI2
    obtain ⟨e_m, wf_m, k_m⟩ := hI.1.2 52 (by decide)
    obtain ⟨v_m_th, v_m_cl, v_m_wa, v_m_co_, v_m_fi, v_m_bu, v_m_ho, v_m_lh, v_m_mg, v_m_wd, v_m_po, v_m_de, rfl⟩ := kd_52.mp k_m
    obtain ⟨e_mp, wf_mp, k_mp⟩ := hI.1.2 53 (by decide)
    obtain rfl := kd_53.mp k_mp
    refine y_base (cs := [((ad 52), .inr (12, [.int v_m_th, .ref (ad 53), .int (nI t.2.2.2.1), .ref (ad 54), .ref (ad 55), .ref (ad 56), .ref (ad 57), .ref (ad 58), .ref (ad 59), .ref (ad 60), .ref (ad 61), .int v_m_cl, .int v_m_wa, .int v_m_co_, .int v_m_fi, .int v_m_bu, .int v_m_ho, .ref (ad 62), .ref (ad 63), .ref (ad 64), .int v_m_lh, .int v_m_mg, .int v_m_wd, .int (t.2.2.2.2 3), .int (t.2.2.2.2 4), .ref (ad 65), .ref (ad 66), .ref (ad 67), .ref (ad 68), .long v_m_po, .long v_m_de])), ((ad 53), .inl (1, 108, .inl t.2.1)), ((ad 69), .inl (3, 1, .inr (.inl f9)))]) (hI.1.I [52, 53, 69] _ rfl (by decide) (by decide) (List.forall_mem_cons.mpr ⟨wf_m, (List.forall_mem_cons.mpr ⟨wf_mp, (List.forall_mem_cons.mpr ⟨hw9, (fun _ h => nomatch h)⟩)⟩)⟩)) ?_
    refine y_istore (lv' := [(6, .int 0), (5, .int (nI (7 * j))), (4, .ref (ad 70)), (3, .ref (ad 69)), (2, .ref (ad 52)), (1, .ref (ad 0)), (0, .ref (g.2.2 40))]) d_Lw_law_355 (by decide) rfl ?_
    refine y_aload_n d_Lw_law_357 rfl 4 rfl ?_
    refine y_aload_n d_Lw_law_358 rfl 6 rfl ?_
    refine y_iload d_Lw_law_359 1 rfl ?_
    refine y_iconst d_Lw_law_361 (v := 1) (by decide) ?_
    refine y_iadd d_Lw_law_362 (v := nI ((7 * j) + 1)) (nI_add _ _) ?_
    refine y_sld (v := nI x0) d_Lw_law_363 (vp_in_nI (by omega) (by omega)) (by rw [nI_clamp (by omega)]; exact q1) ?_
    refine y_aload_n d_Lw_law_364 rfl 6 rfl ?_
    refine y_iload d_Lw_law_365 1 rfl ?_
    refine y_iconst d_Lw_law_367 (v := 2) (by decide) ?_
    refine y_iadd d_Lw_law_368 (v := nI ((7 * j) + 2)) (nI_add _ _) ?_
    refine y_sld (v := nI y0) d_Lw_law_369 (vp_in_nI (by omega) (by omega)) (by rw [nI_clamp (by omega)]; exact q2) ?_
    refine y_callV (As := [.int (nI x0), .int (nI y0)]) (rest := []) (csC := [((ad 52), .inr (12, [.int v_m_th, .ref (ad 53), .int (nI t.2.2.2.1), .ref (ad 54), .ref (ad 55), .ref (ad 56), .ref (ad 57), .ref (ad 58), .ref (ad 59), .ref (ad 60), .ref (ad 61), .int v_m_cl, .int v_m_wa, .int v_m_co_, .int v_m_fi, .int v_m_bu, .int v_m_ho, .ref (ad 62), .ref (ad 63), .ref (ad 64), .int v_m_lh, .int v_m_mg, .int v_m_wd, .int (t.2.2.2.2 3), .int (t.2.2.2.2 4), .ref (ad 65), .ref (ad 66), .ref (ad 67), .ref (ad 68), .long v_m_po, .long v_m_de])), ((ad 53), .inl (1, 108, .inl t.2.1))]) (is := [0, 1]) (q0 := 0) rfl rfl ln_Lw_178 w_im_Mm_cell w_se_Mm_cell ok_Lw_law_Mm_cell d_Lw_law_370 (C_Mm_cellN g (ad 52) (ad 53) (ad 54) (ad 55) (ad 56) (ad 57) (ad 58) (ad 59) (ad 60) (ad 61) (ad 62) (ad 63) (ad 64) (ad 65) (ad 66) (ad 67) (ad 68) v_m_th (nI t.2.2.2.1) v_m_cl v_m_wa v_m_co_ v_m_fi v_m_bu v_m_ho v_m_lh v_m_mg v_m_wd (t.2.2.2.2 3) (t.2.2.2.2 4) v_m_po v_m_de t.2.1 x0 y0 hx0 hy0 hI.2.2.2.1) rfl rfl (Nat.le_of_ble_eq_true rfl) rfl (by decide) (by omega) (by omega) (fun E cs1 hx => ?_) (fun v cs1 hx => ?_)
    · exact absurd hx.1 (by simp)
    · obtain ⟨e1, rfl⟩ := hx
      cases e1
      refine ⟨rfl, ?_⟩
      refine y_st (st2 := [.int (t.2.1 (12 * y0 + x0))]) rfl ?_
      refine y_cs (cs2 := [((ad 52), .inr (12, [.int 0, .ref (ad 53), .int (nI t.2.2.2.1), .ref (ad 54), .ref (ad 55), .ref (ad 56), .ref (ad 57), .ref (ad 58), .ref (ad 59), .ref (ad 60), .ref (ad 61), .int v_m_cl, .int v_m_wa, .int v_m_co_, .int v_m_fi, .int v_m_bu, .int v_m_ho, .ref (ad 62), .ref (ad 63), .ref (ad 64), .int v_m_lh, .int v_m_mg, .int v_m_wd, .int (t.2.2.2.2 3), .int (t.2.2.2.2 4), .ref (ad 65), .ref (ad 66), .ref (ad 67), .ref (ad 68), .long v_m_po, .long v_m_de])), ((ad 53), .inl (1, 108, .inl t.2.1)), ((ad 69), .inl (3, 1, .inr (.inl f9)))]) rfl ?_
      refine y_istore (lv' := [(7, .int (t.2.1 (12 * y0 + x0))), (6, .int 0), (5, .int (nI (7 * j))), (4, .ref (ad 70)), (3, .ref (ad 69)), (2, .ref (ad 52)), (1, .ref (ad 0)), (0, .ref (g.2.2 40))]) d_Lw_law_373 (by decide) rfl ?_
      refine y_aload_n d_Lw_law_375 rfl 5 rfl ?_
      refine y_callV (As := []) (rest := []) (csC := [((ad 52), .inr (12, [.int 0, .ref (ad 53), .int (nI t.2.2.2.1), .ref (ad 54), .ref (ad 55), .ref (ad 56), .ref (ad 57), .ref (ad 58), .ref (ad 59), .ref (ad 60), .ref (ad 61), .int v_m_cl, .int v_m_wa, .int v_m_co_, .int v_m_fi, .int v_m_bu, .int v_m_ho, .ref (ad 62), .ref (ad 63), .ref (ad 64), .int v_m_lh, .int v_m_mg, .int v_m_wd, .int (t.2.2.2.2 3), .int (t.2.2.2.2 4), .ref (ad 65), .ref (ad 66), .ref (ad 67), .ref (ad 68), .long v_m_po, .long v_m_de]))]) (is := [0]) (q0 := 0) rfl rfl ln_Lw_179 w_im_Mm_thrown w_se_Mm_thrown ok_Lw_law_Mm_thrown d_Lw_law_376 (C_Mm_thrown g (ad 52) (ad 53) (ad 54) (ad 55) (ad 56) (ad 57) (ad 58) (ad 59) (ad 60) (ad 61) (ad 62) (ad 63) (ad 64) (ad 65) (ad 66) (ad 67) (ad 68) 0 (nI t.2.2.2.1) v_m_cl v_m_wa v_m_co_ v_m_fi v_m_bu v_m_ho v_m_lh v_m_mg v_m_wd (t.2.2.2.2 3) (t.2.2.2.2 4) v_m_po v_m_de) rfl rfl (Nat.le_of_ble_eq_true rfl) rfl (by decide) (by omega) (by omega) (fun E cs1 hx => ?_) (fun v cs1 hx => ?_)
      · exact absurd hx.1 (by simp)
      · obtain ⟨e1, rfl⟩ := hx
        cases e1
        refine ⟨rfl, ?_⟩
        refine y_st (st2 := [.int 0]) rfl ?_
        refine y_cs (cs2 := [((ad 52), .inr (12, [.int 0, .ref (ad 53), .int (nI t.2.2.2.1), .ref (ad 54), .ref (ad 55), .ref (ad 56), .ref (ad 57), .ref (ad 58), .ref (ad 59), .ref (ad 60), .ref (ad 61), .int v_m_cl, .int v_m_wa, .int v_m_co_, .int v_m_fi, .int v_m_bu, .int v_m_ho, .ref (ad 62), .ref (ad 63), .ref (ad 64), .int v_m_lh, .int v_m_mg, .int v_m_wd, .int (t.2.2.2.2 3), .int (t.2.2.2.2 4), .ref (ad 65), .ref (ad 66), .ref (ad 67), .ref (ad 68), .long v_m_po, .long v_m_de])), ((ad 53), .inl (1, 108, .inl t.2.1)), ((ad 69), .inl (3, 1, .inr (.inl f9)))]) rfl ?_
        refine y_iload d_Lw_law_379 1 rfl ?_
        refine y_icmp_eq (tgt := 386) d_Lw_law_381 (by decide) (fun c_381 => ?_) (fun c_381 => ?_)
        · refine y_iload d_Lw_law_386 1 rfl ?_
          refine y_if_ne (tgt := 403) d_Lw_law_388 (by decide) (fun c_388 => ?_) (fun c_388 => ?_)
          · exact absurd c_388 (by decide)
          · refine y_aload_n d_Lw_law_391 rfl 4 rfl ?_
            refine y_iconst d_Lw_law_392 (v := 0) (by decide) ?_
            refine y_lald d_Lw_law_393 (q0 := 2) rfl (fun q => q.elim (by decide) (by decide)) (v := f9 0) rfl ?_
            refine y_iload d_Lw_law_394 0 rfl ?_
            refine y_i2l d_Lw_law_396 (v := (t.2.1 (12 * y0 + x0)).toInt64) rfl ?_
            refine y_lcmp d_Lw_law_397 (v := 0) (by rw [hf9, hR.1]; exact lgc_self _) ?_
            refine y_if_eq (tgt := 403) d_Lw_law_398 (by decide) (fun c_398 => ?_) (fun c_398 => ?_)
            · refine y_goto (tgt := 1808) d_Lw_law_403 (by decide) ?_
              refine y_lv (lv' := [(5, .int (nI (7 * j))), (4, .ref (ad 70)), (3, .ref (ad 69)), (2, .ref (ad 52)), (1, .ref (ad 0)), (0, .ref (g.2.2 40))]) [2, 3, 4, 5, 6, 7] rfl ?_
              refine y_end (fun wC hC => ?_)
              exact LC_next ((hI.gen (t2 := t) (is := [52, 53, 69]) (L2 := []) hC rfl ⟨kd_52.mpr ⟨_, _, _, _, _, _, _, _, _, _, _, _, rfl⟩, kd_53.mpr rfl, kd_69.mpr ⟨_, rfl⟩, trivial⟩ (by decide) (by decide) (fun _ h => nomatch h) (fun _ h => nomatch h) (fun _ _ _ _ h => h) (fun h => h))) hR hJ hL ih (by omega) (by omega)
            · exact absurd c_398 (by decide)
        · exact absurd c_381 (by decide)
