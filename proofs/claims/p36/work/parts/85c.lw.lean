theorem d_Lw_law_260 : decode code 260 = .ok (.aload_n 1, 1) := zo_43 (zd_b zq_code_8 4 rfl rfl rfl)
theorem d_Lw_law_261 : decode code 261 = .ok (.aload_n 0, 1) := zo_42 (zd_b zq_code_8 5 rfl rfl rfl)
theorem d_Lw_law_262 : decode code 262 = .ok (.iload 5, 2) := zo_21 (d := 5) (zd_b zq_code_8 6 rfl rfl rfl) (zd_b zq_code_8 7 rfl rfl rfl)
theorem d_Lw_law_264 : decode code 264 = .ok (.iconst 1, 1) := zo_4 (zd_b zq_code_8 8 rfl rfl rfl)
theorem d_Lw_law_265 : decode code 265 = .ok (.iadd, 1) := zo_96 (zd_b zq_code_8 9 rfl rfl rfl)
theorem d_Lw_law_266 : decode code 266 = .ok (.iaload, 1) := zo_46 (zd_b zq_code_8 10 rfl rfl rfl)
theorem d_Lw_law_267 : decode code 267 = .ok (.i2c, 1) := zo_146 (zd_b zq_code_8 11 rfl rfl rfl)
theorem d_Lw_law_268 : decode code 268 = .ok (.aload_n 0, 1) := zo_42 (zd_b zq_code_8 12 rfl rfl rfl)
theorem d_Lw_law_269 : decode code 269 = .ok (.iload 5, 2) := zo_21 (d := 5) (zd_b zq_code_8 13 rfl rfl rfl) (zd_b zq_code_8 14 rfl rfl rfl)
theorem d_Lw_law_271 : decode code 271 = .ok (.iconst 2, 1) := zo_5 (zd_b zq_code_8 15 rfl rfl rfl)
theorem d_Lw_law_272 : decode code 272 = .ok (.iadd, 1) := zo_96 (zd_b zq_code_8 16 rfl rfl rfl)
theorem d_Lw_law_273 : decode code 273 = .ok (.iaload, 1) := zo_46 (zd_b zq_code_8 17 rfl rfl rfl)
theorem d_Lw_law_274 : decode code 274 = .ok (.aload_n 0, 1) := zo_42 (zd_b zq_code_8 18 rfl rfl rfl)
theorem d_Lw_law_275 : decode code 275 = .ok (.iload 5, 2) := zo_21 (d := 5) (zd_b zq_code_8 19 rfl rfl rfl) (zd_b zq_code_8 20 rfl rfl rfl)
theorem d_Lw_law_277 : decode code 277 = .ok (.iconst 3, 1) := zo_6 (zd_b zq_code_8 21 rfl rfl rfl)
theorem d_Lw_law_278 : decode code 278 = .ok (.iadd, 1) := zo_96 (zd_b zq_code_8 22 rfl rfl rfl)
theorem d_Lw_law_279 : decode code 279 = .ok (.iaload, 1) := zo_46 (zd_b zq_code_8 23 rfl rfl rfl)
theorem d_Lw_law_280 : decode code 280 = .ok (.aload_n 0, 1) := zo_42 (zd_b zq_code_8 24 rfl rfl rfl)
theorem d_Lw_law_281 : decode code 281 = .ok (.iload 5, 2) := zo_21 (d := 5) (zd_b zq_code_8 25 rfl rfl rfl) (zd_b zq_code_8 26 rfl rfl rfl)
theorem d_Lw_law_283 : decode code 283 = .ok (.iconst 4, 1) := zo_7 (zd_b zq_code_8 27 rfl rfl rfl)
theorem d_Lw_law_284 : decode code 284 = .ok (.iadd, 1) := zo_96 (zd_b zq_code_8 28 rfl rfl rfl)
theorem d_Lw_law_285 : decode code 285 = .ok (.iaload, 1) := zo_46 (zd_b zq_code_8 29 rfl rfl rfl)
theorem d_Lw_law_286 : decode code 286 = .ok (.aload_n 0, 1) := zo_42 (zd_b zq_code_8 30 rfl rfl rfl)
theorem d_Lw_law_287 : decode code 287 = .ok (.iload 5, 2) := zo_21 (d := 5) (zd_b zq_code_8 31 rfl rfl rfl) (zd_b zq_code_9 0 rfl rfl rfl)
theorem d_Lw_law_289 : decode code 289 = .ok (.iconst 5, 1) := zo_8 (zd_b zq_code_9 1 rfl rfl rfl)
theorem d_Lw_law_290 : decode code 290 = .ok (.iadd, 1) := zo_96 (zd_b zq_code_9 2 rfl rfl rfl)
theorem d_Lw_law_291 : decode code 291 = .ok (.iaload, 1) := zo_46 (zd_b zq_code_9 3 rfl rfl rfl)
theorem d_Lw_law_292 : decode code 292 = .ok (.aload_n 3, 1) := zo_45 (zd_b zq_code_9 4 rfl rfl rfl)
theorem d_Lw_law_293 : decode code 293 = .ok (.invokestatic 169, 3) := zo_184 (d := 0) (e := 169) (zd_b zq_code_9 5 rfl rfl rfl) (zd_b zq_code_9 6 rfl rfl rfl) (zd_b zq_code_9 7 rfl rfl rfl)
theorem ok_Lw_law_Lw_draw : z_okX M_Lw_law M_Lw_draw 7 := ⟨z_mj3 (i := 48) rfl (by decide +kernel), by decide, ⟨by decide +kernel, by decide +kernel, by decide +kernel⟩, ⟨by decide, by decide⟩, z_mj1 (i := 0) rfl (by decide +kernel), rfl⟩
theorem ln_Lw_169 : Cond.methodLink "IronpourLaw" 169 M_Lw_draw.1 ∈ z_gw := z_mj3 (i := 46) rfl (by decide +kernel)
theorem w_st_Lw_draw : Cond.static M_Lw_draw.1 ∈ z_gw := z_mj3 (i := 47) rfl (by decide +kernel)
theorem d_Lw_law_296 : decode code 296 = .ok (.istore 6, 2) := zo_54 (d := 6) (zd_b zq_code_9 8 rfl rfl rfl) (zd_b zq_code_9 9 rfl rfl rfl)
theorem d_Lw_law_298 : decode code 298 = .ok (.aload_n 2, 1) := zo_44 (zd_b zq_code_9 10 rfl rfl rfl)
theorem d_Lw_law_299 : decode code 299 = .ok (.aload_n 0, 1) := zo_42 (zd_b zq_code_9 11 rfl rfl rfl)
theorem d_Lw_law_300 : decode code 300 = .ok (.iload 5, 2) := zo_21 (d := 5) (zd_b zq_code_9 12 rfl rfl rfl) (zd_b zq_code_9 13 rfl rfl rfl)
theorem d_Lw_law_302 : decode code 302 = .ok (.iconst 1, 1) := zo_4 (zd_b zq_code_9 14 rfl rfl rfl)
theorem d_Lw_law_303 : decode code 303 = .ok (.iadd, 1) := zo_96 (zd_b zq_code_9 15 rfl rfl rfl)
theorem d_Lw_law_304 : decode code 304 = .ok (.iaload, 1) := zo_46 (zd_b zq_code_9 16 rfl rfl rfl)
theorem d_Lw_law_305 : decode code 305 = .ok (.i2c, 1) := zo_146 (zd_b zq_code_9 17 rfl rfl rfl)
theorem d_Lw_law_306 : decode code 306 = .ok (.aload_n 0, 1) := zo_42 (zd_b zq_code_9 18 rfl rfl rfl)
theorem d_Lw_law_307 : decode code 307 = .ok (.iload 5, 2) := zo_21 (d := 5) (zd_b zq_code_9 19 rfl rfl rfl) (zd_b zq_code_9 20 rfl rfl rfl)
theorem d_Lw_law_309 : decode code 309 = .ok (.iconst 2, 1) := zo_5 (zd_b zq_code_9 21 rfl rfl rfl)
theorem d_Lw_law_310 : decode code 310 = .ok (.iadd, 1) := zo_96 (zd_b zq_code_9 22 rfl rfl rfl)
theorem d_Lw_law_311 : decode code 311 = .ok (.iaload, 1) := zo_46 (zd_b zq_code_9 23 rfl rfl rfl)
theorem d_Lw_law_312 : decode code 312 = .ok (.aload_n 0, 1) := zo_42 (zd_b zq_code_9 24 rfl rfl rfl)
theorem d_Lw_law_313 : decode code 313 = .ok (.iload 5, 2) := zo_21 (d := 5) (zd_b zq_code_9 25 rfl rfl rfl) (zd_b zq_code_9 26 rfl rfl rfl)
theorem d_Lw_law_315 : decode code 315 = .ok (.iconst 3, 1) := zo_6 (zd_b zq_code_9 27 rfl rfl rfl)
theorem d_Lw_law_316 : decode code 316 = .ok (.iadd, 1) := zo_96 (zd_b zq_code_9 28 rfl rfl rfl)
theorem d_Lw_law_317 : decode code 317 = .ok (.iaload, 1) := zo_46 (zd_b zq_code_9 29 rfl rfl rfl)
theorem d_Lw_law_318 : decode code 318 = .ok (.aload_n 0, 1) := zo_42 (zd_b zq_code_9 30 rfl rfl rfl)
theorem d_Lw_law_319 : decode code 319 = .ok (.iload 5, 2) := zo_21 (d := 5) (zd_b zq_code_9 31 rfl rfl rfl) (zd_b zq_code_10 0 rfl rfl rfl)
theorem d_Lw_law_321 : decode code 321 = .ok (.iconst 4, 1) := zo_7 (zd_b zq_code_10 1 rfl rfl rfl)
theorem d_Lw_law_322 : decode code 322 = .ok (.iadd, 1) := zo_96 (zd_b zq_code_10 2 rfl rfl rfl)
theorem d_Lw_law_323 : decode code 323 = .ok (.iaload, 1) := zo_46 (zd_b zq_code_10 3 rfl rfl rfl)
theorem d_Lw_law_324 : decode code 324 = .ok (.aload_n 0, 1) := zo_42 (zd_b zq_code_10 4 rfl rfl rfl)
theorem d_Lw_law_325 : decode code 325 = .ok (.iload 5, 2) := zo_21 (d := 5) (zd_b zq_code_10 5 rfl rfl rfl) (zd_b zq_code_10 6 rfl rfl rfl)
theorem d_Lw_law_327 : decode code 327 = .ok (.iconst 5, 1) := zo_8 (zd_b zq_code_10 7 rfl rfl rfl)
theorem d_Lw_law_328 : decode code 328 = .ok (.iadd, 1) := zo_96 (zd_b zq_code_10 8 rfl rfl rfl)
theorem d_Lw_law_329 : decode code 329 = .ok (.iaload, 1) := zo_46 (zd_b zq_code_10 9 rfl rfl rfl)
theorem d_Lw_law_330 : decode code 330 = .ok (.invokevirtual 174, 3) := zo_182 (d := 0) (e := 174) (zd_b zq_code_10 10 rfl rfl rfl) (zd_b zq_code_10 11 rfl rfl rfl) (zd_b zq_code_10 12 rfl rfl rfl)
theorem ok_Lw_law_Mm_draw : z_ok M_Lw_law M_Mm_draw 5 := ⟨z_mj7 (i := 184) rfl (by decide +kernel), rfl, ⟨by decide +kernel, by decide +kernel, by decide +kernel⟩, ⟨by decide, by decide⟩, z_mj1 (i := 14) rfl (by decide +kernel), rfl⟩
theorem ln_Lw_174 : Cond.methodLink "IronpourLaw" 174 M_Mm_draw.1 ∈ z_gw := z_mj7 (i := 181) rfl (by decide +kernel)
theorem w_im_Mm_draw : Cond.instanceMethod M_Mm_draw.1 ∈ z_gw := z_mj7 (i := 182) rfl (by decide +kernel)
theorem w_se_Mm_draw : Cond.selects M_Mm_draw.1.cls M_Mm_draw.1 M_Mm_draw.1 ∈ z_gw := z_mj7 (i := 183) rfl (by decide +kernel)
theorem d_Lw_law_333 : decode code 333 = .ok (.istore 7, 2) := zo_54 (d := 7) (zd_b zq_code_10 13 rfl rfl rfl) (zd_b zq_code_10 14 rfl rfl rfl)
theorem d_Lw_law_335 : decode code 335 = .ok (.goto 1473, 3) := zo_167 (d := 5) (e := 193) (zd_b zq_code_10 15 rfl rfl rfl) (zd_b zq_code_10 16 rfl rfl rfl) (zd_b zq_code_10 17 rfl rfl rfl) (by decide +kernel)
set_option maxHeartbeats 4000000 in
set_option maxRecDepth 100000 in
theorem LC_draw {g : zG} {ad : Nat → Nat} {t : zTT} {u : zNN} {w : zW} {j : Nat} (hI : IVm g ad t u w) (hR : REL t u.1 (48 * j)) {r : Nat} (hJ : 7 * j + 7 ≤ g.2.2 41) (hL : g.2.2 41 ≤ 3584) (ih : LWI g ad j r) : DW g M_Lw_law lwQ w 260 [(5, .int (nI (7 * j))), (4, .ref (ad 70)), (3, .ref (ad 69)), (2, .ref (ad 52)), (1, .ref (ad 0)), (0, .ref (g.2.2 40))] [] (100 * (r + 1)) (1000 * (r + 1)) := by
  refine y_base (cs := []) (z_I.nil w) ?_
  refine y_aload_n d_Lw_law_260 rfl 4 rfl ?_
  refine y_aload_n d_Lw_law_261 rfl 5 rfl ?_
  refine y_iload d_Lw_law_262 0 rfl ?_
  refine y_iconst d_Lw_law_264 (v := 1) (by decide) ?_
  refine y_iadd d_Lw_law_265 (v := nI ((7 * j) + 1)) (nI_add _ _) ?_
  refine y_sld (v := zs g (7 * j + 1)) d_Lw_law_266 (vp_in_nI (by omega) (by omega)) (by rw [nI_clamp (by omega)]; rfl) ?_
  refine y_i2c d_Lw_law_267 (v := zc g (7 * j + 1)) rfl ?_
  refine y_aload_n d_Lw_law_268 rfl 5 rfl ?_
  refine y_iload d_Lw_law_269 0 rfl ?_
  refine y_iconst d_Lw_law_271 (v := 2) (by decide) ?_
  refine y_iadd d_Lw_law_272 (v := nI ((7 * j) + 2)) (nI_add _ _) ?_
  refine y_sld (v := zs g (7 * j + 2)) d_Lw_law_273 (vp_in_nI (by omega) (by omega)) (by rw [nI_clamp (by omega)]; rfl) ?_
  refine y_aload_n d_Lw_law_274 rfl 5 rfl ?_
  refine y_iload d_Lw_law_275 0 rfl ?_
  refine y_iconst d_Lw_law_277 (v := 3) (by decide) ?_
  refine y_iadd d_Lw_law_278 (v := nI ((7 * j) + 3)) (nI_add _ _) ?_
  refine y_sld (v := zs g (7 * j + 3)) d_Lw_law_279 (vp_in_nI (by omega) (by omega)) (by rw [nI_clamp (by omega)]; rfl) ?_
  refine y_aload_n d_Lw_law_280 rfl 5 rfl ?_
  refine y_iload d_Lw_law_281 0 rfl ?_
  refine y_iconst d_Lw_law_283 (v := 4) (by decide) ?_
  refine y_iadd d_Lw_law_284 (v := nI ((7 * j) + 4)) (nI_add _ _) ?_
  refine y_sld (v := zs g (7 * j + 4)) d_Lw_law_285 (vp_in_nI (by omega) (by omega)) (by rw [nI_clamp (by omega)]; rfl) ?_
  refine y_aload_n d_Lw_law_286 rfl 5 rfl ?_
  refine y_iload d_Lw_law_287 0 rfl ?_
  refine y_iconst d_Lw_law_289 (v := 5) (by decide) ?_
  refine y_iadd d_Lw_law_290 (v := nI ((7 * j) + 5)) (nI_add _ _) ?_
  refine y_sld (v := zs g (7 * j + 5)) d_Lw_law_291 (vp_in_nI (by omega) (by omega)) (by rw [nI_clamp (by omega)]; rfl) ?_
  refine y_aload_n d_Lw_law_292 rfl 2 rfl ?_
  refine yw_callSX (As := [.ref (ad 0), .int (zc g (7 * j + 1)), .int (zs g (7 * j + 2)), .int (zs g (7 * j + 3)), .int (zs g (7 * j + 4)), .int (zs g (7 * j + 5)), .ref (ad 69)]) (rest := []) ln_Lw_169 w_st_Lw_draw ok_Lw_law_Lw_draw d_Lw_law_293 (fun wA hA => W_draw (IVm.nil hA hI) _ _ _ _ _) rfl rfl (Nat.le_of_ble_eq_true rfl) (by omega) (by omega) (fun wA293 hA293 E wB293 hx => ?_) (fun wA293 hA293 v wB293 hx => ?_)
  · obtain ⟨⟨v9, e1⟩, -⟩ := hx
    cases e1
  · obtain ⟨⟨v9, e1⟩, uC, huC, hI2⟩ := hx
    cases e1
    refine yw_st (st2 := [.int v9]) rfl ?_
    have hI := hI2
    refine y_base (cs := []) (z_I.nil _) ?_
    refine y_istore (lv' := [(6, .int v9), (5, .int (nI (7 * j))), (4, .ref (ad 70)), (3, .ref (ad 69)), (2, .ref (ad 52)), (1, .ref (ad 0)), (0, .ref (g.2.2 40))]) d_Lw_law_296 (by decide) rfl ?_
    refine y_aload_n d_Lw_law_298 rfl 4 rfl ?_
    refine y_aload_n d_Lw_law_299 rfl 6 rfl ?_
    refine y_iload d_Lw_law_300 1 rfl ?_
    refine y_iconst d_Lw_law_302 (v := 1) (by decide) ?_
    refine y_iadd d_Lw_law_303 (v := nI ((7 * j) + 1)) (nI_add _ _) ?_
    refine y_sld (v := zs g (7 * j + 1)) d_Lw_law_304 (vp_in_nI (by omega) (by omega)) (by rw [nI_clamp (by omega)]; rfl) ?_
    refine y_i2c d_Lw_law_305 (v := zc g (7 * j + 1)) rfl ?_
    refine y_aload_n d_Lw_law_306 rfl 6 rfl ?_
    refine y_iload d_Lw_law_307 1 rfl ?_
    refine y_iconst d_Lw_law_309 (v := 2) (by decide) ?_
    refine y_iadd d_Lw_law_310 (v := nI ((7 * j) + 2)) (nI_add _ _) ?_
    refine y_sld (v := zs g (7 * j + 2)) d_Lw_law_311 (vp_in_nI (by omega) (by omega)) (by rw [nI_clamp (by omega)]; rfl) ?_
    refine y_aload_n d_Lw_law_312 rfl 6 rfl ?_
    refine y_iload d_Lw_law_313 1 rfl ?_
    refine y_iconst d_Lw_law_315 (v := 3) (by decide) ?_
    refine y_iadd d_Lw_law_316 (v := nI ((7 * j) + 3)) (nI_add _ _) ?_
    refine y_sld (v := zs g (7 * j + 3)) d_Lw_law_317 (vp_in_nI (by omega) (by omega)) (by rw [nI_clamp (by omega)]; rfl) ?_
    refine y_aload_n d_Lw_law_318 rfl 6 rfl ?_
    refine y_iload d_Lw_law_319 1 rfl ?_
    refine y_iconst d_Lw_law_321 (v := 4) (by decide) ?_
    refine y_iadd d_Lw_law_322 (v := nI ((7 * j) + 4)) (nI_add _ _) ?_
    refine y_sld (v := zs g (7 * j + 4)) d_Lw_law_323 (vp_in_nI (by omega) (by omega)) (by rw [nI_clamp (by omega)]; rfl) ?_
    refine y_aload_n d_Lw_law_324 rfl 6 rfl ?_
    refine y_iload d_Lw_law_325 1 rfl ?_
    refine y_iconst d_Lw_law_327 (v := 5) (by decide) ?_
    refine y_iadd d_Lw_law_328 (v := nI ((7 * j) + 5)) (nI_add _ _) ?_
    refine y_sld (v := zs g (7 * j + 5)) d_Lw_law_329 (vp_in_nI (by omega) (by omega)) (by rw [nI_clamp (by omega)]; rfl) ?_
    refine yw_callVL (As := [.int (zc g (7 * j + 1)), .int (zs g (7 * j + 2)), .int (zs g (7 * j + 3)), .int (zs g (7 * j + 4)), .int (zs g (7 * j + 5))]) (rest := []) (ci := 12) rfl (fun wA hA => (IVm.nil hA hI).rm) ln_Lw_174 w_im_Mm_draw w_se_Mm_draw ok_Lw_law_Mm_draw d_Lw_law_330 (fun wA hA => K_Mm_draw (IVm.nil hA hI) _ _ _ _ _) rfl rfl (Nat.le_of_ble_eq_true rfl) (by omega) (by omega) (fun wA330 hA330 E wB330 hx => ?_) (fun wA330 hA330 v wB330 hx => ?_)
    · obtain ⟨⟨v8, e1⟩, -⟩ := hx
      cases e1
    · obtain ⟨⟨v8, e1⟩, uM, huM, hI2⟩ := hx
      cases e1
      refine yw_st (st2 := [.int v8]) rfl ?_
      have hI := hI2
      refine y_base (cs := []) (z_I.nil _) ?_
      refine y_istore (lv' := [(7, .int v8), (6, .int v9), (5, .int (nI (7 * j))), (4, .ref (ad 70)), (3, .ref (ad 69)), (2, .ref (ad 52)), (1, .ref (ad 0)), (0, .ref (g.2.2 40))]) d_Lw_law_333 (by decide) rfl ?_
      refine y_goto (tgt := 1808) d_Lw_law_335 (by decide) ?_
      refine y_lv (lv' := [(5, .int (nI (7 * j))), (4, .ref (ad 70)), (3, .ref (ad 69)), (2, .ref (ad 52)), (1, .ref (ad 0)), (0, .ref (g.2.2 40))]) [2, 3, 4, 5, 6, 7] rfl ?_
      refine y_end (fun wC hC => ?_)
      exact LC_next (IVm.nil hC hI) ((R_draw _ _ _ _ _ hR huC huM).up (by omega)) hJ hL ih (by omega) (by omega)
theorem d_Lw_law_338 : decode code 338 = .ok (.aload_n 1, 1) := zo_43 (zd_b zq_code_10 18 rfl rfl rfl)
theorem d_Lw_law_339 : decode code 339 = .ok (.aload_n 0, 1) := zo_42 (zd_b zq_code_10 19 rfl rfl rfl)
theorem d_Lw_law_340 : decode code 340 = .ok (.iload 5, 2) := zo_21 (d := 5) (zd_b zq_code_10 20 rfl rfl rfl) (zd_b zq_code_10 21 rfl rfl rfl)
theorem d_Lw_law_342 : decode code 342 = .ok (.iconst 1, 1) := zo_4 (zd_b zq_code_10 22 rfl rfl rfl)
theorem d_Lw_law_343 : decode code 343 = .ok (.iadd, 1) := zo_96 (zd_b zq_code_10 23 rfl rfl rfl)
theorem d_Lw_law_344 : decode code 344 = .ok (.iaload, 1) := zo_46 (zd_b zq_code_10 24 rfl rfl rfl)
theorem d_Lw_law_345 : decode code 345 = .ok (.aload_n 0, 1) := zo_42 (zd_b zq_code_10 25 rfl rfl rfl)
theorem d_Lw_law_346 : decode code 346 = .ok (.iload 5, 2) := zo_21 (d := 5) (zd_b zq_code_10 26 rfl rfl rfl) (zd_b zq_code_10 27 rfl rfl rfl)
theorem d_Lw_law_348 : decode code 348 = .ok (.iconst 2, 1) := zo_5 (zd_b zq_code_10 28 rfl rfl rfl)
theorem d_Lw_law_349 : decode code 349 = .ok (.iadd, 1) := zo_96 (zd_b zq_code_10 29 rfl rfl rfl)
theorem d_Lw_law_350 : decode code 350 = .ok (.iaload, 1) := zo_46 (zd_b zq_code_10 30 rfl rfl rfl)
theorem d_Lw_law_351 : decode code 351 = .ok (.aload_n 3, 1) := zo_45 (zd_b zq_code_10 31 rfl rfl rfl)
theorem d_Lw_law_352 : decode code 352 = .ok (.invokestatic 175, 3) := zo_184 (d := 0) (e := 175) (zd_b zq_code_11 0 rfl rfl rfl) (zd_b zq_code_11 1 rfl rfl rfl) (zd_b zq_code_11 2 rfl rfl rfl)
theorem ok_Lw_law_Lw_cell : z_okX M_Lw_law M_Lw_cell 4 := ⟨z_mj3 (i := 231) rfl (by decide +kernel), by decide, ⟨by decide +kernel, by decide +kernel, by decide +kernel⟩, ⟨by decide, by decide⟩, z_mj1 (i := 0) rfl (by decide +kernel), rfl⟩
theorem ln_Lw_175 : Cond.methodLink "IronpourLaw" 175 M_Lw_cell.1 ∈ z_gw := z_mj3 (i := 229) rfl (by decide +kernel)
theorem w_st_Lw_cell : Cond.static M_Lw_cell.1 ∈ z_gw := z_mj3 (i := 230) rfl (by decide +kernel)
theorem d_Lw_law_355 : decode code 355 = .ok (.istore 6, 2) := zo_54 (d := 6) (zd_b zq_code_11 3 rfl rfl rfl) (zd_b zq_code_11 4 rfl rfl rfl)
theorem d_Lw_law_357 : decode code 357 = .ok (.aload_n 2, 1) := zo_44 (zd_b zq_code_11 5 rfl rfl rfl)
theorem d_Lw_law_358 : decode code 358 = .ok (.aload_n 0, 1) := zo_42 (zd_b zq_code_11 6 rfl rfl rfl)
theorem d_Lw_law_359 : decode code 359 = .ok (.iload 5, 2) := zo_21 (d := 5) (zd_b zq_code_11 7 rfl rfl rfl) (zd_b zq_code_11 8 rfl rfl rfl)
theorem d_Lw_law_361 : decode code 361 = .ok (.iconst 1, 1) := zo_4 (zd_b zq_code_11 9 rfl rfl rfl)
theorem d_Lw_law_362 : decode code 362 = .ok (.iadd, 1) := zo_96 (zd_b zq_code_11 10 rfl rfl rfl)
theorem d_Lw_law_363 : decode code 363 = .ok (.iaload, 1) := zo_46 (zd_b zq_code_11 11 rfl rfl rfl)
theorem d_Lw_law_364 : decode code 364 = .ok (.aload_n 0, 1) := zo_42 (zd_b zq_code_11 12 rfl rfl rfl)
theorem d_Lw_law_365 : decode code 365 = .ok (.iload 5, 2) := zo_21 (d := 5) (zd_b zq_code_11 13 rfl rfl rfl) (zd_b zq_code_11 14 rfl rfl rfl)
theorem d_Lw_law_367 : decode code 367 = .ok (.iconst 2, 1) := zo_5 (zd_b zq_code_11 15 rfl rfl rfl)
theorem d_Lw_law_368 : decode code 368 = .ok (.iadd, 1) := zo_96 (zd_b zq_code_11 16 rfl rfl rfl)
theorem d_Lw_law_369 : decode code 369 = .ok (.iaload, 1) := zo_46 (zd_b zq_code_11 17 rfl rfl rfl)
theorem d_Lw_law_370 : decode code 370 = .ok (.invokevirtual 178, 3) := zo_182 (d := 0) (e := 178) (zd_b zq_code_11 18 rfl rfl rfl) (zd_b zq_code_11 19 rfl rfl rfl) (zd_b zq_code_11 20 rfl rfl rfl)
theorem ok_Lw_law_Mm_cell : z_ok M_Lw_law M_Mm_cell 2 := ⟨z_mj7 (i := 200) rfl (by decide +kernel), rfl, ⟨by decide +kernel, by decide +kernel, by decide +kernel⟩, ⟨by decide, by decide⟩, z_mj1 (i := 14) rfl (by decide +kernel), rfl⟩
theorem ln_Lw_178 : Cond.methodLink "IronpourLaw" 178 M_Mm_cell.1 ∈ z_gw := z_mj7 (i := 197) rfl (by decide +kernel)
theorem w_im_Mm_cell : Cond.instanceMethod M_Mm_cell.1 ∈ z_gw := z_mj7 (i := 198) rfl (by decide +kernel)
theorem w_se_Mm_cell : Cond.selects M_Mm_cell.1.cls M_Mm_cell.1 M_Mm_cell.1 ∈ z_gw := z_mj7 (i := 199) rfl (by decide +kernel)
theorem d_Lw_law_373 : decode code 373 = .ok (.istore 7, 2) := zo_54 (d := 7) (zd_b zq_code_11 21 rfl rfl rfl) (zd_b zq_code_11 22 rfl rfl rfl)
theorem d_Lw_law_375 : decode code 375 = .ok (.goto 1433, 3) := zo_167 (d := 5) (e := 153) (zd_b zq_code_11 23 rfl rfl rfl) (zd_b zq_code_11 24 rfl rfl rfl) (zd_b zq_code_11 25 rfl rfl rfl) (by decide +kernel)
set_option maxHeartbeats 4000000 in
set_option maxRecDepth 100000 in
theorem LC_cell {g : zG} {ad : Nat → Nat} {t : zTT} {u : zNN} {w : zW} {j : Nat} (hI : IVm g ad t u w) (hR : REL t u.1 (48 * j)) {r : Nat} (hJ : 7 * j + 7 ≤ g.2.2 41) (hL : g.2.2 41 ≤ 3584) (ih : LWI g ad j r) : DW g M_Lw_law lwQ w 338 [(5, .int (nI (7 * j))), (4, .ref (ad 70)), (3, .ref (ad 69)), (2, .ref (ad 52)), (1, .ref (ad 0)), (0, .ref (g.2.2 40))] [] (100 * (r + 1)) (1000 * (r + 1)) := by
  refine y_base (cs := []) (z_I.nil w) ?_
  refine y_aload_n d_Lw_law_338 rfl 4 rfl ?_
  refine y_aload_n d_Lw_law_339 rfl 5 rfl ?_
  refine y_iload d_Lw_law_340 0 rfl ?_
  refine y_iconst d_Lw_law_342 (v := 1) (by decide) ?_
  refine y_iadd d_Lw_law_343 (v := nI ((7 * j) + 1)) (nI_add _ _) ?_
  refine y_sld (v := zs g (7 * j + 1)) d_Lw_law_344 (vp_in_nI (by omega) (by omega)) (by rw [nI_clamp (by omega)]; rfl) ?_
  refine y_aload_n d_Lw_law_345 rfl 5 rfl ?_
  refine y_iload d_Lw_law_346 0 rfl ?_
  refine y_iconst d_Lw_law_348 (v := 2) (by decide) ?_
  refine y_iadd d_Lw_law_349 (v := nI ((7 * j) + 2)) (nI_add _ _) ?_
  refine y_sld (v := zs g (7 * j + 2)) d_Lw_law_350 (vp_in_nI (by omega) (by omega)) (by rw [nI_clamp (by omega)]; rfl) ?_
  refine y_aload_n d_Lw_law_351 rfl 2 rfl ?_
  refine yw_callSX (As := [.ref (ad 0), .int (zs g (7 * j + 1)), .int (zs g (7 * j + 2)), .ref (ad 69)]) (rest := []) ln_Lw_175 w_st_Lw_cell ok_Lw_law_Lw_cell d_Lw_law_352 (fun wA hA => W_cell (IVm.nil hA hI) _ _) rfl rfl (Nat.le_of_ble_eq_true rfl) (by omega) (by omega) (fun wA352 hA352 E wB352 hx => ?_) (fun wA352 hA352 v wB352 hx => ?_)
  · obtain ⟨⟨v9, e1⟩, -⟩ := hx
    cases e1
  · obtain ⟨⟨v9, e1⟩, uC, huC, hI2⟩ := hx
    cases e1
    refine yw_st (st2 := [.int v9]) rfl ?_
    have hI := hI2
    refine y_base (cs := []) (z_I.nil _) ?_
    refine y_istore (lv' := [(6, .int v9), (5, .int (nI (7 * j))), (4, .ref (ad 70)), (3, .ref (ad 69)), (2, .ref (ad 52)), (1, .ref (ad 0)), (0, .ref (g.2.2 40))]) d_Lw_law_355 (by decide) rfl ?_
    refine y_aload_n d_Lw_law_357 rfl 4 rfl ?_
    refine y_aload_n d_Lw_law_358 rfl 6 rfl ?_
    refine y_iload d_Lw_law_359 1 rfl ?_
    refine y_iconst d_Lw_law_361 (v := 1) (by decide) ?_
    refine y_iadd d_Lw_law_362 (v := nI ((7 * j) + 1)) (nI_add _ _) ?_
    refine y_sld (v := zs g (7 * j + 1)) d_Lw_law_363 (vp_in_nI (by omega) (by omega)) (by rw [nI_clamp (by omega)]; rfl) ?_
    refine y_aload_n d_Lw_law_364 rfl 6 rfl ?_
    refine y_iload d_Lw_law_365 1 rfl ?_
    refine y_iconst d_Lw_law_367 (v := 2) (by decide) ?_
    refine y_iadd d_Lw_law_368 (v := nI ((7 * j) + 2)) (nI_add _ _) ?_
    refine y_sld (v := zs g (7 * j + 2)) d_Lw_law_369 (vp_in_nI (by omega) (by omega)) (by rw [nI_clamp (by omega)]; rfl) ?_
    refine yw_callVL (As := [.int (zs g (7 * j + 1)), .int (zs g (7 * j + 2))]) (rest := []) (ci := 12) rfl (fun wA hA => (IVm.nil hA hI).rm) ln_Lw_178 w_im_Mm_cell w_se_Mm_cell ok_Lw_law_Mm_cell d_Lw_law_370 (fun wA hA => K_Mm_cell (IVm.nil hA hI) _ _) rfl rfl (Nat.le_of_ble_eq_true rfl) (by omega) (by omega) (fun wA370 hA370 E wB370 hx => ?_) (fun wA370 hA370 v wB370 hx => ?_)
    · obtain ⟨⟨v8, e1⟩, -⟩ := hx
      cases e1
    · obtain ⟨⟨v8, e1⟩, uM, huM, hI2⟩ := hx
      cases e1
      refine yw_st (st2 := [.int v8]) rfl ?_
      have hI := hI2
      refine y_base (cs := []) (z_I.nil _) ?_
      refine y_istore (lv' := [(7, .int v8), (6, .int v9), (5, .int (nI (7 * j))), (4, .ref (ad 70)), (3, .ref (ad 69)), (2, .ref (ad 52)), (1, .ref (ad 0)), (0, .ref (g.2.2 40))]) d_Lw_law_373 (by decide) rfl ?_
      refine y_goto (tgt := 1808) d_Lw_law_375 (by decide) ?_
      refine y_lv (lv' := [(5, .int (nI (7 * j))), (4, .ref (ad 70)), (3, .ref (ad 69)), (2, .ref (ad 52)), (1, .ref (ad 0)), (0, .ref (g.2.2 40))]) [2, 3, 4, 5, 6, 7] rfl ?_
      refine y_end (fun wC hC => ?_)
      exact LC_next (IVm.nil hC hI) ((hR.n (huM.trans huC)).up (by omega)) hJ hL ih (by omega) (by omega)
theorem d_Lw_law_378 : decode code 378 = .ok (.aload_n 1, 1) := zo_43 (zd_b zq_code_11 26 rfl rfl rfl)
theorem d_Lw_law_379 : decode code 379 = .ok (.aload_n 0, 1) := zo_42 (zd_b zq_code_11 27 rfl rfl rfl)
theorem d_Lw_law_380 : decode code 380 = .ok (.iload 5, 2) := zo_21 (d := 5) (zd_b zq_code_11 28 rfl rfl rfl) (zd_b zq_code_11 29 rfl rfl rfl)
theorem d_Lw_law_382 : decode code 382 = .ok (.iconst 1, 1) := zo_4 (zd_b zq_code_11 30 rfl rfl rfl)
theorem d_Lw_law_383 : decode code 383 = .ok (.iadd, 1) := zo_96 (zd_b zq_code_11 31 rfl rfl rfl)
theorem d_Lw_law_384 : decode code 384 = .ok (.iaload, 1) := zo_46 (zd_b zq_code_12 0 rfl rfl rfl)
theorem d_Lw_law_385 : decode code 385 = .ok (.aload_n 3, 1) := zo_45 (zd_b zq_code_12 1 rfl rfl rfl)
theorem d_Lw_law_386 : decode code 386 = .ok (.invokestatic 179, 3) := zo_184 (d := 0) (e := 179) (zd_b zq_code_12 2 rfl rfl rfl) (zd_b zq_code_12 3 rfl rfl rfl) (zd_b zq_code_12 4 rfl rfl rfl)
theorem ok_Lw_law_Lw_part : z_okX M_Lw_law M_Lw_part 3 := ⟨z_mj4 (i := 38) rfl (by decide +kernel), by decide, ⟨by decide +kernel, by decide +kernel, by decide +kernel⟩, ⟨by decide, by decide⟩, z_mj1 (i := 0) rfl (by decide +kernel), rfl⟩
theorem ln_Lw_179 : Cond.methodLink "IronpourLaw" 179 M_Lw_part.1 ∈ z_gw := z_mj4 (i := 36) rfl (by decide +kernel)
theorem w_st_Lw_part : Cond.static M_Lw_part.1 ∈ z_gw := z_mj4 (i := 37) rfl (by decide +kernel)
theorem d_Lw_law_389 : decode code 389 = .ok (.istore 6, 2) := zo_54 (d := 6) (zd_b zq_code_12 5 rfl rfl rfl) (zd_b zq_code_12 6 rfl rfl rfl)
theorem d_Lw_law_391 : decode code 391 = .ok (.aload_n 2, 1) := zo_44 (zd_b zq_code_12 7 rfl rfl rfl)
theorem d_Lw_law_392 : decode code 392 = .ok (.aload_n 0, 1) := zo_42 (zd_b zq_code_12 8 rfl rfl rfl)
theorem d_Lw_law_393 : decode code 393 = .ok (.iload 5, 2) := zo_21 (d := 5) (zd_b zq_code_12 9 rfl rfl rfl) (zd_b zq_code_12 10 rfl rfl rfl)
theorem d_Lw_law_395 : decode code 395 = .ok (.iconst 1, 1) := zo_4 (zd_b zq_code_12 11 rfl rfl rfl)
theorem d_Lw_law_396 : decode code 396 = .ok (.iadd, 1) := zo_96 (zd_b zq_code_12 12 rfl rfl rfl)
theorem d_Lw_law_397 : decode code 397 = .ok (.iaload, 1) := zo_46 (zd_b zq_code_12 13 rfl rfl rfl)
theorem d_Lw_law_398 : decode code 398 = .ok (.invokevirtual 182, 3) := zo_182 (d := 0) (e := 182) (zd_b zq_code_12 14 rfl rfl rfl) (zd_b zq_code_12 15 rfl rfl rfl) (zd_b zq_code_12 16 rfl rfl rfl)
theorem ok_Lw_law_Mm_part : z_ok M_Lw_law M_Mm_part 1 := ⟨z_mj7 (i := 204) rfl (by decide +kernel), rfl, ⟨by decide +kernel, by decide +kernel, by decide +kernel⟩, ⟨by decide, by decide⟩, z_mj1 (i := 14) rfl (by decide +kernel), rfl⟩
theorem ln_Lw_182 : Cond.methodLink "IronpourLaw" 182 M_Mm_part.1 ∈ z_gw := z_mj7 (i := 201) rfl (by decide +kernel)
theorem w_im_Mm_part : Cond.instanceMethod M_Mm_part.1 ∈ z_gw := z_mj7 (i := 202) rfl (by decide +kernel)
theorem w_se_Mm_part : Cond.selects M_Mm_part.1.cls M_Mm_part.1 M_Mm_part.1 ∈ z_gw := z_mj7 (i := 203) rfl (by decide +kernel)
theorem d_Lw_law_401 : decode code 401 = .ok (.istore 7, 2) := zo_54 (d := 7) (zd_b zq_code_12 17 rfl rfl rfl) (zd_b zq_code_12 18 rfl rfl rfl)
theorem d_Lw_law_403 : decode code 403 = .ok (.goto 1405, 3) := zo_167 (d := 5) (e := 125) (zd_b zq_code_12 19 rfl rfl rfl) (zd_b zq_code_12 20 rfl rfl rfl) (zd_b zq_code_12 21 rfl rfl rfl) (by decide +kernel)
set_option maxHeartbeats 4000000 in
set_option maxRecDepth 100000 in
theorem LC_part {g : zG} {ad : Nat → Nat} {t : zTT} {u : zNN} {w : zW} {j : Nat} (hI : IVm g ad t u w) (hR : REL t u.1 (48 * j)) {r : Nat} (hJ : 7 * j + 7 ≤ g.2.2 41) (hL : g.2.2 41 ≤ 3584) (ih : LWI g ad j r) : DW g M_Lw_law lwQ w 378 [(5, .int (nI (7 * j))), (4, .ref (ad 70)), (3, .ref (ad 69)), (2, .ref (ad 52)), (1, .ref (ad 0)), (0, .ref (g.2.2 40))] [] (100 * (r + 1)) (1000 * (r + 1)) := by
  refine y_base (cs := []) (z_I.nil w) ?_
  refine y_aload_n d_Lw_law_378 rfl 4 rfl ?_
  refine y_aload_n d_Lw_law_379 rfl 5 rfl ?_
  refine y_iload d_Lw_law_380 0 rfl ?_
  refine y_iconst d_Lw_law_382 (v := 1) (by decide) ?_
  refine y_iadd d_Lw_law_383 (v := nI ((7 * j) + 1)) (nI_add _ _) ?_
  refine y_sld (v := zs g (7 * j + 1)) d_Lw_law_384 (vp_in_nI (by omega) (by omega)) (by rw [nI_clamp (by omega)]; rfl) ?_
  refine y_aload_n d_Lw_law_385 rfl 2 rfl ?_
  refine yw_callSX (As := [.ref (ad 0), .int (zs g (7 * j + 1)), .ref (ad 69)]) (rest := []) ln_Lw_179 w_st_Lw_part ok_Lw_law_Lw_part d_Lw_law_386 (fun wA hA => W_part (IVm.nil hA hI) _) rfl rfl (Nat.le_of_ble_eq_true rfl) (by omega) (by omega) (fun wA386 hA386 E wB386 hx => ?_) (fun wA386 hA386 v wB386 hx => ?_)
  · obtain ⟨⟨v9, e1⟩, -⟩ := hx
    cases e1
  · obtain ⟨⟨v9, e1⟩, uC, huC, hI2⟩ := hx
    cases e1
    refine yw_st (st2 := [.int v9]) rfl ?_
    have hI := hI2
    refine y_base (cs := []) (z_I.nil _) ?_
    refine y_istore (lv' := [(6, .int v9), (5, .int (nI (7 * j))), (4, .ref (ad 70)), (3, .ref (ad 69)), (2, .ref (ad 52)), (1, .ref (ad 0)), (0, .ref (g.2.2 40))]) d_Lw_law_389 (by decide) rfl ?_
    refine y_aload_n d_Lw_law_391 rfl 4 rfl ?_
    refine y_aload_n d_Lw_law_392 rfl 6 rfl ?_
    refine y_iload d_Lw_law_393 1 rfl ?_
    refine y_iconst d_Lw_law_395 (v := 1) (by decide) ?_
    refine y_iadd d_Lw_law_396 (v := nI ((7 * j) + 1)) (nI_add _ _) ?_
    refine y_sld (v := zs g (7 * j + 1)) d_Lw_law_397 (vp_in_nI (by omega) (by omega)) (by rw [nI_clamp (by omega)]; rfl) ?_
    refine yw_callVL (As := [.int (zs g (7 * j + 1))]) (rest := []) (ci := 12) rfl (fun wA hA => (IVm.nil hA hI).rm) ln_Lw_182 w_im_Mm_part w_se_Mm_part ok_Lw_law_Mm_part d_Lw_law_398 (fun wA hA => K_Mm_part (IVm.nil hA hI) _) rfl rfl (Nat.le_of_ble_eq_true rfl) (by omega) (by omega) (fun wA398 hA398 E wB398 hx => ?_) (fun wA398 hA398 v wB398 hx => ?_)
    · obtain ⟨⟨v8, e1⟩, -⟩ := hx
      cases e1
    · obtain ⟨⟨v8, e1⟩, uM, huM, hI2⟩ := hx
      cases e1
      refine yw_st (st2 := [.int v8]) rfl ?_
      have hI := hI2
      refine y_base (cs := []) (z_I.nil _) ?_
      refine y_istore (lv' := [(7, .int v8), (6, .int v9), (5, .int (nI (7 * j))), (4, .ref (ad 70)), (3, .ref (ad 69)), (2, .ref (ad 52)), (1, .ref (ad 0)), (0, .ref (g.2.2 40))]) d_Lw_law_401 (by decide) rfl ?_
      refine y_goto (tgt := 1808) d_Lw_law_403 (by decide) ?_
      refine y_lv (lv' := [(5, .int (nI (7 * j))), (4, .ref (ad 70)), (3, .ref (ad 69)), (2, .ref (ad 52)), (1, .ref (ad 0)), (0, .ref (g.2.2 40))]) [2, 3, 4, 5, 6, 7] rfl ?_
      refine y_end (fun wC hC => ?_)
      exact LC_next (IVm.nil hC hI) ((R_part _ hR huC huM).up (by omega)) hJ hL ih (by omega) (by omega)
theorem d_Lw_law_406 : decode code 406 = .ok (.aload_n 1, 1) := zo_43 (zd_b zq_code_12 22 rfl rfl rfl)
theorem d_Lw_law_407 : decode code 407 = .ok (.invokevirtual 183, 3) := zo_182 (d := 0) (e := 183) (zd_b zq_code_12 23 rfl rfl rfl) (zd_b zq_code_12 24 rfl rfl rfl) (zd_b zq_code_12 25 rfl rfl rfl)
theorem ok_Lw_law_Ip_undercut : z_ok M_Lw_law M_Ip_undercut 0 := ⟨z_mj2 (i := 103) rfl (by decide +kernel), rfl, ⟨by decide +kernel, by decide +kernel, by decide +kernel⟩, ⟨by decide, by decide⟩, z_mj1 (i := 1) rfl (by decide +kernel), rfl⟩
theorem ln_Lw_183 : Cond.methodLink "IronpourLaw" 183 M_Ip_undercut.1 ∈ z_gw := z_mj2 (i := 100) rfl (by decide +kernel)
theorem w_im_Ip_undercut : Cond.instanceMethod M_Ip_undercut.1 ∈ z_gw := z_mj2 (i := 101) rfl (by decide +kernel)
theorem w_se_Ip_undercut : Cond.selects M_Ip_undercut.1.cls M_Ip_undercut.1 M_Ip_undercut.1 ∈ z_gw := z_mj2 (i := 102) rfl (by decide +kernel)
theorem d_Lw_law_410 : decode code 410 = .ok (.pop, 1) := zo_87 (zd_b zq_code_12 26 rfl rfl rfl)
theorem d_Lw_law_411 : decode code 411 = .ok (.aload_n 2, 1) := zo_44 (zd_b zq_code_12 27 rfl rfl rfl)
theorem d_Lw_law_412 : decode code 412 = .ok (.invokevirtual 186, 3) := zo_182 (d := 0) (e := 186) (zd_b zq_code_12 28 rfl rfl rfl) (zd_b zq_code_12 29 rfl rfl rfl) (zd_b zq_code_12 30 rfl rfl rfl)
theorem ok_Lw_law_Mm_undercut : z_ok M_Lw_law M_Mm_undercut 0 := ⟨z_mj7 (i := 208) rfl (by decide +kernel), rfl, ⟨by decide +kernel, by decide +kernel, by decide +kernel⟩, ⟨by decide, by decide⟩, z_mj1 (i := 14) rfl (by decide +kernel), rfl⟩
theorem ln_Lw_186 : Cond.methodLink "IronpourLaw" 186 M_Mm_undercut.1 ∈ z_gw := z_mj7 (i := 205) rfl (by decide +kernel)
theorem w_im_Mm_undercut : Cond.instanceMethod M_Mm_undercut.1 ∈ z_gw := z_mj7 (i := 206) rfl (by decide +kernel)
theorem w_se_Mm_undercut : Cond.selects M_Mm_undercut.1.cls M_Mm_undercut.1 M_Mm_undercut.1 ∈ z_gw := z_mj7 (i := 207) rfl (by decide +kernel)
theorem d_Lw_law_415 : decode code 415 = .ok (.pop, 1) := zo_87 (zd_b zq_code_12 31 rfl rfl rfl)
theorem d_Lw_law_416 : decode code 416 = .ok (.goto 1392, 3) := zo_167 (d := 5) (e := 112) (zd_b zq_code_13 0 rfl rfl rfl) (zd_b zq_code_13 1 rfl rfl rfl) (zd_b zq_code_13 2 rfl rfl rfl) (by decide +kernel)
set_option maxHeartbeats 4000000 in
set_option maxRecDepth 100000 in
theorem LC_undercut {g : zG} {ad : Nat → Nat} {t : zTT} {u : zNN} {w : zW} {j : Nat} (hI : IVm g ad t u w) (hR : REL t u.1 (48 * j)) {r : Nat} (hJ : 7 * j + 7 ≤ g.2.2 41) (hL : g.2.2 41 ≤ 3584) (ih : LWI g ad j r) : DW g M_Lw_law lwQ w 406 [(5, .int (nI (7 * j))), (4, .ref (ad 70)), (3, .ref (ad 69)), (2, .ref (ad 52)), (1, .ref (ad 0)), (0, .ref (g.2.2 40))] [] (100 * (r + 1)) (1000 * (r + 1)) := by
  refine y_base (cs := []) (z_I.nil w) ?_
  refine y_aload_n d_Lw_law_406 rfl 4 rfl ?_
  refine yw_callVL (As := []) (rest := []) (ci := 11) rfl (fun wA hA => (IVm.nil hA hI).ra) ln_Lw_183 w_im_Ip_undercut w_se_Ip_undercut ok_Lw_law_Ip_undercut d_Lw_law_407 (fun wA hA => K_Ip_undercut (IVm.nil hA hI)) rfl rfl (Nat.le_of_ble_eq_true rfl) (by omega) (by omega) (fun wA407 hA407 E wB407 hx => ?_) (fun wA407 hA407 v wB407 hx => ?_)
  · obtain ⟨h1, -⟩ := hx
    cases zriE h1
  · obtain ⟨h1, uC, huC, hI2⟩ := hx
    obtain ⟨v9, rfl⟩ := zriV h1
    refine yw_st (st2 := [.int v9]) rfl ?_
    have hI := hI2
    refine y_base (cs := []) (z_I.nil _) ?_
    refine y_pop d_Lw_law_410 rfl ?_
    refine y_aload_n d_Lw_law_411 rfl 3 rfl ?_
    refine yw_callVL (As := []) (rest := []) (ci := 12) rfl (fun wA hA => (IVm.nil hA hI).rm) ln_Lw_186 w_im_Mm_undercut w_se_Mm_undercut ok_Lw_law_Mm_undercut d_Lw_law_412 (fun wA hA => K_Mm_undercut (IVm.nil hA hI)) rfl rfl (Nat.le_of_ble_eq_true rfl) (by omega) (by omega) (fun wA412 hA412 E wB412 hx => ?_) (fun wA412 hA412 v wB412 hx => ?_)
    · obtain ⟨⟨v8, e1⟩, -⟩ := hx
      cases e1
    · obtain ⟨⟨v8, e1⟩, uM, huM, hI2⟩ := hx
      cases e1
      refine yw_st (st2 := [.int v8]) rfl ?_
      have hI := hI2
      refine y_base (cs := []) (z_I.nil _) ?_
      refine y_pop d_Lw_law_415 rfl ?_
      refine y_goto (tgt := 1808) d_Lw_law_416 (by decide) ?_
      refine y_lv (lv' := [(5, .int (nI (7 * j))), (4, .ref (ad 70)), (3, .ref (ad 69)), (2, .ref (ad 52)), (1, .ref (ad 0)), (0, .ref (g.2.2 40))]) [0, 1, 2, 3, 4, 5] rfl ?_
      refine y_end (fun wC hC => ?_)
      exact LC_next (IVm.nil hC hI) ((hR.n (huM.trans huC)).up (by omega)) hJ hL ih (by omega) (by omega)
theorem d_Lw_law_419 : decode code 419 = .ok (.aload_n 1, 1) := zo_43 (zd_b zq_code_13 3 rfl rfl rfl)
theorem d_Lw_law_420 : decode code 420 = .ok (.invokevirtual 187, 3) := zo_182 (d := 0) (e := 187) (zd_b zq_code_13 4 rfl rfl rfl) (zd_b zq_code_13 5 rfl rfl rfl) (zd_b zq_code_13 6 rfl rfl rfl)
theorem ok_Lw_law_Ip_cores : z_ok M_Lw_law M_Ip_cores 0 := ⟨z_mj2 (i := 118) rfl (by decide +kernel), rfl, ⟨by decide +kernel, by decide +kernel, by decide +kernel⟩, ⟨by decide, by decide⟩, z_mj1 (i := 1) rfl (by decide +kernel), rfl⟩
theorem ln_Lw_187 : Cond.methodLink "IronpourLaw" 187 M_Ip_cores.1 ∈ z_gw := z_mj2 (i := 115) rfl (by decide +kernel)
theorem w_im_Ip_cores : Cond.instanceMethod M_Ip_cores.1 ∈ z_gw := z_mj2 (i := 116) rfl (by decide +kernel)
theorem w_se_Ip_cores : Cond.selects M_Ip_cores.1.cls M_Ip_cores.1 M_Ip_cores.1 ∈ z_gw := z_mj2 (i := 117) rfl (by decide +kernel)
theorem d_Lw_law_423 : decode code 423 = .ok (.pop, 1) := zo_87 (zd_b zq_code_13 7 rfl rfl rfl)
theorem d_Lw_law_424 : decode code 424 = .ok (.aload_n 2, 1) := zo_44 (zd_b zq_code_13 8 rfl rfl rfl)
theorem d_Lw_law_425 : decode code 425 = .ok (.invokevirtual 190, 3) := zo_182 (d := 0) (e := 190) (zd_b zq_code_13 9 rfl rfl rfl) (zd_b zq_code_13 10 rfl rfl rfl) (zd_b zq_code_13 11 rfl rfl rfl)
theorem ok_Lw_law_Mm_cores : z_ok M_Lw_law M_Mm_cores 0 := ⟨z_mj7 (i := 218) rfl (by decide +kernel), rfl, ⟨by decide +kernel, by decide +kernel, by decide +kernel⟩, ⟨by decide, by decide⟩, z_mj1 (i := 14) rfl (by decide +kernel), rfl⟩
theorem ln_Lw_190 : Cond.methodLink "IronpourLaw" 190 M_Mm_cores.1 ∈ z_gw := z_mj7 (i := 215) rfl (by decide +kernel)
theorem w_im_Mm_cores : Cond.instanceMethod M_Mm_cores.1 ∈ z_gw := z_mj7 (i := 216) rfl (by decide +kernel)
theorem w_se_Mm_cores : Cond.selects M_Mm_cores.1.cls M_Mm_cores.1 M_Mm_cores.1 ∈ z_gw := z_mj7 (i := 217) rfl (by decide +kernel)
theorem d_Lw_law_428 : decode code 428 = .ok (.pop, 1) := zo_87 (zd_b zq_code_13 12 rfl rfl rfl)
theorem d_Lw_law_429 : decode code 429 = .ok (.goto 1379, 3) := zo_167 (d := 5) (e := 99) (zd_b zq_code_13 13 rfl rfl rfl) (zd_b zq_code_13 14 rfl rfl rfl) (zd_b zq_code_13 15 rfl rfl rfl) (by decide +kernel)
set_option maxHeartbeats 4000000 in
set_option maxRecDepth 100000 in
theorem LC_cores {g : zG} {ad : Nat → Nat} {t : zTT} {u : zNN} {w : zW} {j : Nat} (hI : IVm g ad t u w) (hR : REL t u.1 (48 * j)) {r : Nat} (hJ : 7 * j + 7 ≤ g.2.2 41) (hL : g.2.2 41 ≤ 3584) (ih : LWI g ad j r) : DW g M_Lw_law lwQ w 419 [(5, .int (nI (7 * j))), (4, .ref (ad 70)), (3, .ref (ad 69)), (2, .ref (ad 52)), (1, .ref (ad 0)), (0, .ref (g.2.2 40))] [] (100 * (r + 1)) (1000 * (r + 1)) := by
  refine y_base (cs := []) (z_I.nil w) ?_
  refine y_aload_n d_Lw_law_419 rfl 4 rfl ?_
  refine yw_callVL (As := []) (rest := []) (ci := 11) rfl (fun wA hA => (IVm.nil hA hI).ra) ln_Lw_187 w_im_Ip_cores w_se_Ip_cores ok_Lw_law_Ip_cores d_Lw_law_420 (fun wA hA => K_Ip_cores (IVm.nil hA hI)) rfl rfl (Nat.le_of_ble_eq_true rfl) (by omega) (by omega) (fun wA420 hA420 E wB420 hx => ?_) (fun wA420 hA420 v wB420 hx => ?_)
  · obtain ⟨h1, -⟩ := hx
    cases zriE h1
  · obtain ⟨h1, uC, huC, hI2⟩ := hx
    obtain ⟨v9, rfl⟩ := zriV h1
    refine yw_st (st2 := [.int v9]) rfl ?_
    have hI := hI2
    refine y_base (cs := []) (z_I.nil _) ?_
    refine y_pop d_Lw_law_423 rfl ?_
    refine y_aload_n d_Lw_law_424 rfl 3 rfl ?_
    refine yw_callVL (As := []) (rest := []) (ci := 12) rfl (fun wA hA => (IVm.nil hA hI).rm) ln_Lw_190 w_im_Mm_cores w_se_Mm_cores ok_Lw_law_Mm_cores d_Lw_law_425 (fun wA hA => K_Mm_cores (IVm.nil hA hI)) rfl rfl (Nat.le_of_ble_eq_true rfl) (by omega) (by omega) (fun wA425 hA425 E wB425 hx => ?_) (fun wA425 hA425 v wB425 hx => ?_)
    · obtain ⟨⟨v8, e1⟩, -⟩ := hx
      cases e1
    · obtain ⟨⟨v8, e1⟩, uM, huM, hI2⟩ := hx
      cases e1
      refine yw_st (st2 := [.int v8]) rfl ?_
      have hI := hI2
      refine y_base (cs := []) (z_I.nil _) ?_
      refine y_pop d_Lw_law_428 rfl ?_
      refine y_goto (tgt := 1808) d_Lw_law_429 (by decide) ?_
      refine y_lv (lv' := [(5, .int (nI (7 * j))), (4, .ref (ad 70)), (3, .ref (ad 69)), (2, .ref (ad 52)), (1, .ref (ad 0)), (0, .ref (g.2.2 40))]) [0, 1, 2, 3, 4, 5] rfl ?_
      refine y_end (fun wC hC => ?_)
      exact LC_next (IVm.nil hC hI) ((hR.n (huM.trans huC)).up (by omega)) hJ hL ih (by omega) (by omega)
theorem d_Lw_law_432 : decode code 432 = .ok (.aload_n 1, 1) := zo_43 (zd_b zq_code_13 16 rfl rfl rfl)
theorem d_Lw_law_433 : decode code 433 = .ok (.invokevirtual 191, 3) := zo_182 (d := 0) (e := 191) (zd_b zq_code_13 17 rfl rfl rfl) (zd_b zq_code_13 18 rfl rfl rfl) (zd_b zq_code_13 19 rfl rfl rfl)
theorem ok_Lw_law_Ip_loose : z_ok M_Lw_law M_Ip_loose 0 := ⟨z_mj2 (i := 137) rfl (by decide +kernel), rfl, ⟨by decide +kernel, by decide +kernel, by decide +kernel⟩, ⟨by decide, by decide⟩, z_mj1 (i := 1) rfl (by decide +kernel), rfl⟩
theorem ln_Lw_191 : Cond.methodLink "IronpourLaw" 191 M_Ip_loose.1 ∈ z_gw := z_mj2 (i := 134) rfl (by decide +kernel)
theorem w_im_Ip_loose : Cond.instanceMethod M_Ip_loose.1 ∈ z_gw := z_mj2 (i := 135) rfl (by decide +kernel)
theorem w_se_Ip_loose : Cond.selects M_Ip_loose.1.cls M_Ip_loose.1 M_Ip_loose.1 ∈ z_gw := z_mj2 (i := 136) rfl (by decide +kernel)
theorem d_Lw_law_436 : decode code 436 = .ok (.pop, 1) := zo_87 (zd_b zq_code_13 20 rfl rfl rfl)
theorem d_Lw_law_437 : decode code 437 = .ok (.aload_n 2, 1) := zo_44 (zd_b zq_code_13 21 rfl rfl rfl)
theorem d_Lw_law_438 : decode code 438 = .ok (.invokevirtual 194, 3) := zo_182 (d := 0) (e := 194) (zd_b zq_code_13 22 rfl rfl rfl) (zd_b zq_code_13 23 rfl rfl rfl) (zd_b zq_code_13 24 rfl rfl rfl)
theorem ok_Lw_law_Mm_loose : z_ok M_Lw_law M_Mm_loose 0 := ⟨z_mj7 (i := 233) rfl (by decide +kernel), rfl, ⟨by decide +kernel, by decide +kernel, by decide +kernel⟩, ⟨by decide, by decide⟩, z_mj1 (i := 14) rfl (by decide +kernel), rfl⟩
theorem ln_Lw_194 : Cond.methodLink "IronpourLaw" 194 M_Mm_loose.1 ∈ z_gw := z_mj7 (i := 230) rfl (by decide +kernel)
theorem w_im_Mm_loose : Cond.instanceMethod M_Mm_loose.1 ∈ z_gw := z_mj7 (i := 231) rfl (by decide +kernel)
theorem w_se_Mm_loose : Cond.selects M_Mm_loose.1.cls M_Mm_loose.1 M_Mm_loose.1 ∈ z_gw := z_mj7 (i := 232) rfl (by decide +kernel)
theorem d_Lw_law_441 : decode code 441 = .ok (.pop, 1) := zo_87 (zd_b zq_code_13 25 rfl rfl rfl)
theorem d_Lw_law_442 : decode code 442 = .ok (.goto 1366, 3) := zo_167 (d := 5) (e := 86) (zd_b zq_code_13 26 rfl rfl rfl) (zd_b zq_code_13 27 rfl rfl rfl) (zd_b zq_code_13 28 rfl rfl rfl) (by decide +kernel)
set_option maxHeartbeats 4000000 in
set_option maxRecDepth 100000 in
theorem LC_loose {g : zG} {ad : Nat → Nat} {t : zTT} {u : zNN} {w : zW} {j : Nat} (hI : IVm g ad t u w) (hR : REL t u.1 (48 * j)) {r : Nat} (hJ : 7 * j + 7 ≤ g.2.2 41) (hL : g.2.2 41 ≤ 3584) (ih : LWI g ad j r) : DW g M_Lw_law lwQ w 432 [(5, .int (nI (7 * j))), (4, .ref (ad 70)), (3, .ref (ad 69)), (2, .ref (ad 52)), (1, .ref (ad 0)), (0, .ref (g.2.2 40))] [] (100 * (r + 1)) (1000 * (r + 1)) := by
  refine y_base (cs := []) (z_I.nil w) ?_
  refine y_aload_n d_Lw_law_432 rfl 4 rfl ?_
  refine yw_callVL (As := []) (rest := []) (ci := 11) rfl (fun wA hA => (IVm.nil hA hI).ra) ln_Lw_191 w_im_Ip_loose w_se_Ip_loose ok_Lw_law_Ip_loose d_Lw_law_433 (fun wA hA => K_Ip_loose (IVm.nil hA hI)) rfl rfl (Nat.le_of_ble_eq_true rfl) (by omega) (by omega) (fun wA433 hA433 E wB433 hx => ?_) (fun wA433 hA433 v wB433 hx => ?_)
  · obtain ⟨h1, -⟩ := hx
    cases zriE h1
  · obtain ⟨h1, uC, huC, hI2⟩ := hx
    obtain ⟨v9, rfl⟩ := zriV h1
    refine yw_st (st2 := [.int v9]) rfl ?_
    have hI := hI2
    refine y_base (cs := []) (z_I.nil _) ?_
    refine y_pop d_Lw_law_436 rfl ?_
    refine y_aload_n d_Lw_law_437 rfl 3 rfl ?_
    refine yw_callVL (As := []) (rest := []) (ci := 12) rfl (fun wA hA => (IVm.nil hA hI).rm) ln_Lw_194 w_im_Mm_loose w_se_Mm_loose ok_Lw_law_Mm_loose d_Lw_law_438 (fun wA hA => K_Mm_loose (IVm.nil hA hI)) rfl rfl (Nat.le_of_ble_eq_true rfl) (by omega) (by omega) (fun wA438 hA438 E wB438 hx => ?_) (fun wA438 hA438 v wB438 hx => ?_)
    · obtain ⟨⟨v8, e1⟩, -⟩ := hx
      cases e1
    · obtain ⟨⟨v8, e1⟩, uM, huM, hI2⟩ := hx
      cases e1
      refine yw_st (st2 := [.int v8]) rfl ?_
      have hI := hI2
      refine y_base (cs := []) (z_I.nil _) ?_
      refine y_pop d_Lw_law_441 rfl ?_
      refine y_goto (tgt := 1808) d_Lw_law_442 (by decide) ?_
      refine y_lv (lv' := [(5, .int (nI (7 * j))), (4, .ref (ad 70)), (3, .ref (ad 69)), (2, .ref (ad 52)), (1, .ref (ad 0)), (0, .ref (g.2.2 40))]) [0, 1, 2, 3, 4, 5] rfl ?_
      refine y_end (fun wC hC => ?_)
      exact LC_next (IVm.nil hC hI) ((hR.n (huM.trans huC)).up (by omega)) hJ hL ih (by omega) (by omega)
theorem d_Lw_law_445 : decode code 445 = .ok (.aload_n 1, 1) := zo_43 (zd_b zq_code_13 29 rfl rfl rfl)
theorem d_Lw_law_446 : decode code 446 = .ok (.invokevirtual 195, 3) := zo_182 (d := 0) (e := 195) (zd_b zq_code_13 30 rfl rfl rfl) (zd_b zq_code_13 31 rfl rfl rfl) (zd_b zq_code_14 0 rfl rfl rfl)
theorem ok_Lw_law_Ip_weight : z_ok M_Lw_law M_Ip_weight 0 := ⟨z_mj2 (i := 145) rfl (by decide +kernel), rfl, ⟨by decide +kernel, by decide +kernel, by decide +kernel⟩, ⟨by decide, by decide⟩, z_mj1 (i := 1) rfl (by decide +kernel), rfl⟩
theorem ln_Lw_195 : Cond.methodLink "IronpourLaw" 195 M_Ip_weight.1 ∈ z_gw := z_mj2 (i := 142) rfl (by decide +kernel)
theorem w_im_Ip_weight : Cond.instanceMethod M_Ip_weight.1 ∈ z_gw := z_mj2 (i := 143) rfl (by decide +kernel)
theorem w_se_Ip_weight : Cond.selects M_Ip_weight.1.cls M_Ip_weight.1 M_Ip_weight.1 ∈ z_gw := z_mj2 (i := 144) rfl (by decide +kernel)
theorem d_Lw_law_449 : decode code 449 = .ok (.pop, 1) := zo_87 (zd_b zq_code_14 1 rfl rfl rfl)
theorem d_Lw_law_450 : decode code 450 = .ok (.aload_n 2, 1) := zo_44 (zd_b zq_code_14 2 rfl rfl rfl)
theorem d_Lw_law_451 : decode code 451 = .ok (.invokevirtual 198, 3) := zo_182 (d := 0) (e := 198) (zd_b zq_code_14 3 rfl rfl rfl) (zd_b zq_code_14 4 rfl rfl rfl) (zd_b zq_code_14 5 rfl rfl rfl)
theorem ok_Lw_law_Mm_weight : z_ok M_Lw_law M_Mm_weight 0 := ⟨z_mj8 (i := 4) rfl (by decide +kernel), rfl, ⟨by decide +kernel, by decide +kernel, by decide +kernel⟩, ⟨by decide, by decide⟩, z_mj1 (i := 14) rfl (by decide +kernel), rfl⟩
theorem ln_Lw_198 : Cond.methodLink "IronpourLaw" 198 M_Mm_weight.1 ∈ z_gw := z_mj8 (i := 1) rfl (by decide +kernel)
theorem w_im_Mm_weight : Cond.instanceMethod M_Mm_weight.1 ∈ z_gw := z_mj8 (i := 2) rfl (by decide +kernel)
theorem w_se_Mm_weight : Cond.selects M_Mm_weight.1.cls M_Mm_weight.1 M_Mm_weight.1 ∈ z_gw := z_mj8 (i := 3) rfl (by decide +kernel)
theorem d_Lw_law_454 : decode code 454 = .ok (.pop, 1) := zo_87 (zd_b zq_code_14 6 rfl rfl rfl)
theorem d_Lw_law_455 : decode code 455 = .ok (.goto 1353, 3) := zo_167 (d := 5) (e := 73) (zd_b zq_code_14 7 rfl rfl rfl) (zd_b zq_code_14 8 rfl rfl rfl) (zd_b zq_code_14 9 rfl rfl rfl) (by decide +kernel)
set_option maxHeartbeats 4000000 in
set_option maxRecDepth 100000 in
theorem LC_weight {g : zG} {ad : Nat → Nat} {t : zTT} {u : zNN} {w : zW} {j : Nat} (hI : IVm g ad t u w) (hR : REL t u.1 (48 * j)) {r : Nat} (hJ : 7 * j + 7 ≤ g.2.2 41) (hL : g.2.2 41 ≤ 3584) (ih : LWI g ad j r) : DW g M_Lw_law lwQ w 445 [(5, .int (nI (7 * j))), (4, .ref (ad 70)), (3, .ref (ad 69)), (2, .ref (ad 52)), (1, .ref (ad 0)), (0, .ref (g.2.2 40))] [] (100 * (r + 1)) (1000 * (r + 1)) := by
  refine y_base (cs := []) (z_I.nil w) ?_
  refine y_aload_n d_Lw_law_445 rfl 4 rfl ?_
  refine yw_callVL (As := []) (rest := []) (ci := 11) rfl (fun wA hA => (IVm.nil hA hI).ra) ln_Lw_195 w_im_Ip_weight w_se_Ip_weight ok_Lw_law_Ip_weight d_Lw_law_446 (fun wA hA => K_Ip_weight (IVm.nil hA hI)) rfl rfl (Nat.le_of_ble_eq_true rfl) (by omega) (by omega) (fun wA446 hA446 E wB446 hx => ?_) (fun wA446 hA446 v wB446 hx => ?_)
  · obtain ⟨h1, -⟩ := hx
    cases zriE h1
  · obtain ⟨h1, uC, huC, hI2⟩ := hx
    obtain ⟨v9, rfl⟩ := zriV h1
    refine yw_st (st2 := [.int v9]) rfl ?_
    have hI := hI2
    refine y_base (cs := []) (z_I.nil _) ?_
    refine y_pop d_Lw_law_449 rfl ?_
    refine y_aload_n d_Lw_law_450 rfl 3 rfl ?_
    refine yw_callVL (As := []) (rest := []) (ci := 12) rfl (fun wA hA => (IVm.nil hA hI).rm) ln_Lw_198 w_im_Mm_weight w_se_Mm_weight ok_Lw_law_Mm_weight d_Lw_law_451 (fun wA hA => K_Mm_weight (IVm.nil hA hI)) rfl rfl (Nat.le_of_ble_eq_true rfl) (by omega) (by omega) (fun wA451 hA451 E wB451 hx => ?_) (fun wA451 hA451 v wB451 hx => ?_)
    · obtain ⟨⟨v8, e1⟩, -⟩ := hx
      cases e1
    · obtain ⟨⟨v8, e1⟩, uM, huM, hI2⟩ := hx
      cases e1
      refine yw_st (st2 := [.int v8]) rfl ?_
      have hI := hI2
      refine y_base (cs := []) (z_I.nil _) ?_
      refine y_pop d_Lw_law_454 rfl ?_
      refine y_goto (tgt := 1808) d_Lw_law_455 (by decide) ?_
      refine y_lv (lv' := [(5, .int (nI (7 * j))), (4, .ref (ad 70)), (3, .ref (ad 69)), (2, .ref (ad 52)), (1, .ref (ad 0)), (0, .ref (g.2.2 40))]) [0, 1, 2, 3, 4, 5] rfl ?_
      refine y_end (fun wC hC => ?_)
      exact LC_next (IVm.nil hC hI) ((hR.n (huM.trans huC)).up (by omega)) hJ hL ih (by omega) (by omega)
theorem d_Lw_law_458 : decode code 458 = .ok (.aload_n 1, 1) := zo_43 (zd_b zq_code_14 10 rfl rfl rfl)
theorem d_Lw_law_459 : decode code 459 = .ok (.aload_n 0, 1) := zo_42 (zd_b zq_code_14 11 rfl rfl rfl)
theorem d_Lw_law_460 : decode code 460 = .ok (.iload 5, 2) := zo_21 (d := 5) (zd_b zq_code_14 12 rfl rfl rfl) (zd_b zq_code_14 13 rfl rfl rfl)
theorem d_Lw_law_462 : decode code 462 = .ok (.iconst 1, 1) := zo_4 (zd_b zq_code_14 14 rfl rfl rfl)
theorem d_Lw_law_463 : decode code 463 = .ok (.iadd, 1) := zo_96 (zd_b zq_code_14 15 rfl rfl rfl)
theorem d_Lw_law_464 : decode code 464 = .ok (.iaload, 1) := zo_46 (zd_b zq_code_14 16 rfl rfl rfl)
theorem d_Lw_law_465 : decode code 465 = .ok (.aload_n 0, 1) := zo_42 (zd_b zq_code_14 17 rfl rfl rfl)
theorem d_Lw_law_466 : decode code 466 = .ok (.iload 5, 2) := zo_21 (d := 5) (zd_b zq_code_14 18 rfl rfl rfl) (zd_b zq_code_14 19 rfl rfl rfl)
theorem d_Lw_law_468 : decode code 468 = .ok (.iconst 2, 1) := zo_5 (zd_b zq_code_14 20 rfl rfl rfl)
theorem d_Lw_law_469 : decode code 469 = .ok (.iadd, 1) := zo_96 (zd_b zq_code_14 21 rfl rfl rfl)
theorem d_Lw_law_470 : decode code 470 = .ok (.iaload, 1) := zo_46 (zd_b zq_code_14 22 rfl rfl rfl)
theorem d_Lw_law_471 : decode code 471 = .ok (.aload_n 3, 1) := zo_45 (zd_b zq_code_14 23 rfl rfl rfl)
theorem d_Lw_law_472 : decode code 472 = .ok (.invokestatic 199, 3) := zo_184 (d := 0) (e := 199) (zd_b zq_code_14 24 rfl rfl rfl) (zd_b zq_code_14 25 rfl rfl rfl) (zd_b zq_code_14 26 rfl rfl rfl)
theorem ok_Lw_law_Lw_filledIn : z_okX M_Lw_law M_Lw_filledIn 4 := ⟨z_mj4 (i := 46) rfl (by decide +kernel), by decide, ⟨by decide +kernel, by decide +kernel, by decide +kernel⟩, ⟨by decide, by decide⟩, z_mj1 (i := 0) rfl (by decide +kernel), rfl⟩
theorem ln_Lw_199 : Cond.methodLink "IronpourLaw" 199 M_Lw_filledIn.1 ∈ z_gw := z_mj4 (i := 44) rfl (by decide +kernel)
theorem w_st_Lw_filledIn : Cond.static M_Lw_filledIn.1 ∈ z_gw := z_mj4 (i := 45) rfl (by decide +kernel)
theorem d_Lw_law_475 : decode code 475 = .ok (.istore 6, 2) := zo_54 (d := 6) (zd_b zq_code_14 27 rfl rfl rfl) (zd_b zq_code_14 28 rfl rfl rfl)
theorem d_Lw_law_477 : decode code 477 = .ok (.aload_n 2, 1) := zo_44 (zd_b zq_code_14 29 rfl rfl rfl)
theorem d_Lw_law_478 : decode code 478 = .ok (.aload_n 0, 1) := zo_42 (zd_b zq_code_14 30 rfl rfl rfl)
theorem d_Lw_law_479 : decode code 479 = .ok (.iload 5, 2) := zo_21 (d := 5) (zd_b zq_code_14 31 rfl rfl rfl) (zd_b zq_code_15 0 rfl rfl rfl)
theorem d_Lw_law_481 : decode code 481 = .ok (.iconst 1, 1) := zo_4 (zd_b zq_code_15 1 rfl rfl rfl)
theorem d_Lw_law_482 : decode code 482 = .ok (.iadd, 1) := zo_96 (zd_b zq_code_15 2 rfl rfl rfl)
theorem d_Lw_law_483 : decode code 483 = .ok (.iaload, 1) := zo_46 (zd_b zq_code_15 3 rfl rfl rfl)
theorem d_Lw_law_484 : decode code 484 = .ok (.aload_n 0, 1) := zo_42 (zd_b zq_code_15 4 rfl rfl rfl)
theorem d_Lw_law_485 : decode code 485 = .ok (.iload 5, 2) := zo_21 (d := 5) (zd_b zq_code_15 5 rfl rfl rfl) (zd_b zq_code_15 6 rfl rfl rfl)
theorem d_Lw_law_487 : decode code 487 = .ok (.iconst 2, 1) := zo_5 (zd_b zq_code_15 7 rfl rfl rfl)
theorem d_Lw_law_488 : decode code 488 = .ok (.iadd, 1) := zo_96 (zd_b zq_code_15 8 rfl rfl rfl)
theorem d_Lw_law_489 : decode code 489 = .ok (.iaload, 1) := zo_46 (zd_b zq_code_15 9 rfl rfl rfl)
theorem d_Lw_law_490 : decode code 490 = .ok (.invokevirtual 201, 3) := zo_182 (d := 0) (e := 201) (zd_b zq_code_15 10 rfl rfl rfl) (zd_b zq_code_15 11 rfl rfl rfl) (zd_b zq_code_15 12 rfl rfl rfl)
theorem ok_Lw_law_Mm_filledIn : z_ok M_Lw_law M_Mm_filledIn 2 := ⟨z_mj8 (i := 11) rfl (by decide +kernel), rfl, ⟨by decide +kernel, by decide +kernel, by decide +kernel⟩, ⟨by decide, by decide⟩, z_mj1 (i := 14) rfl (by decide +kernel), rfl⟩
theorem ln_Lw_201 : Cond.methodLink "IronpourLaw" 201 M_Mm_filledIn.1 ∈ z_gw := z_mj8 (i := 8) rfl (by decide +kernel)
theorem w_im_Mm_filledIn : Cond.instanceMethod M_Mm_filledIn.1 ∈ z_gw := z_mj8 (i := 9) rfl (by decide +kernel)
theorem w_se_Mm_filledIn : Cond.selects M_Mm_filledIn.1.cls M_Mm_filledIn.1 M_Mm_filledIn.1 ∈ z_gw := z_mj8 (i := 10) rfl (by decide +kernel)
theorem d_Lw_law_493 : decode code 493 = .ok (.istore 7, 2) := zo_54 (d := 7) (zd_b zq_code_15 13 rfl rfl rfl) (zd_b zq_code_15 14 rfl rfl rfl)
theorem d_Lw_law_495 : decode code 495 = .ok (.goto 1313, 3) := zo_167 (d := 5) (e := 33) (zd_b zq_code_15 15 rfl rfl rfl) (zd_b zq_code_15 16 rfl rfl rfl) (zd_b zq_code_15 17 rfl rfl rfl) (by decide +kernel)
set_option maxHeartbeats 4000000 in
set_option maxRecDepth 100000 in
theorem LC_filledIn {g : zG} {ad : Nat → Nat} {t : zTT} {u : zNN} {w : zW} {j : Nat} (hI : IVm g ad t u w) (hR : REL t u.1 (48 * j)) {r : Nat} (hJ : 7 * j + 7 ≤ g.2.2 41) (hL : g.2.2 41 ≤ 3584) (ih : LWI g ad j r) : DW g M_Lw_law lwQ w 458 [(5, .int (nI (7 * j))), (4, .ref (ad 70)), (3, .ref (ad 69)), (2, .ref (ad 52)), (1, .ref (ad 0)), (0, .ref (g.2.2 40))] [] (100 * (r + 1)) (1000 * (r + 1)) := by
  refine y_base (cs := []) (z_I.nil w) ?_
  refine y_aload_n d_Lw_law_458 rfl 4 rfl ?_
  refine y_aload_n d_Lw_law_459 rfl 5 rfl ?_
  refine y_iload d_Lw_law_460 0 rfl ?_
  refine y_iconst d_Lw_law_462 (v := 1) (by decide) ?_
  refine y_iadd d_Lw_law_463 (v := nI ((7 * j) + 1)) (nI_add _ _) ?_
  refine y_sld (v := zs g (7 * j + 1)) d_Lw_law_464 (vp_in_nI (by omega) (by omega)) (by rw [nI_clamp (by omega)]; rfl) ?_
  refine y_aload_n d_Lw_law_465 rfl 5 rfl ?_
  refine y_iload d_Lw_law_466 0 rfl ?_
  refine y_iconst d_Lw_law_468 (v := 2) (by decide) ?_
  refine y_iadd d_Lw_law_469 (v := nI ((7 * j) + 2)) (nI_add _ _) ?_
  refine y_sld (v := zs g (7 * j + 2)) d_Lw_law_470 (vp_in_nI (by omega) (by omega)) (by rw [nI_clamp (by omega)]; rfl) ?_
  refine y_aload_n d_Lw_law_471 rfl 2 rfl ?_
  refine yw_callSX (As := [.ref (ad 0), .int (zs g (7 * j + 1)), .int (zs g (7 * j + 2)), .ref (ad 69)]) (rest := []) ln_Lw_199 w_st_Lw_filledIn ok_Lw_law_Lw_filledIn d_Lw_law_472 (fun wA hA => W_filledIn (IVm.nil hA hI) _ _) rfl rfl (Nat.le_of_ble_eq_true rfl) (by omega) (by omega) (fun wA472 hA472 E wB472 hx => ?_) (fun wA472 hA472 v wB472 hx => ?_)
  · obtain ⟨⟨v9, e1⟩, -⟩ := hx
    cases e1
  · obtain ⟨⟨v9, e1⟩, uC, huC, hI2⟩ := hx
    cases e1
    refine yw_st (st2 := [.int v9]) rfl ?_
    have hI := hI2
    refine y_base (cs := []) (z_I.nil _) ?_
    refine y_istore (lv' := [(6, .int v9), (5, .int (nI (7 * j))), (4, .ref (ad 70)), (3, .ref (ad 69)), (2, .ref (ad 52)), (1, .ref (ad 0)), (0, .ref (g.2.2 40))]) d_Lw_law_475 (by decide) rfl ?_
    refine y_aload_n d_Lw_law_477 rfl 4 rfl ?_
    refine y_aload_n d_Lw_law_478 rfl 6 rfl ?_
    refine y_iload d_Lw_law_479 1 rfl ?_
    refine y_iconst d_Lw_law_481 (v := 1) (by decide) ?_
    refine y_iadd d_Lw_law_482 (v := nI ((7 * j) + 1)) (nI_add _ _) ?_
    refine y_sld (v := zs g (7 * j + 1)) d_Lw_law_483 (vp_in_nI (by omega) (by omega)) (by rw [nI_clamp (by omega)]; rfl) ?_
    refine y_aload_n d_Lw_law_484 rfl 6 rfl ?_
    refine y_iload d_Lw_law_485 1 rfl ?_
    refine y_iconst d_Lw_law_487 (v := 2) (by decide) ?_
    refine y_iadd d_Lw_law_488 (v := nI ((7 * j) + 2)) (nI_add _ _) ?_
    refine y_sld (v := zs g (7 * j + 2)) d_Lw_law_489 (vp_in_nI (by omega) (by omega)) (by rw [nI_clamp (by omega)]; rfl) ?_
    refine yw_callVL (As := [.int (zs g (7 * j + 1)), .int (zs g (7 * j + 2))]) (rest := []) (ci := 12) rfl (fun wA hA => (IVm.nil hA hI).rm) ln_Lw_201 w_im_Mm_filledIn w_se_Mm_filledIn ok_Lw_law_Mm_filledIn d_Lw_law_490 (fun wA hA => K_Mm_filledIn (IVm.nil hA hI) _ _) rfl rfl (Nat.le_of_ble_eq_true rfl) (by omega) (by omega) (fun wA490 hA490 E wB490 hx => ?_) (fun wA490 hA490 v wB490 hx => ?_)
    · obtain ⟨⟨v8, e1⟩, -⟩ := hx
      cases e1
    · obtain ⟨⟨v8, e1⟩, uM, huM, hI2⟩ := hx
      cases e1
      refine yw_st (st2 := [.int v8]) rfl ?_
      have hI := hI2
      refine y_base (cs := []) (z_I.nil _) ?_
      refine y_istore (lv' := [(7, .int v8), (6, .int v9), (5, .int (nI (7 * j))), (4, .ref (ad 70)), (3, .ref (ad 69)), (2, .ref (ad 52)), (1, .ref (ad 0)), (0, .ref (g.2.2 40))]) d_Lw_law_493 (by decide) rfl ?_
      refine y_goto (tgt := 1808) d_Lw_law_495 (by decide) ?_
      refine y_lv (lv' := [(5, .int (nI (7 * j))), (4, .ref (ad 70)), (3, .ref (ad 69)), (2, .ref (ad 52)), (1, .ref (ad 0)), (0, .ref (g.2.2 40))]) [2, 3, 4, 5, 6, 7] rfl ?_
      refine y_end (fun wC hC => ?_)
      exact LC_next (IVm.nil hC hI) ((hR.n (huM.trans huC)).up (by omega)) hJ hL ih (by omega) (by omega)
