set_option maxHeartbeats 4000000 in
set_option maxRecDepth 100000 in
theorem Jx4_pour (g : zG) {Ψ : zO → zW → Prop} {w0 : zW} {n kc ks : Nat} {ad : Nat → Nat} (w_th w_pt w_cl w_wa w_co_ w_fi w_bu w_ho w_lh w_mg w_wd w_fpi w_fal : Int32) (w_po w_de : Int64) (fl he nx mtt fz ic gp f_i f_n mif mdf : Nat → Int32) (qn : Nat → Nat) (gr9 mg9 : Nat → Int64) (its nb q124 q129 p_n : Nat) (tk wt : Int32) (hT : ¬ tk = 0) (hch_i : z_ch f_i) (hg_i : ¬ fa_cnt (fun k => decide (f_i k = 103)) 12 = 0) (h0_n : f_n 0 = nI p_n) (hp_n : 1 ≤ p_n ∧ p_n < 9) (hv_i : vlA f_i fl) (sh : Int32) (hsh : mdf 3 = sh) (x10 : Int32) (hx10 : x10 = (pE10 mg9 tk w_mg)) (K : ∀ (gp : Nat → Int32) (qn : Nat → Nat), DU g M_Mm_pour Ψ w0 n 461 [(11, .int (pfF f_i f_n p_n mg9 tk w_mg sh (icQ f_i fl w_lh (decide (tk < wt)) 108))), (6, .ref q129), (5, .ref q124), (0, .ref (ad 52))] [] [((ad 52), .inr (12, [.int w_th, .ref (ad 53), .int w_pt, .ref (ad 54), .ref (ad 55), .ref (ad 56), .ref (ad 57), .ref (ad 58), .ref (ad 59), .ref (ad 60), .ref (ad 61), .int w_cl, .int w_wa, .int w_co_, .int w_fi, .int w_bu, .int w_ho, .ref (ad 62), .ref (ad 63), .ref (ad 64), .int w_lh, .int w_mg, .int w_wd, .int w_fpi, .int w_fal, .ref (ad 65), .ref (ad 66), .ref (ad 67), .ref (ad 68), .long w_po, .long w_de])), ((ad 63), .inl (0, 4, .inl mif)), ((ad 64), .inl (3, 16, .inr (.inl gr9))), ((ad 54), .inl (0, 108, .inl fl)), ((ad 55), .inl (0, 108, .inl he)), ((ad 56), .inl (0, 108, .inl nx)), ((ad 57), .inl (0, 108, .inl mtt)), ((ad 58), .inl (0, 108, .inl fz)), ((ad 59), .inl (2, 108, .inl ic)), ((ad 60), .inl (0, 108, .inl (fun k => nI (qn k)))), ((ad 61), .inl (0, 108, .inl gp)), (its, .inl (1, 108, .inl f_i)), (nb, .inl (0, 5, .inl f_n)), (q124, .inl (0, 6, .inl (upd mdf 4 (pE4 w_mg)))), (q129, .inl (3, 4, .inr (.inl mg9)))] kc ks) : DU g M_Mm_pour Ψ w0 n 351 [(8, .int (pE8 f_n)), (6, .ref q129), (5, .ref q124), (4, .int tk), (3, .int wt), (2, .ref nb), (1, .ref its), (0, .ref (ad 52))] [.int x10] [((ad 52), .inr (12, [.int w_th, .ref (ad 53), .int w_pt, .ref (ad 54), .ref (ad 55), .ref (ad 56), .ref (ad 57), .ref (ad 58), .ref (ad 59), .ref (ad 60), .ref (ad 61), .int w_cl, .int w_wa, .int w_co_, .int w_fi, .int w_bu, .int w_ho, .ref (ad 62), .ref (ad 63), .ref (ad 64), .int w_lh, .int w_mg, .int w_wd, .int w_fpi, .int w_fal, .ref (ad 65), .ref (ad 66), .ref (ad 67), .ref (ad 68), .long w_po, .long w_de])), ((ad 63), .inl (0, 4, .inl mif)), ((ad 64), .inl (3, 16, .inr (.inl gr9))), ((ad 54), .inl (0, 108, .inl fl)), ((ad 55), .inl (0, 108, .inl he)), ((ad 56), .inl (0, 108, .inl nx)), ((ad 57), .inl (0, 108, .inl mtt)), ((ad 58), .inl (0, 108, .inl fz)), ((ad 59), .inl (2, 108, .inl ic)), ((ad 60), .inl (0, 108, .inl (fun k => nI (qn k)))), ((ad 61), .inl (0, 108, .inl gp)), (its, .inl (1, 108, .inl f_i)), (nb, .inl (0, 5, .inl f_n)), (q124, .inl (0, 6, .inl (upd mdf 4 (pE4 w_mg)))), (q129, .inl (3, 4, .inr (.inl mg9)))] kc ks := by
  subst hx10
  refine y_istore (lv' := [(10, .int (pE10 mg9 tk w_mg)), (8, .int (pE8 f_n)), (6, .ref q129), (5, .ref q124), (4, .int tk), (3, .int wt), (2, .ref nb), (1, .ref its), (0, .ref (ad 52))]) d_Mm_pour_351 (by decide) rfl ?_
  refine y_aload d_Mm_pour_353 3 rfl ?_
  refine y_iconst d_Mm_pour_355 (v := 3) (by decide) ?_
  refine y_iald d_Mm_pour_356 (q0 := 13) rfl (fun q => q.elim (by decide) (by decide)) (v := sh) (show upd mdf 4 (pE4 w_mg) 3 = sh from (upd_ne (by decide)).trans hsh) ?_
  refine y_if_le (tgt := 364) d_Mm_pour_357 (by decide) (fun c_357 => ?_) (fun c_357 => ?_)
  · refine y_iconst d_Mm_pour_364 (v := 0) (by decide) ?_
    refine y_lv (lv' := [(10, .int (pE10 mg9 tk w_mg)), (8, .int (pE8 f_n)), (6, .ref q129), (5, .ref q124), (4, .int tk), (3, .int wt), (2, .ref nb), (1, .ref its), (0, .ref (ad 52))]) [0, 1, 2, 3, 4, 5, 6, 7, 8] rfl ?_
    exact Jx5_pour g w_th w_pt w_cl w_wa w_co_ w_fi w_bu w_ho w_lh w_mg w_wd w_fpi w_fal w_po w_de fl he nx mtt fz ic gp f_i f_n mif mdf qn gr9 mg9 its nb q124 q129 p_n tk wt hT hch_i hg_i h0_n hp_n hv_i sh hsh _ (Eq.symm (if_pos (show sh ≤ 0 from c_357))) K
  · refine y_iconst d_Mm_pour_360 (v := 1) (by decide) ?_
    refine y_goto (tgt := 365) d_Mm_pour_361 (by decide) ?_
    refine y_lv (lv' := [(10, .int (pE10 mg9 tk w_mg)), (8, .int (pE8 f_n)), (6, .ref q129), (5, .ref q124), (4, .int tk), (3, .int wt), (2, .ref nb), (1, .ref its), (0, .ref (ad 52))]) [0, 1, 2, 3, 4, 5, 6, 7, 8] rfl ?_
    exact Jx5_pour g w_th w_pt w_cl w_wa w_co_ w_fi w_bu w_ho w_lh w_mg w_wd w_fpi w_fal w_po w_de fl he nx mtt fz ic gp f_i f_n mif mdf qn gr9 mg9 its nb q124 q129 p_n tk wt hT hch_i hg_i h0_n hp_n hv_i sh hsh _ (Eq.symm (if_neg (show ¬ sh ≤ 0 from c_357))) K
theorem d_Mm_pour_292 : decode prog_14_method_77_code 292 = .ok (.istore 8, 2) := zo_54 (d := 8) (zd_b zq_prog_14_method_77_code_9 4 rfl rfl rfl) (zd_b zq_prog_14_method_77_code_9 5 rfl rfl rfl)
theorem d_Mm_pour_294 : decode prog_14_method_77_code 294 = .ok (.aload 6, 2) := zo_25 (d := 6) (zd_b zq_prog_14_method_77_code_9 6 rfl rfl rfl) (zd_b zq_prog_14_method_77_code_9 7 rfl rfl rfl)
theorem d_Mm_pour_296 : decode prog_14_method_77_code 296 = .ok (.iconst 0, 1) := zo_3 (zd_b zq_prog_14_method_77_code_9 8 rfl rfl rfl)
theorem d_Mm_pour_297 : decode prog_14_method_77_code 297 = .ok (.laload, 1) := zo_47 (zd_b zq_prog_14_method_77_code_9 9 rfl rfl rfl)
theorem d_Mm_pour_298 : decode prog_14_method_77_code 298 = .ok (.ldc2_w 244, 3) := zo_20 (d := 0) (e := 244) (zd_b zq_prog_14_method_77_code_9 10 rfl rfl rfl) (zd_b zq_prog_14_method_77_code_9 11 rfl rfl rfl) (zd_b zq_prog_14_method_77_code_9 12 rfl rfl rfl)
theorem d_Mm_pour_301 : decode prog_14_method_77_code 301 = .ok (.lmul, 1) := zo_105 (zd_b zq_prog_14_method_77_code_9 13 rfl rfl rfl)
theorem d_Mm_pour_302 : decode prog_14_method_77_code 302 = .ok (.iload 4, 2) := zo_21 (d := 4) (zd_b zq_prog_14_method_77_code_9 14 rfl rfl rfl) (zd_b zq_prog_14_method_77_code_9 15 rfl rfl rfl)
theorem d_Mm_pour_304 : decode prog_14_method_77_code 304 = .ok (.i2l, 1) := zo_133 (zd_b zq_prog_14_method_77_code_9 16 rfl rfl rfl)
theorem d_Mm_pour_305 : decode prog_14_method_77_code 305 = .ok (.ldiv, 1) := zo_109 (zd_b zq_prog_14_method_77_code_9 17 rfl rfl rfl)
theorem d_Mm_pour_306 : decode prog_14_method_77_code 306 = .ok (.l2i, 1) := zo_136 (zd_b zq_prog_14_method_77_code_9 18 rfl rfl rfl)
theorem d_Mm_pour_307 : decode prog_14_method_77_code 307 = .ok (.aload 6, 2) := zo_25 (d := 6) (zd_b zq_prog_14_method_77_code_9 19 rfl rfl rfl) (zd_b zq_prog_14_method_77_code_9 20 rfl rfl rfl)
theorem d_Mm_pour_309 : decode prog_14_method_77_code 309 = .ok (.iconst 1, 1) := zo_4 (zd_b zq_prog_14_method_77_code_9 21 rfl rfl rfl)
theorem d_Mm_pour_310 : decode prog_14_method_77_code 310 = .ok (.laload, 1) := zo_47 (zd_b zq_prog_14_method_77_code_9 22 rfl rfl rfl)
theorem d_Mm_pour_311 : decode prog_14_method_77_code 311 = .ok (.ldc2_w 244, 3) := zo_20 (d := 0) (e := 244) (zd_b zq_prog_14_method_77_code_9 23 rfl rfl rfl) (zd_b zq_prog_14_method_77_code_9 24 rfl rfl rfl) (zd_b zq_prog_14_method_77_code_9 25 rfl rfl rfl)
theorem d_Mm_pour_314 : decode prog_14_method_77_code 314 = .ok (.lmul, 1) := zo_105 (zd_b zq_prog_14_method_77_code_9 26 rfl rfl rfl)
theorem d_Mm_pour_315 : decode prog_14_method_77_code 315 = .ok (.iload 4, 2) := zo_21 (d := 4) (zd_b zq_prog_14_method_77_code_9 27 rfl rfl rfl) (zd_b zq_prog_14_method_77_code_9 28 rfl rfl rfl)
theorem d_Mm_pour_317 : decode prog_14_method_77_code 317 = .ok (.i2l, 1) := zo_133 (zd_b zq_prog_14_method_77_code_9 29 rfl rfl rfl)
theorem d_Mm_pour_318 : decode prog_14_method_77_code 318 = .ok (.ldiv, 1) := zo_109 (zd_b zq_prog_14_method_77_code_9 30 rfl rfl rfl)
theorem d_Mm_pour_319 : decode prog_14_method_77_code 319 = .ok (.l2i, 1) := zo_136 (zd_b zq_prog_14_method_77_code_9 31 rfl rfl rfl)
theorem d_Mm_pour_320 : decode prog_14_method_77_code 320 = .ok (.iconst 3, 1) := zo_6 (zd_b zq_prog_14_method_77_code_10 0 rfl rfl rfl)
theorem d_Mm_pour_321 : decode prog_14_method_77_code 321 = .ok (.idiv, 1) := zo_108 (zd_b zq_prog_14_method_77_code_10 1 rfl rfl rfl)
theorem d_Mm_pour_322 : decode prog_14_method_77_code 322 = .ok (.iadd, 1) := zo_96 (zd_b zq_prog_14_method_77_code_10 2 rfl rfl rfl)
theorem d_Mm_pour_323 : decode prog_14_method_77_code 323 = .ok (.istore 9, 2) := zo_54 (d := 9) (zd_b zq_prog_14_method_77_code_10 3 rfl rfl rfl) (zd_b zq_prog_14_method_77_code_10 4 rfl rfl rfl)
theorem d_Mm_pour_325 : decode prog_14_method_77_code 325 = .ok (.iload 9, 2) := zo_21 (d := 9) (zd_b zq_prog_14_method_77_code_10 5 rfl rfl rfl) (zd_b zq_prog_14_method_77_code_10 6 rfl rfl rfl)
theorem d_Mm_pour_327 : decode prog_14_method_77_code 327 = .ok (.sipush 370, 3) := zo_17 (d := 1) (e := 114) (zd_b zq_prog_14_method_77_code_10 7 rfl rfl rfl) (zd_b zq_prog_14_method_77_code_10 8 rfl rfl rfl) (zd_b zq_prog_14_method_77_code_10 9 rfl rfl rfl) (by decide +kernel)
theorem d_Mm_pour_330 : decode prog_14_method_77_code 330 = .ok (.if_icmp .lt 16, 3) := zo_161 (d := 0) (e := 16) (zd_b zq_prog_14_method_77_code_10 10 rfl rfl rfl) (zd_b zq_prog_14_method_77_code_10 11 rfl rfl rfl) (zd_b zq_prog_14_method_77_code_10 12 rfl rfl rfl) (by decide +kernel)
theorem d_Mm_pour_346 : decode prog_14_method_77_code 346 = .ok (.iconst 1, 1) := zo_4 (zd_b zq_prog_14_method_77_code_10 26 rfl rfl rfl)
theorem d_Mm_pour_347 : decode prog_14_method_77_code 347 = .ok (.goto 4, 3) := zo_167 (d := 0) (e := 4) (zd_b zq_prog_14_method_77_code_10 27 rfl rfl rfl) (zd_b zq_prog_14_method_77_code_10 28 rfl rfl rfl) (zd_b zq_prog_14_method_77_code_10 29 rfl rfl rfl) (by decide +kernel)
theorem d_Mm_pour_333 : decode prog_14_method_77_code 333 = .ok (.aload_n 0, 1) := zo_42 (zd_b zq_prog_14_method_77_code_10 13 rfl rfl rfl)
theorem d_Mm_pour_334 : decode prog_14_method_77_code 334 = .ok (.getfield 260, 3) := zo_180 (d := 1) (e := 4) (zd_b zq_prog_14_method_77_code_10 14 rfl rfl rfl) (zd_b zq_prog_14_method_77_code_10 15 rfl rfl rfl) (zd_b zq_prog_14_method_77_code_10 16 rfl rfl rfl)
theorem d_Mm_pour_337 : decode prog_14_method_77_code 337 = .ok (.iconst 1, 1) := zo_4 (zd_b zq_prog_14_method_77_code_10 17 rfl rfl rfl)
theorem d_Mm_pour_338 : decode prog_14_method_77_code 338 = .ok (.bipush 19, 2) := zo_16 (d := 19) (zd_b zq_prog_14_method_77_code_10 18 rfl rfl rfl) (zd_b zq_prog_14_method_77_code_10 19 rfl rfl rfl) (by decide +kernel)
theorem d_Mm_pour_340 : decode prog_14_method_77_code 340 = .ok (.invokestatic 87, 3) := zo_184 (d := 0) (e := 87) (zd_b zq_prog_14_method_77_code_10 20 rfl rfl rfl) (zd_b zq_prog_14_method_77_code_10 21 rfl rfl rfl) (zd_b zq_prog_14_method_77_code_10 22 rfl rfl rfl)
theorem ok_Mm_pour_Mm_in : z_ok M_Mm_pour M_Mm_in 3 := ⟨z_mj7 (i := 190) rfl (by decide +kernel), rfl, ⟨by decide +kernel, by decide +kernel, by decide +kernel⟩, ⟨by decide, by decide⟩, z_mj1 (i := 14) rfl (by decide +kernel), rfl⟩
theorem d_Mm_pour_343 : decode prog_14_method_77_code 343 = .ok (.ifCond .eq 7, 3) := zo_153 (d := 0) (e := 7) (zd_b zq_prog_14_method_77_code_10 23 rfl rfl rfl) (zd_b zq_prog_14_method_77_code_10 24 rfl rfl rfl) (zd_b zq_prog_14_method_77_code_10 25 rfl rfl rfl) (by decide +kernel)
theorem d_Mm_pour_350 : decode prog_14_method_77_code 350 = .ok (.iconst 0, 1) := zo_3 (zd_b zq_prog_14_method_77_code_10 30 rfl rfl rfl)
set_option maxHeartbeats 4000000 in
set_option maxRecDepth 100000 in
theorem Jx3_pour (g : zG) {Ψ : zO → zW → Prop} {w0 : zW} {n kc ks : Nat} {ad : Nat → Nat} (w_th w_pt w_cl w_wa w_co_ w_fi w_bu w_ho w_lh w_mg w_wd w_fpi w_fal : Int32) (w_po w_de : Int64) (fl he nx mtt fz ic gp f_i f_n mif mdf : Nat → Int32) (qn : Nat → Nat) (gr9 mg9 : Nat → Int64) (its nb q124 q129 p_n : Nat) (tk wt : Int32) (hT : ¬ tk = 0) (hch_i : z_ch f_i) (hg_i : ¬ fa_cnt (fun k => decide (f_i k = 103)) 12 = 0) (h0_n : f_n 0 = nI p_n) (hp_n : 1 ≤ p_n ∧ p_n < 9) (hv_i : vlA f_i fl) (sh : Int32) (hsh : mdf 3 = sh) (x8 : Int32) (hx8 : x8 = (pE8 f_n)) (K : ∀ (gp : Nat → Int32) (qn : Nat → Nat), DU g M_Mm_pour Ψ w0 n 461 [(11, .int (pfF f_i f_n p_n mg9 tk w_mg sh (icQ f_i fl w_lh (decide (tk < wt)) 108))), (6, .ref q129), (5, .ref q124), (0, .ref (ad 52))] [] [((ad 52), .inr (12, [.int w_th, .ref (ad 53), .int w_pt, .ref (ad 54), .ref (ad 55), .ref (ad 56), .ref (ad 57), .ref (ad 58), .ref (ad 59), .ref (ad 60), .ref (ad 61), .int w_cl, .int w_wa, .int w_co_, .int w_fi, .int w_bu, .int w_ho, .ref (ad 62), .ref (ad 63), .ref (ad 64), .int w_lh, .int w_mg, .int w_wd, .int w_fpi, .int w_fal, .ref (ad 65), .ref (ad 66), .ref (ad 67), .ref (ad 68), .long w_po, .long w_de])), ((ad 63), .inl (0, 4, .inl mif)), ((ad 64), .inl (3, 16, .inr (.inl gr9))), ((ad 54), .inl (0, 108, .inl fl)), ((ad 55), .inl (0, 108, .inl he)), ((ad 56), .inl (0, 108, .inl nx)), ((ad 57), .inl (0, 108, .inl mtt)), ((ad 58), .inl (0, 108, .inl fz)), ((ad 59), .inl (2, 108, .inl ic)), ((ad 60), .inl (0, 108, .inl (fun k => nI (qn k)))), ((ad 61), .inl (0, 108, .inl gp)), (its, .inl (1, 108, .inl f_i)), (nb, .inl (0, 5, .inl f_n)), (q124, .inl (0, 6, .inl (upd mdf 4 (pE4 w_mg)))), (q129, .inl (3, 4, .inr (.inl mg9)))] kc ks) : DU g M_Mm_pour Ψ w0 n 292 [(6, .ref q129), (5, .ref q124), (4, .int tk), (3, .int wt), (2, .ref nb), (1, .ref its), (0, .ref (ad 52))] [.int x8] [((ad 52), .inr (12, [.int w_th, .ref (ad 53), .int w_pt, .ref (ad 54), .ref (ad 55), .ref (ad 56), .ref (ad 57), .ref (ad 58), .ref (ad 59), .ref (ad 60), .ref (ad 61), .int w_cl, .int w_wa, .int w_co_, .int w_fi, .int w_bu, .int w_ho, .ref (ad 62), .ref (ad 63), .ref (ad 64), .int w_lh, .int w_mg, .int w_wd, .int w_fpi, .int w_fal, .ref (ad 65), .ref (ad 66), .ref (ad 67), .ref (ad 68), .long w_po, .long w_de])), ((ad 63), .inl (0, 4, .inl mif)), ((ad 64), .inl (3, 16, .inr (.inl gr9))), ((ad 54), .inl (0, 108, .inl fl)), ((ad 55), .inl (0, 108, .inl he)), ((ad 56), .inl (0, 108, .inl nx)), ((ad 57), .inl (0, 108, .inl mtt)), ((ad 58), .inl (0, 108, .inl fz)), ((ad 59), .inl (2, 108, .inl ic)), ((ad 60), .inl (0, 108, .inl (fun k => nI (qn k)))), ((ad 61), .inl (0, 108, .inl gp)), (its, .inl (1, 108, .inl f_i)), (nb, .inl (0, 5, .inl f_n)), (q124, .inl (0, 6, .inl (upd mdf 4 (pE4 w_mg)))), (q129, .inl (3, 4, .inr (.inl mg9)))] kc ks := by
  subst hx8
  refine y_istore (lv' := [(8, .int (pE8 f_n)), (6, .ref q129), (5, .ref q124), (4, .int tk), (3, .int wt), (2, .ref nb), (1, .ref its), (0, .ref (ad 52))]) d_Mm_pour_292 (by decide) rfl ?_
  refine y_aload d_Mm_pour_294 1 rfl ?_
  refine y_iconst d_Mm_pour_296 (v := 0) (by decide) ?_
  refine y_lald d_Mm_pour_297 (q0 := 14) rfl (fun q => q.elim (by decide) (by decide)) (v := mg9 0) rfl ?_
  refine y_ldc2 ct_Mm_244 d_Mm_pour_298 ?_
  refine y_lmul d_Mm_pour_301 (v := (mg9 0) * 10) rfl ?_
  refine y_iload d_Mm_pour_302 3 rfl ?_
  refine y_i2l d_Mm_pour_304 (v := tk.toInt64) rfl ?_
  refine y_ldiv d_Mm_pour_305 (v := ((mg9 0) * 10) / tk.toInt64) (z_l0 hT) rfl ?_
  refine y_l2i d_Mm_pour_306 (v := (((mg9 0) * 10) / tk.toInt64).toInt32) rfl ?_
  refine y_aload d_Mm_pour_307 1 rfl ?_
  refine y_iconst d_Mm_pour_309 (v := 1) (by decide) ?_
  refine y_lald d_Mm_pour_310 (q0 := 14) rfl (fun q => q.elim (by decide) (by decide)) (v := mg9 1) rfl ?_
  refine y_ldc2 ct_Mm_244 d_Mm_pour_311 ?_
  refine y_lmul d_Mm_pour_314 (v := (mg9 1) * 10) rfl ?_
  refine y_iload d_Mm_pour_315 3 rfl ?_
  refine y_i2l d_Mm_pour_317 (v := tk.toInt64) rfl ?_
  refine y_ldiv d_Mm_pour_318 (v := ((mg9 1) * 10) / tk.toInt64) (z_l0 hT) rfl ?_
  refine y_l2i d_Mm_pour_319 (v := (((mg9 1) * 10) / tk.toInt64).toInt32) rfl ?_
  refine y_iconst d_Mm_pour_320 (v := 3) (by decide) ?_
  refine y_idiv d_Mm_pour_321 (v := ((((mg9 1) * 10) / tk.toInt64).toInt32) / 3) (by decide) rfl ?_
  refine y_iadd d_Mm_pour_322 (v := pE9 mg9 tk) rfl ?_
  refine y_istore (lv' := [(9, .int (pE9 mg9 tk)), (8, .int (pE8 f_n)), (6, .ref q129), (5, .ref q124), (4, .int tk), (3, .int wt), (2, .ref nb), (1, .ref its), (0, .ref (ad 52))]) d_Mm_pour_323 (by decide) rfl ?_
  refine y_iload d_Mm_pour_325 0 rfl ?_
  refine y_sipush d_Mm_pour_327 (v := 370) (by decide) ?_
  refine y_icmp_lt (tgt := 346) d_Mm_pour_330 (by decide) (fun c_330 => ?_) (fun c_330 => ?_)
  · refine y_iconst d_Mm_pour_346 (v := 1) (by decide) ?_
    refine y_goto (tgt := 351) d_Mm_pour_347 (by decide) ?_
    refine y_lv (lv' := [(8, .int (pE8 f_n)), (6, .ref q129), (5, .ref q124), (4, .int tk), (3, .int wt), (2, .ref nb), (1, .ref its), (0, .ref (ad 52))]) [1, 2, 3, 4, 5, 6, 7, 8] rfl ?_
    exact Jx4_pour g w_th w_pt w_cl w_wa w_co_ w_fi w_bu w_ho w_lh w_mg w_wd w_fpi w_fal w_po w_de fl he nx mtt fz ic gp f_i f_n mif mdf qn gr9 mg9 its nb q124 q129 p_n tk wt hT hch_i hg_i h0_n hp_n hv_i sh hsh _ (by first | exact Eq.symm (if_pos (Or.inl c_330)) | exact Eq.symm (if_pos (Or.inr (z_b0n c_343)))) K
  · refine y_aload_n d_Mm_pour_333 rfl 8 rfl ?_
    refine y_get fs_Mm_260 d_Mm_pour_334 (q0 := 0) rfl rfl ?_
    refine y_iconst d_Mm_pour_337 (v := 1) (by decide) ?_
    refine y_bipush d_Mm_pour_338 (v := 19) (by decide) ?_
    refine y_callS (As := [.int w_mg, .int 1, .int 19]) (rest := []) (csC := []) (is := []) ln_Mm_87 w_st_Mm_in ok_Mm_pour_Mm_in d_Mm_pour_340 (C_Mm_in g w_mg 1 19) rfl rfl (Nat.le_of_ble_eq_true rfl) rfl (by decide) (by omega) (by omega) (fun E cs1 hx => ?_) (fun v cs1 hx => ?_)
    · exact absurd hx.1 (by simp)
    · obtain ⟨e1, rfl⟩ := hx
      cases e1
      refine ⟨rfl, ?_⟩
      refine y_st (st2 := [.int (if 1 ≤ w_mg ∧ w_mg ≤ 19 then 1 else 0)]) rfl ?_
      refine y_cs (cs2 := [((ad 52), .inr (12, [.int w_th, .ref (ad 53), .int w_pt, .ref (ad 54), .ref (ad 55), .ref (ad 56), .ref (ad 57), .ref (ad 58), .ref (ad 59), .ref (ad 60), .ref (ad 61), .int w_cl, .int w_wa, .int w_co_, .int w_fi, .int w_bu, .int w_ho, .ref (ad 62), .ref (ad 63), .ref (ad 64), .int w_lh, .int w_mg, .int w_wd, .int w_fpi, .int w_fal, .ref (ad 65), .ref (ad 66), .ref (ad 67), .ref (ad 68), .long w_po, .long w_de])), ((ad 63), .inl (0, 4, .inl mif)), ((ad 64), .inl (3, 16, .inr (.inl gr9))), ((ad 54), .inl (0, 108, .inl fl)), ((ad 55), .inl (0, 108, .inl he)), ((ad 56), .inl (0, 108, .inl nx)), ((ad 57), .inl (0, 108, .inl mtt)), ((ad 58), .inl (0, 108, .inl fz)), ((ad 59), .inl (2, 108, .inl ic)), ((ad 60), .inl (0, 108, .inl (fun k => nI (qn k)))), ((ad 61), .inl (0, 108, .inl gp)), (its, .inl (1, 108, .inl f_i)), (nb, .inl (0, 5, .inl f_n)), (q124, .inl (0, 6, .inl (upd mdf 4 (pE4 w_mg)))), (q129, .inl (3, 4, .inr (.inl mg9)))]) rfl ?_
      refine y_if_eq (tgt := 350) d_Mm_pour_343 (by decide) (fun c_343 => ?_) (fun c_343 => ?_)
      · refine y_iconst d_Mm_pour_350 (v := 0) (by decide) ?_
        refine y_lv (lv' := [(8, .int (pE8 f_n)), (6, .ref q129), (5, .ref q124), (4, .int tk), (3, .int wt), (2, .ref nb), (1, .ref its), (0, .ref (ad 52))]) [1, 2, 3, 4, 5, 6, 7, 8] rfl ?_
        exact Jx4_pour g w_th w_pt w_cl w_wa w_co_ w_fi w_bu w_ho w_lh w_mg w_wd w_fpi w_fal w_po w_de fl he nx mtt fz ic gp f_i f_n mif mdf qn gr9 mg9 its nb q124 q129 p_n tk wt hT hch_i hg_i h0_n hp_n hv_i sh hsh _ (Eq.symm (if_neg (fun q => q.elim c_330 (fun e => absurd c_343 (by rw [if_pos e]; decide))))) K
      · refine y_iconst d_Mm_pour_346 (v := 1) (by decide) ?_
        refine y_goto (tgt := 351) d_Mm_pour_347 (by decide) ?_
        refine y_lv (lv' := [(8, .int (pE8 f_n)), (6, .ref q129), (5, .ref q124), (4, .int tk), (3, .int wt), (2, .ref nb), (1, .ref its), (0, .ref (ad 52))]) [1, 2, 3, 4, 5, 6, 7, 8] rfl ?_
        exact Jx4_pour g w_th w_pt w_cl w_wa w_co_ w_fi w_bu w_ho w_lh w_mg w_wd w_fpi w_fal w_po w_de fl he nx mtt fz ic gp f_i f_n mif mdf qn gr9 mg9 its nb q124 q129 p_n tk wt hT hch_i hg_i h0_n hp_n hv_i sh hsh _ (by first | exact Eq.symm (if_pos (Or.inl c_330)) | exact Eq.symm (if_pos (Or.inr (z_b0n c_343)))) K
theorem d_Mm_pour_262 : decode prog_14_method_77_code 262 = .ok (.iastore, 1) := zo_79 (zd_b zq_prog_14_method_77_code_8 6 rfl rfl rfl)
theorem d_Mm_pour_263 : decode prog_14_method_77_code 263 = .ok (.aload_n 2, 1) := zo_44 (zd_b zq_prog_14_method_77_code_8 7 rfl rfl rfl)
theorem d_Mm_pour_264 : decode prog_14_method_77_code 264 = .ok (.iconst 2, 1) := zo_5 (zd_b zq_prog_14_method_77_code_8 8 rfl rfl rfl)
theorem d_Mm_pour_265 : decode prog_14_method_77_code 265 = .ok (.iaload, 1) := zo_46 (zd_b zq_prog_14_method_77_code_8 9 rfl rfl rfl)
theorem d_Mm_pour_266 : decode prog_14_method_77_code 266 = .ok (.bipush 80, 2) := zo_16 (d := 80) (zd_b zq_prog_14_method_77_code_8 10 rfl rfl rfl) (zd_b zq_prog_14_method_77_code_8 11 rfl rfl rfl) (by decide +kernel)
theorem d_Mm_pour_268 : decode prog_14_method_77_code 268 = .ok (.if_icmp .ge 11, 3) := zo_162 (d := 0) (e := 11) (zd_b zq_prog_14_method_77_code_8 12 rfl rfl rfl) (zd_b zq_prog_14_method_77_code_8 13 rfl rfl rfl) (zd_b zq_prog_14_method_77_code_8 14 rfl rfl rfl) (by decide +kernel)
theorem d_Mm_pour_279 : decode prog_14_method_77_code 279 = .ok (.aload_n 2, 1) := zo_44 (zd_b zq_prog_14_method_77_code_8 23 rfl rfl rfl)
theorem d_Mm_pour_280 : decode prog_14_method_77_code 280 = .ok (.iconst 4, 1) := zo_7 (zd_b zq_prog_14_method_77_code_8 24 rfl rfl rfl)
theorem d_Mm_pour_281 : decode prog_14_method_77_code 281 = .ok (.iaload, 1) := zo_46 (zd_b zq_prog_14_method_77_code_8 25 rfl rfl rfl)
theorem d_Mm_pour_282 : decode prog_14_method_77_code 282 = .ok (.bipush 60, 2) := zo_16 (d := 60) (zd_b zq_prog_14_method_77_code_8 26 rfl rfl rfl) (zd_b zq_prog_14_method_77_code_8 27 rfl rfl rfl) (by decide +kernel)
theorem d_Mm_pour_284 : decode prog_14_method_77_code 284 = .ok (.if_icmp .le 7, 3) := zo_164 (d := 0) (e := 7) (zd_b zq_prog_14_method_77_code_8 28 rfl rfl rfl) (zd_b zq_prog_14_method_77_code_8 29 rfl rfl rfl) (zd_b zq_prog_14_method_77_code_8 30 rfl rfl rfl) (by decide +kernel)
theorem d_Mm_pour_291 : decode prog_14_method_77_code 291 = .ok (.iconst 0, 1) := zo_3 (zd_b zq_prog_14_method_77_code_9 3 rfl rfl rfl)
theorem d_Mm_pour_287 : decode prog_14_method_77_code 287 = .ok (.iconst 1, 1) := zo_4 (zd_b zq_prog_14_method_77_code_8 31 rfl rfl rfl)
theorem d_Mm_pour_288 : decode prog_14_method_77_code 288 = .ok (.goto 4, 3) := zo_167 (d := 0) (e := 4) (zd_b zq_prog_14_method_77_code_9 0 rfl rfl rfl) (zd_b zq_prog_14_method_77_code_9 1 rfl rfl rfl) (zd_b zq_prog_14_method_77_code_9 2 rfl rfl rfl) (by decide +kernel)
theorem d_Mm_pour_271 : decode prog_14_method_77_code 271 = .ok (.aload_n 2, 1) := zo_44 (zd_b zq_prog_14_method_77_code_8 15 rfl rfl rfl)
theorem d_Mm_pour_272 : decode prog_14_method_77_code 272 = .ok (.iconst 3, 1) := zo_6 (zd_b zq_prog_14_method_77_code_8 16 rfl rfl rfl)
theorem d_Mm_pour_273 : decode prog_14_method_77_code 273 = .ok (.iaload, 1) := zo_46 (zd_b zq_prog_14_method_77_code_8 17 rfl rfl rfl)
theorem d_Mm_pour_274 : decode prog_14_method_77_code 274 = .ok (.bipush 40, 2) := zo_16 (d := 40) (zd_b zq_prog_14_method_77_code_8 18 rfl rfl rfl) (zd_b zq_prog_14_method_77_code_8 19 rfl rfl rfl) (by decide +kernel)
theorem d_Mm_pour_276 : decode prog_14_method_77_code 276 = .ok (.if_icmp .gt 11, 3) := zo_163 (d := 0) (e := 11) (zd_b zq_prog_14_method_77_code_8 20 rfl rfl rfl) (zd_b zq_prog_14_method_77_code_8 21 rfl rfl rfl) (zd_b zq_prog_14_method_77_code_8 22 rfl rfl rfl) (by decide +kernel)
