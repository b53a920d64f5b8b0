def zs (g : zG) (k : Nat) : Int32 := Int32.ofNat (g.2.2 (100 + k))
def zc (g : zG) (k : Nat) : Int32 := ((zs g k).toUInt32 % 65536).toInt32
theorem z_tot (x : Int32) : x < 0 ∨ 0 ≤ x := (Classical.em (x < 0)).imp id Int32.not_lt.mp
abbrev lwCS (g : zG) (a pa pa1 pa2 pa3 ta ta1 ta2 taz taz1 taz2 taz3 taz4 taz5 taz6 ta4 ta5 ta6 sa sa1 sa2 saz saz1 saz2 saz3 saz4 saz5 saz6 sa4 sa5 sa6 gs co co1 co2 co3 fu fub fubg fut1 fut2 fut3 la lab labg gy gyg du dug re wm ac m mp mf mh mn mt mz mc_ mq mgr ml mi mr mm mu mk mx o1 o2 : Nat) : zC := [(a, .inr (11, [.ref pa, .ref ta, .ref sa, .ref gs, .ref co, .ref fu, .ref la, .ref gy, .ref du, .ref re, .ref wm, .ref ac])), (pa, .inr (8, [.ref pa1, .ref pa2, .ref pa3, .int (nI 4)])), (pa1, .inl (1, 108, .inl zFP)), (pa2, .inl (2, 108, .inl (fun _ => 0))), (pa3, .inl (0, 108, .inl (fun k => nI ((fun _ => 0) k)))), (ta, .inr (10, [.ref ta1, .ref ta2, .ref taz, .ref ta4, .ref ta5, .ref ta6, .int zX0.1.2.2.1, .int zX0.1.2.2.2])), (ta1, .inl (1, 108, .inl zX0.1.1)), (ta2, .inl (0, 108, .inl zX0.1.2.1)), (taz, .inr (2, [.ref taz1, .ref taz2, .ref taz3, .ref taz4, .ref taz5, .ref taz6, .int zX0.2.1.1.1.2.2.2])), (taz1, .inl (0, 108, .inl zX0.2.1.1.1.1)), (taz2, .inl (0, 108, .inl zX0.2.1.1.2)), (taz3, .inl (0, 108, .inl zX0.2.1.1.1.2.1)), (taz4, .inl (0, 108, .inl zX0.2.1.1.1.2.2.1)), (taz5, .inl (0, 108, .inl zX0.2.1.2.1)), (taz6, .inl (0, 108, .inl zX0.2.1.2.2)), (ta4, .inl (2, 108, .inl zX0.2.2.1)), (ta5, .inl (2, 108, .inl zX0.2.2.2.1)), (ta6, .inl (0, 108, .inl (fun k => nI (zX0.2.2.2.2 k)))), (sa, .inr (10, [.ref sa1, .ref sa2, .ref saz, .ref sa4, .ref sa5, .ref sa6, .int zX0.1.2.2.1, .int zX0.1.2.2.2])), (sa1, .inl (1, 108, .inl zX0.1.1)), (sa2, .inl (0, 108, .inl zX0.1.2.1)), (saz, .inr (2, [.ref saz1, .ref saz2, .ref saz3, .ref saz4, .ref saz5, .ref saz6, .int zX0.2.1.1.1.2.2.2])), (saz1, .inl (0, 108, .inl zX0.2.1.1.1.1)), (saz2, .inl (0, 108, .inl zX0.2.1.1.2)), (saz3, .inl (0, 108, .inl zX0.2.1.1.1.2.1)), (saz4, .inl (0, 108, .inl zX0.2.1.1.1.2.2.1)), (saz5, .inl (0, 108, .inl zX0.2.1.2.1)), (saz6, .inl (0, 108, .inl zX0.2.1.2.2)), (sa4, .inl (2, 108, .inl zX0.2.2.1)), (sa5, .inl (2, 108, .inl zX0.2.2.2.1)), (sa6, .inl (0, 108, .inl (fun k => nI (zX0.2.2.2.2 k)))), (gs, .inr (4, [.int 80, .int 35, .int 30, .int 50, .int 0])), (co, .inr (1, [.ref co1, .ref co2, .ref co3, .int (nI 0)])), (co1, .inl (0, 20, .inl (fun _ => 0))), (co2, .inl (0, 20, .inl (fun _ => 0))), (co3, .inl (0, 20, .inl (fun _ => 0))), (fu, .inr (3, [.ref fub, .ref fut1, .ref fut2, .ref fut3, .long 0])), (fub, .inr (6, [.ref fubg, .int 0])), (fubg, .inl (3, 4, .inr (.inl (fun _ => 0)))), (fut1, .inl (3, 4, .inr (.inl (fun _ => 0)))), (fut2, .inl (3, 4, .inr (.inl (fun _ => 0)))), (fut3, .inl (3, 4, .inr (.inl (fun _ => 0)))), (la, .inr (5, [.ref lab, .int 0, .int 0, .int 0])), (lab, .inr (6, [.ref labg, .int 0])), (labg, .inl (3, 4, .inr (.inl (fun _ => 0)))), (gy, .inr (6, [.ref gyg, .int 0])), (gyg, .inl (3, 4, .inr (.inl (fun _ => 0)))), (du, .inr (6, [.ref dug, .int 0])), (dug, .inl (3, 4, .inr (.inl (fun _ => 0)))), (re, .inr (9, [.int 0, .int 0, .int 0])), (wm, .inr (13, [.int 0, .ref (g.2.2 4), .int 0])), (ac, .inr (13, [.int 0, .ref (g.2.2 4), .int 0])), (m, .inr (12, [.int 0, .ref mp, .int 4, .ref mf, .ref mh, .ref mn, .ref mt, .ref mz, .ref mc_, .ref mq, .ref mgr, .int 80, .int 35, .int 30, .int 50, .int 0, .int 0, .ref ml, .ref mi, .ref mr, .int 0, .int 0, .int 0, .int (-1), .int 0, .ref mm, .ref mu, .ref mk, .ref mx, .long 0, .long 0])), (mp, .inl (1, 108, .inl zFP)), (mf, .inl (0, 108, .inl (fun _ => 0))), (mh, .inl (0, 108, .inl (fun _ => 0))), (mn, .inl (0, 108, .inl (fun _ => 0))), (mt, .inl (0, 108, .inl (fun _ => 0))), (mz, .inl (0, 108, .inl (fun _ => 0))), (mc_, .inl (2, 108, .inl (fun _ => 0))), (mq, .inl (0, 108, .inl (fun _ => 0))), (mgr, .inl (0, 108, .inl (fun _ => 0))), (ml, .inr (13, [.int 0, .ref (g.2.2 4), .int 0])), (mi, .inl (0, 4, .inl (fun _ => 0))), (mr, .inl (3, 16, .inr (.inl (fun _ => 0)))), (mm, .inr (13, [.int 0, .ref (g.2.2 4), .int 0])), (mu, .inr (13, [.int 0, .ref (g.2.2 4), .int 0])), (mk, .inr (13, [.int 0, .ref (g.2.2 4), .int 0])), (mx, .inr (13, [.int 0, .ref (g.2.2 4), .int 0])), (o1, .inl (3, 1, .inr (.inl (fun _ => 0)))), (o2, .inl (4, 1, .inr (.inr (.inr (.inl (fun _ => 0))))))]
def lwP : zO → zC → Prop := fun o _ => o = .inl (some (.int 1))
abbrev M_Lw_law : zM := (⟨"IronpourLaw", "law", "([I)Z"⟩, code, 9, (Option.some FieldType.boolean), 11, 274, [])
theorem d_Lw_law_3019 : decode code 3019 = .ok (.iinc 5 7, 3) := by decide +kernel
theorem d_Lw_law_3022 : decode code 3022 = .ok (.goto (-2994), 3) := by decide +kernel
theorem d_Lw_law_28 : decode code 28 = .ok (.iload 5, 2) := by decide +kernel
theorem d_Lw_law_30 : decode code 30 = .ok (.aload_n 0, 1) := by decide +kernel
theorem d_Lw_law_31 : decode code 31 = .ok (.arraylength, 1) := by decide +kernel
theorem d_Lw_law_32 : decode code 32 = .ok (.bipush 7, 2) := by decide +kernel
theorem d_Lw_law_34 : decode code 34 = .ok (.isub, 1) := by decide +kernel
theorem d_Lw_law_35 : decode code 35 = .ok (.if_icmp .gt 2990, 3) := by decide +kernel
theorem d_Lw_law_3025 : decode code 3025 = .ok (.iconst 1, 1) := by decide +kernel
theorem d_Lw_law_3026 : decode code 3026 = .ok (.ireturn, 1) := by decide +kernel
set_option maxHeartbeats 4000000 in
set_option maxRecDepth 100000 in
theorem LW_tail (g : zG) (cs : zC) (hL : g.2.2 41 = 7) (kc ks : Nat) (w0 : zW) (n : Nat) : DV g M_Lw_law (lwP) w0 n 3019 [(5, .int 0), (0, .ref (g.2.2 40))] [] cs kc ks := by
  refine r_iinc (lv' := [(5, .int 7), (0, .ref (g.2.2 40))]) (v := 7) d_Lw_law_3019 (j := 0) rfl rfl (by decide) rfl ?_
  refine r_goto (tgt := 28) d_Lw_law_3022 (by decide) ?_
  refine r_iload d_Lw_law_28 0 rfl ?_
  refine r_aload_n d_Lw_law_30 rfl 1 rfl ?_
  refine r_slen (v := 7) d_Lw_law_31 (by rw [hL]; rfl) ?_
  refine r_bipush d_Lw_law_32 (v := 7) (by decide) ?_
  refine r_isub d_Lw_law_34 (v := 0) rfl ?_
  refine r_icmp_gt (tgt := 3025) d_Lw_law_35 (by decide) (fun c_35 => ?_) (fun c_35 => ?_)
  · refine r_iconst d_Lw_law_3025 (v := 1) (by decide) ?_
    refine r_iret d_Lw_law_3026 rfl rfl ?_
    exact rfl
  · exact absurd c_35 (by decide)
theorem d_Lw_law_260 : decode code 260 = .ok (.aload_n 1, 1) := by decide +kernel
theorem d_Lw_law_261 : decode code 261 = .ok (.aload_n 0, 1) := by decide +kernel
theorem d_Lw_law_262 : decode code 262 = .ok (.iload 5, 2) := by decide +kernel
theorem d_Lw_law_264 : decode code 264 = .ok (.iconst 1, 1) := by decide +kernel
theorem d_Lw_law_265 : decode code 265 = .ok (.iadd, 1) := by decide +kernel
theorem d_Lw_law_266 : decode code 266 = .ok (.iaload, 1) := by decide +kernel
theorem d_Lw_law_267 : decode code 267 = .ok (.i2c, 1) := by decide +kernel
theorem d_Lw_law_268 : decode code 268 = .ok (.aload_n 0, 1) := by decide +kernel
theorem d_Lw_law_269 : decode code 269 = .ok (.iload 5, 2) := by decide +kernel
theorem d_Lw_law_271 : decode code 271 = .ok (.iconst 2, 1) := by decide +kernel
theorem d_Lw_law_272 : decode code 272 = .ok (.iadd, 1) := by decide +kernel
theorem d_Lw_law_273 : decode code 273 = .ok (.iaload, 1) := by decide +kernel
theorem d_Lw_law_274 : decode code 274 = .ok (.aload_n 0, 1) := by decide +kernel
theorem d_Lw_law_275 : decode code 275 = .ok (.iload 5, 2) := by decide +kernel
theorem d_Lw_law_277 : decode code 277 = .ok (.iconst 3, 1) := by decide +kernel
theorem d_Lw_law_278 : decode code 278 = .ok (.iadd, 1) := by decide +kernel
theorem d_Lw_law_279 : decode code 279 = .ok (.iaload, 1) := by decide +kernel
theorem d_Lw_law_280 : decode code 280 = .ok (.aload_n 0, 1) := by decide +kernel
theorem d_Lw_law_281 : decode code 281 = .ok (.iload 5, 2) := by decide +kernel
theorem d_Lw_law_283 : decode code 283 = .ok (.iconst 4, 1) := by decide +kernel
theorem d_Lw_law_284 : decode code 284 = .ok (.iadd, 1) := by decide +kernel
theorem d_Lw_law_285 : decode code 285 = .ok (.iaload, 1) := by decide +kernel
theorem d_Lw_law_286 : decode code 286 = .ok (.aload_n 0, 1) := by decide +kernel
theorem d_Lw_law_287 : decode code 287 = .ok (.iload 5, 2) := by decide +kernel
theorem d_Lw_law_289 : decode code 289 = .ok (.iconst 5, 1) := by decide +kernel
theorem d_Lw_law_290 : decode code 290 = .ok (.iadd, 1) := by decide +kernel
theorem d_Lw_law_291 : decode code 291 = .ok (.iaload, 1) := by decide +kernel
theorem d_Lw_law_292 : decode code 292 = .ok (.aload_n 3, 1) := by decide +kernel
theorem d_Lw_law_293 : decode code 293 = .ok (.invokestatic 169, 3) := by decide +kernel
theorem ok_Lw_law_Lw_draw : z_okX M_Lw_law M_Lw_draw 7 := ⟨z_mem (i := 585) (by decide +kernel) (by decide +kernel), by decide, ⟨by decide +kernel, by decide +kernel, by decide +kernel⟩, ⟨by decide, by decide⟩, z_mem (i := 57) (by decide +kernel) (by decide +kernel), rfl⟩
theorem ln_Lw_169 : Cond.methodLink "IronpourLaw" 169 M_Lw_draw.1 ∈ z_gw := z_mem (i := 583) (by decide +kernel) (by decide +kernel)
theorem w_st_Lw_draw : Cond.static M_Lw_draw.1 ∈ z_gw := z_mem (i := 584) (by decide +kernel) (by decide +kernel)
theorem d_Lw_law_296 : decode code 296 = .ok (.istore 6, 2) := by decide +kernel
theorem d_Lw_law_298 : decode code 298 = .ok (.aload_n 2, 1) := by decide +kernel
theorem d_Lw_law_299 : decode code 299 = .ok (.aload_n 0, 1) := by decide +kernel
theorem d_Lw_law_300 : decode code 300 = .ok (.iload 5, 2) := by decide +kernel
theorem d_Lw_law_302 : decode code 302 = .ok (.iconst 1, 1) := by decide +kernel
theorem d_Lw_law_303 : decode code 303 = .ok (.iadd, 1) := by decide +kernel
theorem d_Lw_law_304 : decode code 304 = .ok (.iaload, 1) := by decide +kernel
theorem d_Lw_law_305 : decode code 305 = .ok (.i2c, 1) := by decide +kernel
theorem d_Lw_law_306 : decode code 306 = .ok (.aload_n 0, 1) := by decide +kernel
theorem d_Lw_law_307 : decode code 307 = .ok (.iload 5, 2) := by decide +kernel
theorem d_Lw_law_309 : decode code 309 = .ok (.iconst 2, 1) := by decide +kernel
theorem d_Lw_law_310 : decode code 310 = .ok (.iadd, 1) := by decide +kernel
theorem d_Lw_law_311 : decode code 311 = .ok (.iaload, 1) := by decide +kernel
theorem d_Lw_law_312 : decode code 312 = .ok (.aload_n 0, 1) := by decide +kernel
theorem d_Lw_law_313 : decode code 313 = .ok (.iload 5, 2) := by decide +kernel
theorem d_Lw_law_315 : decode code 315 = .ok (.iconst 3, 1) := by decide +kernel
theorem d_Lw_law_316 : decode code 316 = .ok (.iadd, 1) := by decide +kernel
theorem d_Lw_law_317 : decode code 317 = .ok (.iaload, 1) := by decide +kernel
theorem d_Lw_law_318 : decode code 318 = .ok (.aload_n 0, 1) := by decide +kernel
theorem d_Lw_law_319 : decode code 319 = .ok (.iload 5, 2) := by decide +kernel
theorem d_Lw_law_321 : decode code 321 = .ok (.iconst 4, 1) := by decide +kernel
theorem d_Lw_law_322 : decode code 322 = .ok (.iadd, 1) := by decide +kernel
theorem d_Lw_law_323 : decode code 323 = .ok (.iaload, 1) := by decide +kernel
theorem d_Lw_law_324 : decode code 324 = .ok (.aload_n 0, 1) := by decide +kernel
theorem d_Lw_law_325 : decode code 325 = .ok (.iload 5, 2) := by decide +kernel
theorem d_Lw_law_327 : decode code 327 = .ok (.iconst 5, 1) := by decide +kernel
theorem d_Lw_law_328 : decode code 328 = .ok (.iadd, 1) := by decide +kernel
theorem d_Lw_law_329 : decode code 329 = .ok (.iaload, 1) := by decide +kernel
theorem d_Lw_law_330 : decode code 330 = .ok (.invokevirtual 174, 3) := by decide +kernel
theorem ok_Lw_law_Mm_draw : z_ok M_Lw_law M_Mm_draw 5 := ⟨z_mem (i := 1681) (by decide +kernel) (by decide +kernel), rfl, ⟨by decide +kernel, by decide +kernel, by decide +kernel⟩, ⟨by decide, by decide⟩, z_mem (i := 71) (by decide +kernel) (by decide +kernel), rfl⟩
theorem ln_Lw_174 : Cond.methodLink "IronpourLaw" 174 M_Mm_draw.1 ∈ z_gw := z_mem (i := 1678) (by decide +kernel) (by decide +kernel)
theorem w_im_Mm_draw : Cond.instanceMethod M_Mm_draw.1 ∈ z_gw := z_mem (i := 1679) (by decide +kernel) (by decide +kernel)
theorem w_se_Mm_draw : Cond.selects M_Mm_draw.1.cls M_Mm_draw.1 M_Mm_draw.1 ∈ z_gw := z_mem (i := 1680) (by decide +kernel) (by decide +kernel)
theorem d_Lw_law_333 : decode code 333 = .ok (.istore 7, 2) := by decide +kernel
theorem d_Lw_law_335 : decode code 335 = .ok (.aload_n 2, 1) := by decide +kernel
theorem d_Lw_law_336 : decode code 336 = .ok (.invokevirtual 175, 3) := by decide +kernel
theorem ok_Lw_law_Mm_thrown : z_ok M_Lw_law M_Mm_thrown 0 := ⟨z_mem (i := 1677) (by decide +kernel) (by decide +kernel), rfl, ⟨by decide +kernel, by decide +kernel, by decide +kernel⟩, ⟨by decide, by decide⟩, z_mem (i := 71) (by decide +kernel) (by decide +kernel), rfl⟩
theorem ln_Lw_175 : Cond.methodLink "IronpourLaw" 175 M_Mm_thrown.1 ∈ z_gw := z_mem (i := 1674) (by decide +kernel) (by decide +kernel)
theorem w_im_Mm_thrown : Cond.instanceMethod M_Mm_thrown.1 ∈ z_gw := z_mem (i := 1675) (by decide +kernel) (by decide +kernel)
theorem w_se_Mm_thrown : Cond.selects M_Mm_thrown.1.cls M_Mm_thrown.1 M_Mm_thrown.1 ∈ z_gw := z_mem (i := 1676) (by decide +kernel) (by decide +kernel)
theorem d_Lw_law_339 : decode code 339 = .ok (.iload 6, 2) := by decide +kernel
theorem d_Lw_law_341 : decode code 341 = .ok (.if_icmp .eq 5, 3) := by decide +kernel
theorem d_Lw_law_346 : decode code 346 = .ok (.iload 6, 2) := by decide +kernel
theorem d_Lw_law_348 : decode code 348 = .ok (.ifCond .ne 15, 3) := by decide +kernel
theorem d_Lw_law_363 : decode code 363 = .ok (.goto 2656, 3) := by decide +kernel
set_option maxHeartbeats 4000000 in
set_option maxRecDepth 100000 in
theorem LW_drawE (g : zG) (a pa pa1 pa2 pa3 ta ta1 ta2 taz taz1 taz2 taz3 taz4 taz5 taz6 ta4 ta5 ta6 sa sa1 sa2 saz saz1 saz2 saz3 saz4 saz5 saz6 sa4 sa5 sa6 gs co co1 co2 co3 fu fub fubg fut1 fut2 fut3 la lab labg gy gyg du dug re wm ac m mp mf mh mn mt mz mc_ mq mgr ml mi mr mm mu mk mx o1 o2 : Nat) (hL : g.2.2 41 = 7) (hd : ¬ (0 ≤ z_ix 0 (zc g 1) ∧ (0 ≤ (zs g 2) ∧ (zs g 2) < 12 ∧ 0 ≤ (zs g 3) ∧ (zs g 3) < 9) ∧ 1 ≤ (zs g 4) ∧ (zs g 4) ≤ 12 - (zs g 2) ∧ 1 ≤ (zs g 5) ∧ (zs g 5) ≤ 9 - (zs g 3))) (w0 : zW) (n : Nat) : DV g M_Lw_law (lwP) w0 n 260 [(5, .int 0), (4, .ref o2), (3, .ref o1), (2, .ref m), (1, .ref a), (0, .ref (g.2.2 40))] [] (lwCS g a pa pa1 pa2 pa3 ta ta1 ta2 taz taz1 taz2 taz3 taz4 taz5 taz6 ta4 ta5 ta6 sa sa1 sa2 saz saz1 saz2 saz3 saz4 saz5 saz6 sa4 sa5 sa6 gs co co1 co2 co3 fu fub fubg fut1 fut2 fut3 la lab labg gy gyg du dug re wm ac m mp mf mh mn mt mz mc_ mq mgr ml mi mr mm mu mk mx o1 o2) 100 1000 := by
  refine r_aload_n d_Lw_law_260 rfl 4 rfl ?_
  refine r_aload_n d_Lw_law_261 rfl 5 rfl ?_
  refine r_iload d_Lw_law_262 0 rfl ?_
  refine r_iconst d_Lw_law_264 (v := 1) (by decide) ?_
  refine r_iadd d_Lw_law_265 (v := 1) rfl ?_
  refine r_sld (v := zs g 1) d_Lw_law_266 (by rw [hL]; exact fun q => q.elim (by decide) (by decide)) rfl ?_
  refine r_i2c d_Lw_law_267 (v := zc g 1) rfl ?_
  refine r_aload_n d_Lw_law_268 rfl 5 rfl ?_
  refine r_iload d_Lw_law_269 0 rfl ?_
  refine r_iconst d_Lw_law_271 (v := 2) (by decide) ?_
  refine r_iadd d_Lw_law_272 (v := 2) rfl ?_
  refine r_sld (v := zs g 2) d_Lw_law_273 (by rw [hL]; exact fun q => q.elim (by decide) (by decide)) rfl ?_
  refine r_aload_n d_Lw_law_274 rfl 5 rfl ?_
  refine r_iload d_Lw_law_275 0 rfl ?_
  refine r_iconst d_Lw_law_277 (v := 3) (by decide) ?_
  refine r_iadd d_Lw_law_278 (v := 3) rfl ?_
  refine r_sld (v := zs g 3) d_Lw_law_279 (by rw [hL]; exact fun q => q.elim (by decide) (by decide)) rfl ?_
  refine r_aload_n d_Lw_law_280 rfl 5 rfl ?_
  refine r_iload d_Lw_law_281 0 rfl ?_
  refine r_iconst d_Lw_law_283 (v := 4) (by decide) ?_
  refine r_iadd d_Lw_law_284 (v := 4) rfl ?_
  refine r_sld (v := zs g 4) d_Lw_law_285 (by rw [hL]; exact fun q => q.elim (by decide) (by decide)) rfl ?_
  refine r_aload_n d_Lw_law_286 rfl 5 rfl ?_
  refine r_iload d_Lw_law_287 0 rfl ?_
  refine r_iconst d_Lw_law_289 (v := 5) (by decide) ?_
  refine r_iadd d_Lw_law_290 (v := 5) rfl ?_
  refine r_sld (v := zs g 5) d_Lw_law_291 (by rw [hL]; exact fun q => q.elim (by decide) (by decide)) rfl ?_
  refine r_aload_n d_Lw_law_292 rfl 2 rfl ?_
  refine r_callSX (As := [.ref a, .int (zc g 1), .int (zs g 2), .int (zs g 3), .int (zs g 4), .int (zs g 5), .ref o1]) (rest := []) (csC := [(a, .inr (11, [.ref pa, .ref ta, .ref sa, .ref gs, .ref co, .ref fu, .ref la, .ref gy, .ref du, .ref re, .ref wm, .ref ac])), (pa, .inr (8, [.ref pa1, .ref pa2, .ref pa3, .int (nI 4)])), (pa1, .inl (1, 108, .inl zFP)), (pa2, .inl (2, 108, .inl (fun _ => 0))), (pa3, .inl (0, 108, .inl (fun k => nI ((fun _ => 0) k)))), (o1, .inl (3, 1, .inr (.inl (fun _ => 0))))]) (is := [0, 1, 2, 3, 4, 69]) ln_Lw_169 w_st_Lw_draw ok_Lw_law_Lw_draw d_Lw_law_293 (C_Lw_drawE g a pa ta sa gs co fu la gy du re wm ac pa1 pa2 pa3 zFP (fun _ => 0) (fun _ => 0) 4 (zc g 1) (zs g 2) (zs g 3) (zs g 4) (zs g 5) hd o1 (fun _ => 0)) rfl rfl (Nat.le_of_ble_eq_true rfl) rfl (by decide) (by omega) (by omega) (fun E cs1 hx => ?_) (fun v cs1 hx => ?_)
  · exact absurd hx.1 (by simp)
  · obtain ⟨e1, rfl⟩ := hx
    cases e1
    refine ⟨rfl, ?_⟩
    refine r_st (st2 := [.int 1]) rfl ?_
    refine r_istore (lv' := [(6, .int 1), (5, .int 0), (4, .ref o2), (3, .ref o1), (2, .ref m), (1, .ref a), (0, .ref (g.2.2 40))]) d_Lw_law_296 (by decide) rfl ?_
    refine r_aload_n d_Lw_law_298 rfl 4 rfl ?_
    refine r_aload_n d_Lw_law_299 rfl 6 rfl ?_
    refine r_iload d_Lw_law_300 1 rfl ?_
    refine r_iconst d_Lw_law_302 (v := 1) (by decide) ?_
    refine r_iadd d_Lw_law_303 (v := 1) rfl ?_
    refine r_sld (v := zs g 1) d_Lw_law_304 (by rw [hL]; exact fun q => q.elim (by decide) (by decide)) rfl ?_
    refine r_i2c d_Lw_law_305 (v := zc g 1) rfl ?_
    refine r_aload_n d_Lw_law_306 rfl 6 rfl ?_
    refine r_iload d_Lw_law_307 1 rfl ?_
    refine r_iconst d_Lw_law_309 (v := 2) (by decide) ?_
    refine r_iadd d_Lw_law_310 (v := 2) rfl ?_
    refine r_sld (v := zs g 2) d_Lw_law_311 (by rw [hL]; exact fun q => q.elim (by decide) (by decide)) rfl ?_
    refine r_aload_n d_Lw_law_312 rfl 6 rfl ?_
    refine r_iload d_Lw_law_313 1 rfl ?_
    refine r_iconst d_Lw_law_315 (v := 3) (by decide) ?_
    refine r_iadd d_Lw_law_316 (v := 3) rfl ?_
    refine r_sld (v := zs g 3) d_Lw_law_317 (by rw [hL]; exact fun q => q.elim (by decide) (by decide)) rfl ?_
    refine r_aload_n d_Lw_law_318 rfl 6 rfl ?_
    refine r_iload d_Lw_law_319 1 rfl ?_
    refine r_iconst d_Lw_law_321 (v := 4) (by decide) ?_
    refine r_iadd d_Lw_law_322 (v := 4) rfl ?_
    refine r_sld (v := zs g 4) d_Lw_law_323 (by rw [hL]; exact fun q => q.elim (by decide) (by decide)) rfl ?_
    refine r_aload_n d_Lw_law_324 rfl 6 rfl ?_
    refine r_iload d_Lw_law_325 1 rfl ?_
    refine r_iconst d_Lw_law_327 (v := 5) (by decide) ?_
    refine r_iadd d_Lw_law_328 (v := 5) rfl ?_
    refine r_sld (v := zs g 5) d_Lw_law_329 (by rw [hL]; exact fun q => q.elim (by decide) (by decide)) rfl ?_
    refine r_callV (As := [.int (zc g 1), .int (zs g 2), .int (zs g 3), .int (zs g 4), .int (zs g 5)]) (rest := []) (csC := [(m, .inr (12, [.int 0, .ref mp, .int 4, .ref mf, .ref mh, .ref mn, .ref mt, .ref mz, .ref mc_, .ref mq, .ref mgr, .int 80, .int 35, .int 30, .int 50, .int 0, .int 0, .ref ml, .ref mi, .ref mr, .int 0, .int 0, .int 0, .int (-1), .int 0, .ref mm, .ref mu, .ref mk, .ref mx, .long 0, .long 0])), (mp, .inl (1, 108, .inl zFP))]) (is := [52, 53]) (q0 := 52) rfl rfl ln_Lw_174 w_im_Mm_draw w_se_Mm_draw ok_Lw_law_Mm_draw d_Lw_law_330 (C_Mm_drawE g m mp mf mh mn mt mz mc_ mq mgr ml mi mr mm mu mk mx 0 4 80 35 30 50 0 0 0 0 0 (-1) 0 0 0 zFP (zc g 1) (zs g 2) (zs g 3) (zs g 4) (zs g 5) hd) rfl rfl (Nat.le_of_ble_eq_true rfl) rfl (by decide) (by omega) (by omega) (fun E cs1 hx => ?_) (fun v cs1 hx => ?_)
    · exact absurd hx.1 (by simp)
    · obtain ⟨e1, rfl⟩ := hx
      cases e1
      refine ⟨rfl, ?_⟩
      refine r_st (st2 := [.int 0]) rfl ?_
      refine r_istore (lv' := [(7, .int 0), (6, .int 1), (5, .int 0), (4, .ref o2), (3, .ref o1), (2, .ref m), (1, .ref a), (0, .ref (g.2.2 40))]) d_Lw_law_333 (by decide) rfl ?_
      refine r_aload_n d_Lw_law_335 rfl 5 rfl ?_
      refine r_callV (As := []) (rest := []) (csC := [(m, .inr (12, [.int 1, .ref mp, .int 4, .ref mf, .ref mh, .ref mn, .ref mt, .ref mz, .ref mc_, .ref mq, .ref mgr, .int 80, .int 35, .int 30, .int 50, .int 0, .int 0, .ref ml, .ref mi, .ref mr, .int 0, .int 0, .int 0, .int (-1), .int 0, .ref mm, .ref mu, .ref mk, .ref mx, .long 0, .long 0]))]) (is := [52]) (q0 := 52) rfl rfl ln_Lw_175 w_im_Mm_thrown w_se_Mm_thrown ok_Lw_law_Mm_thrown d_Lw_law_336 (C_Mm_thrown g m mp mf mh mn mt mz mc_ mq mgr ml mi mr mm mu mk mx 1 4 80 35 30 50 0 0 0 0 0 (-1) 0 0 0) rfl rfl (Nat.le_of_ble_eq_true rfl) rfl (by decide) (by omega) (by omega) (fun E cs1 hx => ?_) (fun v cs1 hx => ?_)
      · exact absurd hx.1 (by simp)
      · obtain ⟨e1, rfl⟩ := hx
        cases e1
        refine ⟨rfl, ?_⟩
        refine r_st (st2 := [.int 1]) rfl ?_
        refine r_iload d_Lw_law_339 1 rfl ?_
        refine r_icmp_eq (tgt := 346) d_Lw_law_341 (by decide) (fun c_341 => ?_) (fun c_341 => ?_)
        · refine r_iload d_Lw_law_346 1 rfl ?_
          refine r_if_ne (tgt := 363) d_Lw_law_348 (by decide) (fun c_348 => ?_) (fun c_348 => ?_)
          · refine r_goto (tgt := 3019) d_Lw_law_363 (by decide) ?_
            refine r_lv (lv' := [(5, .int 0), (0, .ref (g.2.2 40))]) [2, 7] rfl ?_
            exact LW_tail g _ hL _ _ w0 n
          · exact absurd c_348 (by decide)
        · exact absurd c_341 (by decide)
theorem d_Lw_law_351 : decode code 351 = .ok (.aload_n 3, 1) := by decide +kernel
theorem d_Lw_law_352 : decode code 352 = .ok (.iconst 0, 1) := by decide +kernel
theorem d_Lw_law_353 : decode code 353 = .ok (.laload, 1) := by decide +kernel
theorem d_Lw_law_354 : decode code 354 = .ok (.iload 7, 2) := by decide +kernel
theorem d_Lw_law_356 : decode code 356 = .ok (.i2l, 1) := by decide +kernel
theorem d_Lw_law_357 : decode code 357 = .ok (.lcmp, 1) := by decide +kernel
theorem d_Lw_law_358 : decode code 358 = .ok (.ifCond .eq 5, 3) := by decide +kernel
set_option maxHeartbeats 4000000 in
set_option maxRecDepth 100000 in
theorem LW_drawZ (g : zG) (a pa pa1 pa2 pa3 ta ta1 ta2 taz taz1 taz2 taz3 taz4 taz5 taz6 ta4 ta5 ta6 sa sa1 sa2 saz saz1 saz2 saz3 saz4 saz5 saz6 sa4 sa5 sa6 gs co co1 co2 co3 fu fub fubg fut1 fut2 fut3 la lab labg gy gyg du dug re wm ac m mp mf mh mn mt mz mc_ mq mgr ml mi mr mm mu mk mx o1 o2 : Nat) (hL : g.2.2 41 = 7) (kd : Int32) (e1 : zc g 1 = kd) (hk : z_kind kd) (hki : 0 ≤ z_ix 0 kd) (x y u v : Nat) (e2 : zs g 2 = nI x) (e3 : zs g 3 = nI y) (e4 : zs g 4 = nI u) (e5 : zs g 5 = nI v) (hx : x + u ≤ 12) (hy : y + v ≤ 9) (hu : 1 ≤ u) (hv : 1 ≤ v) (hz : (prect kd x y u (zFP, 0) v).2 = 0) (w0 : zW) (n : Nat) : DV g M_Lw_law (lwP) w0 n 260 [(5, .int 0), (4, .ref o2), (3, .ref o1), (2, .ref m), (1, .ref a), (0, .ref (g.2.2 40))] [] (lwCS g a pa pa1 pa2 pa3 ta ta1 ta2 taz taz1 taz2 taz3 taz4 taz5 taz6 ta4 ta5 ta6 sa sa1 sa2 saz saz1 saz2 saz3 saz4 saz5 saz6 sa4 sa5 sa6 gs co co1 co2 co3 fu fub fubg fut1 fut2 fut3 la lab labg gy gyg du dug re wm ac m mp mf mh mn mt mz mc_ mq mgr ml mi mr mm mu mk mx o1 o2) 100 1000 := by
  refine r_aload_n d_Lw_law_260 rfl 4 rfl ?_
  refine r_aload_n d_Lw_law_261 rfl 5 rfl ?_
  refine r_iload d_Lw_law_262 0 rfl ?_
  refine r_iconst d_Lw_law_264 (v := 1) (by decide) ?_
  refine r_iadd d_Lw_law_265 (v := 1) rfl ?_
  refine r_sld (v := zs g 1) d_Lw_law_266 (by rw [hL]; exact fun q => q.elim (by decide) (by decide)) rfl ?_
  refine r_i2c d_Lw_law_267 (v := kd) e1 ?_
  refine r_aload_n d_Lw_law_268 rfl 5 rfl ?_
  refine r_iload d_Lw_law_269 0 rfl ?_
  refine r_iconst d_Lw_law_271 (v := 2) (by decide) ?_
  refine r_iadd d_Lw_law_272 (v := 2) rfl ?_
  refine r_sld (v := nI x) d_Lw_law_273 (by rw [hL]; exact fun q => q.elim (by decide) (by decide)) e2 ?_
  refine r_aload_n d_Lw_law_274 rfl 5 rfl ?_
  refine r_iload d_Lw_law_275 0 rfl ?_
  refine r_iconst d_Lw_law_277 (v := 3) (by decide) ?_
  refine r_iadd d_Lw_law_278 (v := 3) rfl ?_
  refine r_sld (v := nI y) d_Lw_law_279 (by rw [hL]; exact fun q => q.elim (by decide) (by decide)) e3 ?_
  refine r_aload_n d_Lw_law_280 rfl 5 rfl ?_
  refine r_iload d_Lw_law_281 0 rfl ?_
  refine r_iconst d_Lw_law_283 (v := 4) (by decide) ?_
  refine r_iadd d_Lw_law_284 (v := 4) rfl ?_
  refine r_sld (v := nI u) d_Lw_law_285 (by rw [hL]; exact fun q => q.elim (by decide) (by decide)) e4 ?_
  refine r_aload_n d_Lw_law_286 rfl 5 rfl ?_
  refine r_iload d_Lw_law_287 0 rfl ?_
  refine r_iconst d_Lw_law_289 (v := 5) (by decide) ?_
  refine r_iadd d_Lw_law_290 (v := 5) rfl ?_
  refine r_sld (v := nI v) d_Lw_law_291 (by rw [hL]; exact fun q => q.elim (by decide) (by decide)) e5 ?_
  refine r_aload_n d_Lw_law_292 rfl 2 rfl ?_
  refine r_callSX (As := [.ref a, .int kd, .int (nI x), .int (nI y), .int (nI u), .int (nI v), .ref o1]) (rest := []) (csC := [(a, .inr (11, [.ref pa, .ref ta, .ref sa, .ref gs, .ref co, .ref fu, .ref la, .ref gy, .ref du, .ref re, .ref wm, .ref ac])), (pa, .inr (8, [.ref pa1, .ref pa2, .ref pa3, .int (nI 4)])), (pa1, .inl (1, 108, .inl zFP)), (pa2, .inl (2, 108, .inl (fun _ => 0))), (pa3, .inl (0, 108, .inl (fun k => nI ((fun _ => 0) k)))), (ta, .inr (10, [.ref ta1, .ref ta2, .ref taz, .ref ta4, .ref ta5, .ref ta6, .int zX0.1.2.2.1, .int zX0.1.2.2.2])), (ta1, .inl (1, 108, .inl zX0.1.1)), (ta2, .inl (0, 108, .inl zX0.1.2.1)), (taz, .inr (2, [.ref taz1, .ref taz2, .ref taz3, .ref taz4, .ref taz5, .ref taz6, .int zX0.2.1.1.1.2.2.2])), (taz1, .inl (0, 108, .inl zX0.2.1.1.1.1)), (taz2, .inl (0, 108, .inl zX0.2.1.1.2)), (taz3, .inl (0, 108, .inl zX0.2.1.1.1.2.1)), (taz4, .inl (0, 108, .inl zX0.2.1.1.1.2.2.1)), (taz5, .inl (0, 108, .inl zX0.2.1.2.1)), (taz6, .inl (0, 108, .inl zX0.2.1.2.2)), (ta4, .inl (2, 108, .inl zX0.2.2.1)), (ta5, .inl (2, 108, .inl zX0.2.2.2.1)), (ta6, .inl (0, 108, .inl (fun k => nI (zX0.2.2.2.2 k)))), (o1, .inl (3, 1, .inr (.inl (fun _ => 0))))]) (is := [0, 1, 2, 3, 4, 5, 6, 7, 8, 9, 10, 11, 12, 13, 14, 15, 16, 17, 69]) ln_Lw_169 w_st_Lw_draw ok_Lw_law_Lw_draw d_Lw_law_293 (C_Lw_drawZ g a pa ta sa gs co fu la gy du re wm ac pa1 pa2 pa3 zFP (fun _ => 0) (fun _ => 0) 4 ta1 ta2 taz taz1 taz2 taz3 taz4 taz5 taz6 ta4 ta5 ta6 zX0 kd hk hki x y u v hx hy hu hv hz o1 (fun _ => 0)) rfl rfl (Nat.le_of_ble_eq_true rfl) rfl (by decide) (by omega) (by omega) (fun E cs1 hx => ?_) (fun v cs1 hx => ?_)
  · exact absurd hx.1 (by simp)
  · obtain ⟨e1, rfl⟩ := hx
    cases e1
    refine ⟨rfl, ?_⟩
    refine r_st (st2 := [.int 0]) rfl ?_
    refine r_istore (lv' := [(6, .int 0), (5, .int 0), (4, .ref o2), (3, .ref o1), (2, .ref m), (1, .ref a), (0, .ref (g.2.2 40))]) d_Lw_law_296 (by decide) rfl ?_
    refine r_aload_n d_Lw_law_298 rfl 4 rfl ?_
    refine r_aload_n d_Lw_law_299 rfl 6 rfl ?_
    refine r_iload d_Lw_law_300 1 rfl ?_
    refine r_iconst d_Lw_law_302 (v := 1) (by decide) ?_
    refine r_iadd d_Lw_law_303 (v := 1) rfl ?_
    refine r_sld (v := zs g 1) d_Lw_law_304 (by rw [hL]; exact fun q => q.elim (by decide) (by decide)) rfl ?_
    refine r_i2c d_Lw_law_305 (v := kd) e1 ?_
    refine r_aload_n d_Lw_law_306 rfl 6 rfl ?_
    refine r_iload d_Lw_law_307 1 rfl ?_
    refine r_iconst d_Lw_law_309 (v := 2) (by decide) ?_
    refine r_iadd d_Lw_law_310 (v := 2) rfl ?_
    refine r_sld (v := nI x) d_Lw_law_311 (by rw [hL]; exact fun q => q.elim (by decide) (by decide)) e2 ?_
    refine r_aload_n d_Lw_law_312 rfl 6 rfl ?_
    refine r_iload d_Lw_law_313 1 rfl ?_
    refine r_iconst d_Lw_law_315 (v := 3) (by decide) ?_
    refine r_iadd d_Lw_law_316 (v := 3) rfl ?_
    refine r_sld (v := nI y) d_Lw_law_317 (by rw [hL]; exact fun q => q.elim (by decide) (by decide)) e3 ?_
    refine r_aload_n d_Lw_law_318 rfl 6 rfl ?_
    refine r_iload d_Lw_law_319 1 rfl ?_
    refine r_iconst d_Lw_law_321 (v := 4) (by decide) ?_
    refine r_iadd d_Lw_law_322 (v := 4) rfl ?_
    refine r_sld (v := nI u) d_Lw_law_323 (by rw [hL]; exact fun q => q.elim (by decide) (by decide)) e4 ?_
    refine r_aload_n d_Lw_law_324 rfl 6 rfl ?_
    refine r_iload d_Lw_law_325 1 rfl ?_
    refine r_iconst d_Lw_law_327 (v := 5) (by decide) ?_
    refine r_iadd d_Lw_law_328 (v := 5) rfl ?_
    refine r_sld (v := nI v) d_Lw_law_329 (by rw [hL]; exact fun q => q.elim (by decide) (by decide)) e5 ?_
    refine r_callV (As := [.int kd, .int (nI x), .int (nI y), .int (nI u), .int (nI v)]) (rest := []) (csC := [(m, .inr (12, [.int 0, .ref mp, .int 4, .ref mf, .ref mh, .ref mn, .ref mt, .ref mz, .ref mc_, .ref mq, .ref mgr, .int 80, .int 35, .int 30, .int 50, .int 0, .int 0, .ref ml, .ref mi, .ref mr, .int 0, .int 0, .int 0, .int (-1), .int 0, .ref mm, .ref mu, .ref mk, .ref mx, .long 0, .long 0])), (mp, .inl (1, 108, .inl zFP))]) (is := [52, 53]) (q0 := 52) rfl rfl ln_Lw_174 w_im_Mm_draw w_se_Mm_draw ok_Lw_law_Mm_draw d_Lw_law_330 (C_Mm_drawN g m mp mf mh mn mt mz mc_ mq mgr ml mi mr mm mu mk mx 0 4 80 35 30 50 0 0 0 0 0 (-1) 0 0 0 zFP kd hk hki x y u v hx hy hu hv) rfl rfl (Nat.le_of_ble_eq_true rfl) rfl (by decide) (by omega) (by omega) (fun E cs1 hx => ?_) (fun v cs1 hx => ?_)
    · exact absurd hx.1 (by simp)
    · obtain ⟨e1, rfl⟩ := hx
      cases e1
      refine ⟨rfl, ?_⟩
      refine r_st (st2 := [.int (nI (prect kd x y u (zFP, 0) v).2)]) rfl ?_
      refine r_istore (lv' := [(7, .int (nI (prect kd x y u (zFP, 0) v).2)), (6, .int 0), (5, .int 0), (4, .ref o2), (3, .ref o1), (2, .ref m), (1, .ref a), (0, .ref (g.2.2 40))]) d_Lw_law_333 (by decide) rfl ?_
      refine r_aload_n d_Lw_law_335 rfl 5 rfl ?_
      refine r_callV (As := []) (rest := []) (csC := [(m, .inr (12, [.int 0, .ref mp, .int 4, .ref mf, .ref mh, .ref mn, .ref mt, .ref mz, .ref mc_, .ref mq, .ref mgr, .int 80, .int 35, .int 30, .int 50, .int 0, .int 0, .ref ml, .ref mi, .ref mr, .int 0, .int 0, .int 0, .int (-1), .int 0, .ref mm, .ref mu, .ref mk, .ref mx, .long 0, .long 0]))]) (is := [52]) (q0 := 52) rfl rfl ln_Lw_175 w_im_Mm_thrown w_se_Mm_thrown ok_Lw_law_Mm_thrown d_Lw_law_336 (C_Mm_thrown g m mp mf mh mn mt mz mc_ mq mgr ml mi mr mm mu mk mx 0 4 80 35 30 50 0 0 0 0 0 (-1) 0 0 0) rfl rfl (Nat.le_of_ble_eq_true rfl) rfl (by decide) (by omega) (by omega) (fun E cs1 hx => ?_) (fun v cs1 hx => ?_)
      · exact absurd hx.1 (by simp)
      · obtain ⟨e1, rfl⟩ := hx
        cases e1
        refine ⟨rfl, ?_⟩
        refine r_st (st2 := [.int 0]) rfl ?_
        refine r_iload d_Lw_law_339 1 rfl ?_
        refine r_icmp_eq (tgt := 346) d_Lw_law_341 (by decide) (fun c_341 => ?_) (fun c_341 => ?_)
        · refine r_iload d_Lw_law_346 1 rfl ?_
          refine r_if_ne (tgt := 363) d_Lw_law_348 (by decide) (fun c_348 => ?_) (fun c_348 => ?_)
          · exact absurd c_348 (by decide)
          · refine r_aload_n d_Lw_law_351 rfl 4 rfl ?_
            refine r_iconst d_Lw_law_352 (v := 0) (by decide) ?_
            refine r_lald d_Lw_law_353 (q0 := 69) rfl (fun q => q.elim (by decide) (by decide)) (v := (vp_updL (fun _ => 0) 0 ((nI (prect kd x y u (zFP, 0) v).2)).toInt64) 0) rfl ?_
            refine r_iload d_Lw_law_354 0 rfl ?_
            refine r_i2l d_Lw_law_356 (v := (nI (prect kd x y u (zFP, 0) v).2).toInt64) rfl ?_
            refine r_lcmp d_Lw_law_357 (v := 0) (zl_cmp (rfl)) ?_
            refine r_if_eq (tgt := 363) d_Lw_law_358 (by decide) (fun c_358 => ?_) (fun c_358 => ?_)
            · refine r_goto (tgt := 3019) d_Lw_law_363 (by decide) ?_
              refine r_lv (lv' := [(5, .int 0), (0, .ref (g.2.2 40))]) [2, 7] rfl ?_
              exact LW_tail g _ hL _ _ w0 n
            · exact absurd c_358 (by decide)
        · exact absurd c_341 (by decide)
set_option maxHeartbeats 4000000 in
set_option maxRecDepth 100000 in
theorem LW_drawN (g : zG) (a pa pa1 pa2 pa3 ta ta1 ta2 taz taz1 taz2 taz3 taz4 taz5 taz6 ta4 ta5 ta6 sa sa1 sa2 saz saz1 saz2 saz3 saz4 saz5 saz6 sa4 sa5 sa6 gs co co1 co2 co3 fu fub fubg fut1 fut2 fut3 la lab labg gy gyg du dug re wm ac m mp mf mh mn mt mz mc_ mq mgr ml mi mr mm mu mk mx o1 o2 : Nat) (hL : g.2.2 41 = 7) (kd : Int32) (e1 : zc g 1 = kd) (hk : z_kind kd) (hki : 0 ≤ z_ix 0 kd) (x y u v : Nat) (e2 : zs g 2 = nI x) (e3 : zs g 3 = nI y) (e4 : zs g 4 = nI u) (e5 : zs g 5 = nI v) (hx : x + u ≤ 12) (hy : y + v ≤ 9) (hu : 1 ≤ u) (hv : 1 ≤ v) (hz : ¬ (prect kd x y u (zFP, 0) v).2 = 0) (w0 : zW) (n : Nat) : DV g M_Lw_law (lwP) w0 n 260 [(5, .int 0), (4, .ref o2), (3, .ref o1), (2, .ref m), (1, .ref a), (0, .ref (g.2.2 40))] [] (lwCS g a pa pa1 pa2 pa3 ta ta1 ta2 taz taz1 taz2 taz3 taz4 taz5 taz6 ta4 ta5 ta6 sa sa1 sa2 saz saz1 saz2 saz3 saz4 saz5 saz6 sa4 sa5 sa6 gs co co1 co2 co3 fu fub fubg fut1 fut2 fut3 la lab labg gy gyg du dug re wm ac m mp mf mh mn mt mz mc_ mq mgr ml mi mr mm mu mk mx o1 o2) 100 1000 := by
  refine r_aload_n d_Lw_law_260 rfl 4 rfl ?_
  refine r_aload_n d_Lw_law_261 rfl 5 rfl ?_
  refine r_iload d_Lw_law_262 0 rfl ?_
  refine r_iconst d_Lw_law_264 (v := 1) (by decide) ?_
  refine r_iadd d_Lw_law_265 (v := 1) rfl ?_
  refine r_sld (v := zs g 1) d_Lw_law_266 (by rw [hL]; exact fun q => q.elim (by decide) (by decide)) rfl ?_
  refine r_i2c d_Lw_law_267 (v := kd) e1 ?_
  refine r_aload_n d_Lw_law_268 rfl 5 rfl ?_
  refine r_iload d_Lw_law_269 0 rfl ?_
  refine r_iconst d_Lw_law_271 (v := 2) (by decide) ?_
  refine r_iadd d_Lw_law_272 (v := 2) rfl ?_
  refine r_sld (v := nI x) d_Lw_law_273 (by rw [hL]; exact fun q => q.elim (by decide) (by decide)) e2 ?_
  refine r_aload_n d_Lw_law_274 rfl 5 rfl ?_
  refine r_iload d_Lw_law_275 0 rfl ?_
  refine r_iconst d_Lw_law_277 (v := 3) (by decide) ?_
  refine r_iadd d_Lw_law_278 (v := 3) rfl ?_
  refine r_sld (v := nI y) d_Lw_law_279 (by rw [hL]; exact fun q => q.elim (by decide) (by decide)) e3 ?_
  refine r_aload_n d_Lw_law_280 rfl 5 rfl ?_
  refine r_iload d_Lw_law_281 0 rfl ?_
  refine r_iconst d_Lw_law_283 (v := 4) (by decide) ?_
  refine r_iadd d_Lw_law_284 (v := 4) rfl ?_
  refine r_sld (v := nI u) d_Lw_law_285 (by rw [hL]; exact fun q => q.elim (by decide) (by decide)) e4 ?_
  refine r_aload_n d_Lw_law_286 rfl 5 rfl ?_
  refine r_iload d_Lw_law_287 0 rfl ?_
  refine r_iconst d_Lw_law_289 (v := 5) (by decide) ?_
  refine r_iadd d_Lw_law_290 (v := 5) rfl ?_
  refine r_sld (v := nI v) d_Lw_law_291 (by rw [hL]; exact fun q => q.elim (by decide) (by decide)) e5 ?_
  refine r_aload_n d_Lw_law_292 rfl 2 rfl ?_
  refine r_callSX (As := [.ref a, .int kd, .int (nI x), .int (nI y), .int (nI u), .int (nI v), .ref o1]) (rest := []) (csC := [(a, .inr (11, [.ref pa, .ref ta, .ref sa, .ref gs, .ref co, .ref fu, .ref la, .ref gy, .ref du, .ref re, .ref wm, .ref ac])), (pa, .inr (8, [.ref pa1, .ref pa2, .ref pa3, .int (nI 4)])), (pa1, .inl (1, 108, .inl zFP)), (pa2, .inl (2, 108, .inl (fun _ => 0))), (pa3, .inl (0, 108, .inl (fun k => nI ((fun _ => 0) k)))), (ta, .inr (10, [.ref ta1, .ref ta2, .ref taz, .ref ta4, .ref ta5, .ref ta6, .int zX0.1.2.2.1, .int zX0.1.2.2.2])), (ta1, .inl (1, 108, .inl zX0.1.1)), (ta2, .inl (0, 108, .inl zX0.1.2.1)), (taz, .inr (2, [.ref taz1, .ref taz2, .ref taz3, .ref taz4, .ref taz5, .ref taz6, .int zX0.2.1.1.1.2.2.2])), (taz1, .inl (0, 108, .inl zX0.2.1.1.1.1)), (taz2, .inl (0, 108, .inl zX0.2.1.1.2)), (taz3, .inl (0, 108, .inl zX0.2.1.1.1.2.1)), (taz4, .inl (0, 108, .inl zX0.2.1.1.1.2.2.1)), (taz5, .inl (0, 108, .inl zX0.2.1.2.1)), (taz6, .inl (0, 108, .inl zX0.2.1.2.2)), (ta4, .inl (2, 108, .inl zX0.2.2.1)), (ta5, .inl (2, 108, .inl zX0.2.2.2.1)), (ta6, .inl (0, 108, .inl (fun k => nI (zX0.2.2.2.2 k)))), (o1, .inl (3, 1, .inr (.inl (fun _ => 0))))]) (is := [0, 1, 2, 3, 4, 5, 6, 7, 8, 9, 10, 11, 12, 13, 14, 15, 16, 17, 69]) ln_Lw_169 w_st_Lw_draw ok_Lw_law_Lw_draw d_Lw_law_293 (C_Lw_drawN g a pa ta sa gs co fu la gy du re wm ac pa1 pa2 pa3 zFP (fun _ => 0) (fun _ => 0) 4 ta1 ta2 taz taz1 taz2 taz3 taz4 taz5 taz6 ta4 ta5 ta6 zX0 kd hk hki x y u v hx hy hu hv hz (prect_ch hk zFP_ch v) o1 (fun _ => 0)) rfl rfl (Nat.le_of_ble_eq_true rfl) rfl (by decide) (by omega) (by omega) (fun E cs1 hx => ?_) (fun v cs1 hx => ?_)
  · exact absurd hx.1 (by simp)
  · obtain ⟨e1, rfl⟩ := hx
    cases e1
    refine ⟨rfl, ?_⟩
    refine r_st (st2 := [.int 0]) rfl ?_
    refine r_istore (lv' := [(6, .int 0), (5, .int 0), (4, .ref o2), (3, .ref o1), (2, .ref m), (1, .ref a), (0, .ref (g.2.2 40))]) d_Lw_law_296 (by decide) rfl ?_
    refine r_aload_n d_Lw_law_298 rfl 4 rfl ?_
    refine r_aload_n d_Lw_law_299 rfl 6 rfl ?_
    refine r_iload d_Lw_law_300 1 rfl ?_
    refine r_iconst d_Lw_law_302 (v := 1) (by decide) ?_
    refine r_iadd d_Lw_law_303 (v := 1) rfl ?_
    refine r_sld (v := zs g 1) d_Lw_law_304 (by rw [hL]; exact fun q => q.elim (by decide) (by decide)) rfl ?_
    refine r_i2c d_Lw_law_305 (v := kd) e1 ?_
    refine r_aload_n d_Lw_law_306 rfl 6 rfl ?_
    refine r_iload d_Lw_law_307 1 rfl ?_
    refine r_iconst d_Lw_law_309 (v := 2) (by decide) ?_
    refine r_iadd d_Lw_law_310 (v := 2) rfl ?_
    refine r_sld (v := nI x) d_Lw_law_311 (by rw [hL]; exact fun q => q.elim (by decide) (by decide)) e2 ?_
    refine r_aload_n d_Lw_law_312 rfl 6 rfl ?_
    refine r_iload d_Lw_law_313 1 rfl ?_
    refine r_iconst d_Lw_law_315 (v := 3) (by decide) ?_
    refine r_iadd d_Lw_law_316 (v := 3) rfl ?_
    refine r_sld (v := nI y) d_Lw_law_317 (by rw [hL]; exact fun q => q.elim (by decide) (by decide)) e3 ?_
    refine r_aload_n d_Lw_law_318 rfl 6 rfl ?_
    refine r_iload d_Lw_law_319 1 rfl ?_
    refine r_iconst d_Lw_law_321 (v := 4) (by decide) ?_
    refine r_iadd d_Lw_law_322 (v := 4) rfl ?_
    refine r_sld (v := nI u) d_Lw_law_323 (by rw [hL]; exact fun q => q.elim (by decide) (by decide)) e4 ?_
    refine r_aload_n d_Lw_law_324 rfl 6 rfl ?_
    refine r_iload d_Lw_law_325 1 rfl ?_
    refine r_iconst d_Lw_law_327 (v := 5) (by decide) ?_
    refine r_iadd d_Lw_law_328 (v := 5) rfl ?_
    refine r_sld (v := nI v) d_Lw_law_329 (by rw [hL]; exact fun q => q.elim (by decide) (by decide)) e5 ?_
    refine r_callV (As := [.int kd, .int (nI x), .int (nI y), .int (nI u), .int (nI v)]) (rest := []) (csC := [(m, .inr (12, [.int 0, .ref mp, .int 4, .ref mf, .ref mh, .ref mn, .ref mt, .ref mz, .ref mc_, .ref mq, .ref mgr, .int 80, .int 35, .int 30, .int 50, .int 0, .int 0, .ref ml, .ref mi, .ref mr, .int 0, .int 0, .int 0, .int (-1), .int 0, .ref mm, .ref mu, .ref mk, .ref mx, .long 0, .long 0])), (mp, .inl (1, 108, .inl zFP))]) (is := [52, 53]) (q0 := 52) rfl rfl ln_Lw_174 w_im_Mm_draw w_se_Mm_draw ok_Lw_law_Mm_draw d_Lw_law_330 (C_Mm_drawN g m mp mf mh mn mt mz mc_ mq mgr ml mi mr mm mu mk mx 0 4 80 35 30 50 0 0 0 0 0 (-1) 0 0 0 zFP kd hk hki x y u v hx hy hu hv) rfl rfl (Nat.le_of_ble_eq_true rfl) rfl (by decide) (by omega) (by omega) (fun E cs1 hx => ?_) (fun v cs1 hx => ?_)
    · exact absurd hx.1 (by simp)
    · obtain ⟨e1, rfl⟩ := hx
      cases e1
      refine ⟨rfl, ?_⟩
      refine r_st (st2 := [.int (nI (prect kd x y u (zFP, 0) v).2)]) rfl ?_
      refine r_istore (lv' := [(7, .int (nI (prect kd x y u (zFP, 0) v).2)), (6, .int 0), (5, .int 0), (4, .ref o2), (3, .ref o1), (2, .ref m), (1, .ref a), (0, .ref (g.2.2 40))]) d_Lw_law_333 (by decide) rfl ?_
      refine r_aload_n d_Lw_law_335 rfl 5 rfl ?_
      refine r_callV (As := []) (rest := []) (csC := [(m, .inr (12, [.int 0, .ref mp, .int 4, .ref mf, .ref mh, .ref mn, .ref mt, .ref mz, .ref mc_, .ref mq, .ref mgr, .int 80, .int 35, .int 30, .int 50, .int 0, .int 0, .ref ml, .ref mi, .ref mr, .int 0, .int 0, .int 0, .int (-1), .int 0, .ref mm, .ref mu, .ref mk, .ref mx, .long 0, .long 0]))]) (is := [52]) (q0 := 52) rfl rfl ln_Lw_175 w_im_Mm_thrown w_se_Mm_thrown ok_Lw_law_Mm_thrown d_Lw_law_336 (C_Mm_thrown g m mp mf mh mn mt mz mc_ mq mgr ml mi mr mm mu mk mx 0 4 80 35 30 50 0 0 0 0 0 (-1) 0 0 0) rfl rfl (Nat.le_of_ble_eq_true rfl) rfl (by decide) (by omega) (by omega) (fun E cs1 hx => ?_) (fun v cs1 hx => ?_)
      · exact absurd hx.1 (by simp)
      · obtain ⟨e1, rfl⟩ := hx
        cases e1
        refine ⟨rfl, ?_⟩
        refine r_st (st2 := [.int 0]) rfl ?_
        refine r_iload d_Lw_law_339 1 rfl ?_
        refine r_icmp_eq (tgt := 346) d_Lw_law_341 (by decide) (fun c_341 => ?_) (fun c_341 => ?_)
        · refine r_iload d_Lw_law_346 1 rfl ?_
          refine r_if_ne (tgt := 363) d_Lw_law_348 (by decide) (fun c_348 => ?_) (fun c_348 => ?_)
          · exact absurd c_348 (by decide)
          · refine r_aload_n d_Lw_law_351 rfl 4 rfl ?_
            refine r_iconst d_Lw_law_352 (v := 0) (by decide) ?_
            refine r_lald d_Lw_law_353 (q0 := 69) rfl (fun q => q.elim (by decide) (by decide)) (v := (vp_updL (fun _ => 0) 0 ((nI (prect kd x y u (zFP, 0) v).2)).toInt64) 0) rfl ?_
            refine r_iload d_Lw_law_354 0 rfl ?_
            refine r_i2l d_Lw_law_356 (v := (nI (prect kd x y u (zFP, 0) v).2).toInt64) rfl ?_
            refine r_lcmp d_Lw_law_357 (v := 0) (zl_cmp (rfl)) ?_
            refine r_if_eq (tgt := 363) d_Lw_law_358 (by decide) (fun c_358 => ?_) (fun c_358 => ?_)
            · refine r_goto (tgt := 3019) d_Lw_law_363 (by decide) ?_
              refine r_lv (lv' := [(5, .int 0), (0, .ref (g.2.2 40))]) [2, 7] rfl ?_
              exact LW_tail g _ hL _ _ w0 n
            · exact absurd c_358 (by decide)
        · exact absurd c_341 (by decide)
theorem d_Lw_law_366 : decode code 366 = .ok (.aload_n 1, 1) := by decide +kernel
theorem d_Lw_law_367 : decode code 367 = .ok (.aload_n 0, 1) := by decide +kernel
theorem d_Lw_law_368 : decode code 368 = .ok (.iload 5, 2) := by decide +kernel
theorem d_Lw_law_370 : decode code 370 = .ok (.iconst 1, 1) := by decide +kernel
theorem d_Lw_law_371 : decode code 371 = .ok (.iadd, 1) := by decide +kernel
theorem d_Lw_law_372 : decode code 372 = .ok (.iaload, 1) := by decide +kernel
theorem d_Lw_law_373 : decode code 373 = .ok (.aload_n 0, 1) := by decide +kernel
theorem d_Lw_law_374 : decode code 374 = .ok (.iload 5, 2) := by decide +kernel
theorem d_Lw_law_376 : decode code 376 = .ok (.iconst 2, 1) := by decide +kernel
theorem d_Lw_law_377 : decode code 377 = .ok (.iadd, 1) := by decide +kernel
theorem d_Lw_law_378 : decode code 378 = .ok (.iaload, 1) := by decide +kernel
theorem d_Lw_law_379 : decode code 379 = .ok (.aload_n 3, 1) := by decide +kernel
theorem d_Lw_law_380 : decode code 380 = .ok (.invokestatic 178, 3) := by decide +kernel
theorem ok_Lw_law_Lw_cell : z_okX M_Lw_law M_Lw_cell 4 := ⟨z_mem (i := 768) (by decide +kernel) (by decide +kernel), by decide, ⟨by decide +kernel, by decide +kernel, by decide +kernel⟩, ⟨by decide, by decide⟩, z_mem (i := 57) (by decide +kernel) (by decide +kernel), rfl⟩
theorem ln_Lw_178 : Cond.methodLink "IronpourLaw" 178 M_Lw_cell.1 ∈ z_gw := z_mem (i := 766) (by decide +kernel) (by decide +kernel)
theorem w_st_Lw_cell : Cond.static M_Lw_cell.1 ∈ z_gw := z_mem (i := 767) (by decide +kernel) (by decide +kernel)
theorem d_Lw_law_383 : decode code 383 = .ok (.istore 6, 2) := by decide +kernel
theorem d_Lw_law_385 : decode code 385 = .ok (.aload_n 2, 1) := by decide +kernel
theorem d_Lw_law_386 : decode code 386 = .ok (.aload_n 0, 1) := by decide +kernel
theorem d_Lw_law_387 : decode code 387 = .ok (.iload 5, 2) := by decide +kernel
theorem d_Lw_law_389 : decode code 389 = .ok (.iconst 1, 1) := by decide +kernel
theorem d_Lw_law_390 : decode code 390 = .ok (.iadd, 1) := by decide +kernel
theorem d_Lw_law_391 : decode code 391 = .ok (.iaload, 1) := by decide +kernel
theorem d_Lw_law_392 : decode code 392 = .ok (.aload_n 0, 1) := by decide +kernel
theorem d_Lw_law_393 : decode code 393 = .ok (.iload 5, 2) := by decide +kernel
theorem d_Lw_law_395 : decode code 395 = .ok (.iconst 2, 1) := by decide +kernel
theorem d_Lw_law_396 : decode code 396 = .ok (.iadd, 1) := by decide +kernel
theorem d_Lw_law_397 : decode code 397 = .ok (.iaload, 1) := by decide +kernel
theorem d_Lw_law_398 : decode code 398 = .ok (.invokevirtual 181, 3) := by decide +kernel
theorem ok_Lw_law_Mm_cell : z_ok M_Lw_law M_Mm_cell 2 := ⟨z_mem (i := 1697) (by decide +kernel) (by decide +kernel), rfl, ⟨by decide +kernel, by decide +kernel, by decide +kernel⟩, ⟨by decide, by decide⟩, z_mem (i := 71) (by decide +kernel) (by decide +kernel), rfl⟩
theorem ln_Lw_181 : Cond.methodLink "IronpourLaw" 181 M_Mm_cell.1 ∈ z_gw := z_mem (i := 1694) (by decide +kernel) (by decide +kernel)
theorem w_im_Mm_cell : Cond.instanceMethod M_Mm_cell.1 ∈ z_gw := z_mem (i := 1695) (by decide +kernel) (by decide +kernel)
theorem w_se_Mm_cell : Cond.selects M_Mm_cell.1.cls M_Mm_cell.1 M_Mm_cell.1 ∈ z_gw := z_mem (i := 1696) (by decide +kernel) (by decide +kernel)
theorem d_Lw_law_401 : decode code 401 = .ok (.istore 7, 2) := by decide +kernel
theorem d_Lw_law_403 : decode code 403 = .ok (.aload_n 2, 1) := by decide +kernel
theorem d_Lw_law_404 : decode code 404 = .ok (.invokevirtual 175, 3) := by decide +kernel
theorem d_Lw_law_407 : decode code 407 = .ok (.iload 6, 2) := by decide +kernel
theorem d_Lw_law_409 : decode code 409 = .ok (.if_icmp .eq 5, 3) := by decide +kernel
theorem d_Lw_law_414 : decode code 414 = .ok (.iload 6, 2) := by decide +kernel
theorem d_Lw_law_416 : decode code 416 = .ok (.ifCond .ne 15, 3) := by decide +kernel
theorem d_Lw_law_431 : decode code 431 = .ok (.goto 2588, 3) := by decide +kernel
set_option maxHeartbeats 4000000 in
set_option maxRecDepth 100000 in
theorem LW_cellE (g : zG) (a pa pa1 pa2 pa3 ta ta1 ta2 taz taz1 taz2 taz3 taz4 taz5 taz6 ta4 ta5 ta6 sa sa1 sa2 saz saz1 saz2 saz3 saz4 saz5 saz6 sa4 sa5 sa6 gs co co1 co2 co3 fu fub fubg fut1 fut2 fut3 la lab labg gy gyg du dug re wm ac m mp mf mh mn mt mz mc_ mq mgr ml mi mr mm mu mk mx o1 o2 : Nat) (hL : g.2.2 41 = 7) (hz : z_cl (zs g 1) (zs g 2) = none) (w0 : zW) (n : Nat) : DV g M_Lw_law (lwP) w0 n 366 [(5, .int 0), (4, .ref o2), (3, .ref o1), (2, .ref m), (1, .ref a), (0, .ref (g.2.2 40))] [] (lwCS g a pa pa1 pa2 pa3 ta ta1 ta2 taz taz1 taz2 taz3 taz4 taz5 taz6 ta4 ta5 ta6 sa sa1 sa2 saz saz1 saz2 saz3 saz4 saz5 saz6 sa4 sa5 sa6 gs co co1 co2 co3 fu fub fubg fut1 fut2 fut3 la lab labg gy gyg du dug re wm ac m mp mf mh mn mt mz mc_ mq mgr ml mi mr mm mu mk mx o1 o2) 100 1000 := by
  refine r_aload_n d_Lw_law_366 rfl 4 rfl ?_
  refine r_aload_n d_Lw_law_367 rfl 5 rfl ?_
  refine r_iload d_Lw_law_368 0 rfl ?_
  refine r_iconst d_Lw_law_370 (v := 1) (by decide) ?_
  refine r_iadd d_Lw_law_371 (v := 1) rfl ?_
  refine r_sld (v := zs g 1) d_Lw_law_372 (by rw [hL]; exact fun q => q.elim (by decide) (by decide)) rfl ?_
  refine r_aload_n d_Lw_law_373 rfl 5 rfl ?_
  refine r_iload d_Lw_law_374 0 rfl ?_
  refine r_iconst d_Lw_law_376 (v := 2) (by decide) ?_
  refine r_iadd d_Lw_law_377 (v := 2) rfl ?_
  refine r_sld (v := zs g 2) d_Lw_law_378 (by rw [hL]; exact fun q => q.elim (by decide) (by decide)) rfl ?_
  refine r_aload_n d_Lw_law_379 rfl 2 rfl ?_
  refine r_callSX (As := [.ref a, .int (zs g 1), .int (zs g 2), .ref o1]) (rest := []) (csC := [(a, .inr (11, [.ref pa, .ref ta, .ref sa, .ref gs, .ref co, .ref fu, .ref la, .ref gy, .ref du, .ref re, .ref wm, .ref ac])), (pa, .inr (8, [.ref pa1, .ref pa2, .ref pa3, .int (nI 4)])), (pa1, .inl (1, 108, .inl zFP)), (pa2, .inl (2, 108, .inl (fun _ => 0))), (pa3, .inl (0, 108, .inl (fun k => nI ((fun _ => 0) k)))), (o1, .inl (3, 1, .inr (.inl (fun _ => 0))))]) (is := [0, 1, 2, 3, 4, 69]) ln_Lw_178 w_st_Lw_cell ok_Lw_law_Lw_cell d_Lw_law_380 (C_Lw_cellE g a pa ta sa gs co fu la gy du re wm ac pa1 pa2 pa3 zFP (fun _ => 0) (fun _ => 0) 4 (zs g 1) (zs g 2) hz o1 (fun _ => 0)) rfl rfl (Nat.le_of_ble_eq_true rfl) rfl (by decide) (by omega) (by omega) (fun E cs1 hx => ?_) (fun v cs1 hx => ?_)
  · exact absurd hx.1 (by simp)
  · obtain ⟨e1, rfl⟩ := hx
    cases e1
    refine ⟨rfl, ?_⟩
    refine r_st (st2 := [.int 1]) rfl ?_
    refine r_istore (lv' := [(6, .int 1), (5, .int 0), (4, .ref o2), (3, .ref o1), (2, .ref m), (1, .ref a), (0, .ref (g.2.2 40))]) d_Lw_law_383 (by decide) rfl ?_
    refine r_aload_n d_Lw_law_385 rfl 4 rfl ?_
    refine r_aload_n d_Lw_law_386 rfl 6 rfl ?_
    refine r_iload d_Lw_law_387 1 rfl ?_
    refine r_iconst d_Lw_law_389 (v := 1) (by decide) ?_
    refine r_iadd d_Lw_law_390 (v := 1) rfl ?_
    refine r_sld (v := zs g 1) d_Lw_law_391 (by rw [hL]; exact fun q => q.elim (by decide) (by decide)) rfl ?_
    refine r_aload_n d_Lw_law_392 rfl 6 rfl ?_
    refine r_iload d_Lw_law_393 1 rfl ?_
    refine r_iconst d_Lw_law_395 (v := 2) (by decide) ?_
    refine r_iadd d_Lw_law_396 (v := 2) rfl ?_
    refine r_sld (v := zs g 2) d_Lw_law_397 (by rw [hL]; exact fun q => q.elim (by decide) (by decide)) rfl ?_
    refine r_callV (As := [.int (zs g 1), .int (zs g 2)]) (rest := []) (csC := [(m, .inr (12, [.int 0, .ref mp, .int 4, .ref mf, .ref mh, .ref mn, .ref mt, .ref mz, .ref mc_, .ref mq, .ref mgr, .int 80, .int 35, .int 30, .int 50, .int 0, .int 0, .ref ml, .ref mi, .ref mr, .int 0, .int 0, .int 0, .int (-1), .int 0, .ref mm, .ref mu, .ref mk, .ref mx, .long 0, .long 0])), (mp, .inl (1, 108, .inl zFP))]) (is := [52, 53]) (q0 := 52) rfl rfl ln_Lw_181 w_im_Mm_cell w_se_Mm_cell ok_Lw_law_Mm_cell d_Lw_law_398 (C_Mm_cellE g m mp mf mh mn mt mz mc_ mq mgr ml mi mr mm mu mk mx 0 4 80 35 30 50 0 0 0 0 0 (-1) 0 0 0 zFP (zs g 1) (zs g 2) hz) rfl rfl (Nat.le_of_ble_eq_true rfl) rfl (by decide) (by omega) (by omega) (fun E cs1 hx => ?_) (fun v cs1 hx => ?_)
    · exact absurd hx.1 (by simp)
    · obtain ⟨e1, rfl⟩ := hx
      cases e1
      refine ⟨rfl, ?_⟩
      refine r_st (st2 := [.int 0]) rfl ?_
      refine r_istore (lv' := [(7, .int 0), (6, .int 1), (5, .int 0), (4, .ref o2), (3, .ref o1), (2, .ref m), (1, .ref a), (0, .ref (g.2.2 40))]) d_Lw_law_401 (by decide) rfl ?_
      refine r_aload_n d_Lw_law_403 rfl 5 rfl ?_
      refine r_callV (As := []) (rest := []) (csC := [(m, .inr (12, [.int 1, .ref mp, .int 4, .ref mf, .ref mh, .ref mn, .ref mt, .ref mz, .ref mc_, .ref mq, .ref mgr, .int 80, .int 35, .int 30, .int 50, .int 0, .int 0, .ref ml, .ref mi, .ref mr, .int 0, .int 0, .int 0, .int (-1), .int 0, .ref mm, .ref mu, .ref mk, .ref mx, .long 0, .long 0]))]) (is := [52]) (q0 := 52) rfl rfl ln_Lw_175 w_im_Mm_thrown w_se_Mm_thrown ok_Lw_law_Mm_thrown d_Lw_law_404 (C_Mm_thrown g m mp mf mh mn mt mz mc_ mq mgr ml mi mr mm mu mk mx 1 4 80 35 30 50 0 0 0 0 0 (-1) 0 0 0) rfl rfl (Nat.le_of_ble_eq_true rfl) rfl (by decide) (by omega) (by omega) (fun E cs1 hx => ?_) (fun v cs1 hx => ?_)
      · exact absurd hx.1 (by simp)
      · obtain ⟨e1, rfl⟩ := hx
        cases e1
        refine ⟨rfl, ?_⟩
        refine r_st (st2 := [.int 1]) rfl ?_
        refine r_iload d_Lw_law_407 1 rfl ?_
        refine r_icmp_eq (tgt := 414) d_Lw_law_409 (by decide) (fun c_409 => ?_) (fun c_409 => ?_)
        · refine r_iload d_Lw_law_414 1 rfl ?_
          refine r_if_ne (tgt := 431) d_Lw_law_416 (by decide) (fun c_416 => ?_) (fun c_416 => ?_)
          · refine r_goto (tgt := 3019) d_Lw_law_431 (by decide) ?_
            refine r_lv (lv' := [(5, .int 0), (0, .ref (g.2.2 40))]) [2, 7] rfl ?_
            exact LW_tail g _ hL _ _ w0 n
          · exact absurd c_416 (by decide)
        · exact absurd c_409 (by decide)
theorem d_Lw_law_419 : decode code 419 = .ok (.aload_n 3, 1) := by decide +kernel
theorem d_Lw_law_420 : decode code 420 = .ok (.iconst 0, 1) := by decide +kernel
theorem d_Lw_law_421 : decode code 421 = .ok (.laload, 1) := by decide +kernel
theorem d_Lw_law_422 : decode code 422 = .ok (.iload 7, 2) := by decide +kernel
theorem d_Lw_law_424 : decode code 424 = .ok (.i2l, 1) := by decide +kernel
theorem d_Lw_law_425 : decode code 425 = .ok (.lcmp, 1) := by decide +kernel
theorem d_Lw_law_426 : decode code 426 = .ok (.ifCond .eq 5, 3) := by decide +kernel
set_option maxHeartbeats 4000000 in
set_option maxRecDepth 100000 in
theorem LW_cellN (g : zG) (a pa pa1 pa2 pa3 ta ta1 ta2 taz taz1 taz2 taz3 taz4 taz5 taz6 ta4 ta5 ta6 sa sa1 sa2 saz saz1 saz2 saz3 saz4 saz5 saz6 sa4 sa5 sa6 gs co co1 co2 co3 fu fub fubg fut1 fut2 fut3 la lab labg gy gyg du dug re wm ac m mp mf mh mn mt mz mc_ mq mgr ml mi mr mm mu mk mx o1 o2 : Nat) (hL : g.2.2 41 = 7) (x y : Nat) (hx0 : x < 12) (hy0 : y < 9) (e1 : zs g 1 = nI x) (e2 : zs g 2 = nI y) (w0 : zW) (n : Nat) : DV g M_Lw_law (lwP) w0 n 366 [(5, .int 0), (4, .ref o2), (3, .ref o1), (2, .ref m), (1, .ref a), (0, .ref (g.2.2 40))] [] (lwCS g a pa pa1 pa2 pa3 ta ta1 ta2 taz taz1 taz2 taz3 taz4 taz5 taz6 ta4 ta5 ta6 sa sa1 sa2 saz saz1 saz2 saz3 saz4 saz5 saz6 sa4 sa5 sa6 gs co co1 co2 co3 fu fub fubg fut1 fut2 fut3 la lab labg gy gyg du dug re wm ac m mp mf mh mn mt mz mc_ mq mgr ml mi mr mm mu mk mx o1 o2) 100 1000 := by
  refine r_aload_n d_Lw_law_366 rfl 4 rfl ?_
  refine r_aload_n d_Lw_law_367 rfl 5 rfl ?_
  refine r_iload d_Lw_law_368 0 rfl ?_
  refine r_iconst d_Lw_law_370 (v := 1) (by decide) ?_
  refine r_iadd d_Lw_law_371 (v := 1) rfl ?_
  refine r_sld (v := nI x) d_Lw_law_372 (by rw [hL]; exact fun q => q.elim (by decide) (by decide)) e1 ?_
  refine r_aload_n d_Lw_law_373 rfl 5 rfl ?_
  refine r_iload d_Lw_law_374 0 rfl ?_
  refine r_iconst d_Lw_law_376 (v := 2) (by decide) ?_
  refine r_iadd d_Lw_law_377 (v := 2) rfl ?_
  refine r_sld (v := nI y) d_Lw_law_378 (by rw [hL]; exact fun q => q.elim (by decide) (by decide)) e2 ?_
  refine r_aload_n d_Lw_law_379 rfl 2 rfl ?_
  refine r_callSX (As := [.ref a, .int (nI x), .int (nI y), .ref o1]) (rest := []) (csC := [(a, .inr (11, [.ref pa, .ref ta, .ref sa, .ref gs, .ref co, .ref fu, .ref la, .ref gy, .ref du, .ref re, .ref wm, .ref ac])), (pa, .inr (8, [.ref pa1, .ref pa2, .ref pa3, .int (nI 4)])), (pa1, .inl (1, 108, .inl zFP)), (pa2, .inl (2, 108, .inl (fun _ => 0))), (pa3, .inl (0, 108, .inl (fun k => nI ((fun _ => 0) k)))), (o1, .inl (3, 1, .inr (.inl (fun _ => 0))))]) (is := [0, 1, 2, 3, 4, 69]) ln_Lw_178 w_st_Lw_cell ok_Lw_law_Lw_cell d_Lw_law_380 (C_Lw_cellN g a pa ta sa gs co fu la gy du re wm ac pa1 pa2 pa3 zFP (fun _ => 0) (fun _ => 0) 4 (nI x) (nI y) (12 * y + x) (z_clI hx0 hy0) zFP_ch o1 (fun _ => 0)) rfl rfl (Nat.le_of_ble_eq_true rfl) rfl (by decide) (by omega) (by omega) (fun E cs1 hx => ?_) (fun v cs1 hx => ?_)
  · exact absurd hx.1 (by simp)
  · obtain ⟨e1, rfl⟩ := hx
    cases e1
    refine ⟨rfl, ?_⟩
    refine r_st (st2 := [.int 0]) rfl ?_
    refine r_istore (lv' := [(6, .int 0), (5, .int 0), (4, .ref o2), (3, .ref o1), (2, .ref m), (1, .ref a), (0, .ref (g.2.2 40))]) d_Lw_law_383 (by decide) rfl ?_
    refine r_aload_n d_Lw_law_385 rfl 4 rfl ?_
    refine r_aload_n d_Lw_law_386 rfl 6 rfl ?_
    refine r_iload d_Lw_law_387 1 rfl ?_
    refine r_iconst d_Lw_law_389 (v := 1) (by decide) ?_
    refine r_iadd d_Lw_law_390 (v := 1) rfl ?_
    refine r_sld (v := nI x) d_Lw_law_391 (by rw [hL]; exact fun q => q.elim (by decide) (by decide)) e1 ?_
    refine r_aload_n d_Lw_law_392 rfl 6 rfl ?_
    refine r_iload d_Lw_law_393 1 rfl ?_
    refine r_iconst d_Lw_law_395 (v := 2) (by decide) ?_
    refine r_iadd d_Lw_law_396 (v := 2) rfl ?_
    refine r_sld (v := nI y) d_Lw_law_397 (by rw [hL]; exact fun q => q.elim (by decide) (by decide)) e2 ?_
    refine r_callV (As := [.int (nI x), .int (nI y)]) (rest := []) (csC := [(m, .inr (12, [.int 0, .ref mp, .int 4, .ref mf, .ref mh, .ref mn, .ref mt, .ref mz, .ref mc_, .ref mq, .ref mgr, .int 80, .int 35, .int 30, .int 50, .int 0, .int 0, .ref ml, .ref mi, .ref mr, .int 0, .int 0, .int 0, .int (-1), .int 0, .ref mm, .ref mu, .ref mk, .ref mx, .long 0, .long 0])), (mp, .inl (1, 108, .inl zFP))]) (is := [52, 53]) (q0 := 52) rfl rfl ln_Lw_181 w_im_Mm_cell w_se_Mm_cell ok_Lw_law_Mm_cell d_Lw_law_398 (C_Mm_cellN g m mp mf mh mn mt mz mc_ mq mgr ml mi mr mm mu mk mx 0 4 80 35 30 50 0 0 0 0 0 (-1) 0 0 0 zFP x y hx0 hy0 zFP_ch) rfl rfl (Nat.le_of_ble_eq_true rfl) rfl (by decide) (by omega) (by omega) (fun E cs1 hx => ?_) (fun v cs1 hx => ?_)
    · exact absurd hx.1 (by simp)
    · obtain ⟨e1, rfl⟩ := hx
      cases e1
      refine ⟨rfl, ?_⟩
      refine r_st (st2 := [.int (zFP (12 * y + x))]) rfl ?_
      refine r_istore (lv' := [(7, .int (zFP (12 * y + x))), (6, .int 0), (5, .int 0), (4, .ref o2), (3, .ref o1), (2, .ref m), (1, .ref a), (0, .ref (g.2.2 40))]) d_Lw_law_401 (by decide) rfl ?_
      refine r_aload_n d_Lw_law_403 rfl 5 rfl ?_
      refine r_callV (As := []) (rest := []) (csC := [(m, .inr (12, [.int 0, .ref mp, .int 4, .ref mf, .ref mh, .ref mn, .ref mt, .ref mz, .ref mc_, .ref mq, .ref mgr, .int 80, .int 35, .int 30, .int 50, .int 0, .int 0, .ref ml, .ref mi, .ref mr, .int 0, .int 0, .int 0, .int (-1), .int 0, .ref mm, .ref mu, .ref mk, .ref mx, .long 0, .long 0]))]) (is := [52]) (q0 := 52) rfl rfl ln_Lw_175 w_im_Mm_thrown w_se_Mm_thrown ok_Lw_law_Mm_thrown d_Lw_law_404 (C_Mm_thrown g m mp mf mh mn mt mz mc_ mq mgr ml mi mr mm mu mk mx 0 4 80 35 30 50 0 0 0 0 0 (-1) 0 0 0) rfl rfl (Nat.le_of_ble_eq_true rfl) rfl (by decide) (by omega) (by omega) (fun E cs1 hx => ?_) (fun v cs1 hx => ?_)
      · exact absurd hx.1 (by simp)
      · obtain ⟨e1, rfl⟩ := hx
        cases e1
        refine ⟨rfl, ?_⟩
        refine r_st (st2 := [.int 0]) rfl ?_
        refine r_iload d_Lw_law_407 1 rfl ?_
        refine r_icmp_eq (tgt := 414) d_Lw_law_409 (by decide) (fun c_409 => ?_) (fun c_409 => ?_)
        · refine r_iload d_Lw_law_414 1 rfl ?_
          refine r_if_ne (tgt := 431) d_Lw_law_416 (by decide) (fun c_416 => ?_) (fun c_416 => ?_)
          · exact absurd c_416 (by decide)
          · refine r_aload_n d_Lw_law_419 rfl 4 rfl ?_
            refine r_iconst d_Lw_law_420 (v := 0) (by decide) ?_
            refine r_lald d_Lw_law_421 (q0 := 69) rfl (fun q => q.elim (by decide) (by decide)) (v := (vp_updL (fun _ => 0) 0 ((zFP (12 * y + x))).toInt64) 0) rfl ?_
            refine r_iload d_Lw_law_422 0 rfl ?_
            refine r_i2l d_Lw_law_424 (v := (zFP (12 * y + x)).toInt64) rfl ?_
            refine r_lcmp d_Lw_law_425 (v := 0) (zl_cmp (rfl)) ?_
            refine r_if_eq (tgt := 431) d_Lw_law_426 (by decide) (fun c_426 => ?_) (fun c_426 => ?_)
            · refine r_goto (tgt := 3019) d_Lw_law_431 (by decide) ?_
              refine r_lv (lv' := [(5, .int 0), (0, .ref (g.2.2 40))]) [2, 7] rfl ?_
              exact LW_tail g _ hL _ _ w0 n
            · exact absurd c_426 (by decide)
        · exact absurd c_409 (by decide)
theorem d_Lw_law_434 : decode code 434 = .ok (.aload_n 1, 1) := by decide +kernel
theorem d_Lw_law_435 : decode code 435 = .ok (.aload_n 0, 1) := by decide +kernel
theorem d_Lw_law_436 : decode code 436 = .ok (.iload 5, 2) := by decide +kernel
theorem d_Lw_law_438 : decode code 438 = .ok (.iconst 1, 1) := by decide +kernel
theorem d_Lw_law_439 : decode code 439 = .ok (.iadd, 1) := by decide +kernel
theorem d_Lw_law_440 : decode code 440 = .ok (.iaload, 1) := by decide +kernel
theorem d_Lw_law_441 : decode code 441 = .ok (.aload_n 3, 1) := by decide +kernel
theorem d_Lw_law_442 : decode code 442 = .ok (.invokestatic 182, 3) := by decide +kernel
theorem ok_Lw_law_Lw_part : z_okX M_Lw_law M_Lw_part 3 := ⟨z_mem (i := 815) (by decide +kernel) (by decide +kernel), by decide, ⟨by decide +kernel, by decide +kernel, by decide +kernel⟩, ⟨by decide, by decide⟩, z_mem (i := 57) (by decide +kernel) (by decide +kernel), rfl⟩
theorem ln_Lw_182 : Cond.methodLink "IronpourLaw" 182 M_Lw_part.1 ∈ z_gw := z_mem (i := 813) (by decide +kernel) (by decide +kernel)
theorem w_st_Lw_part : Cond.static M_Lw_part.1 ∈ z_gw := z_mem (i := 814) (by decide +kernel) (by decide +kernel)
theorem d_Lw_law_445 : decode code 445 = .ok (.istore 6, 2) := by decide +kernel
theorem d_Lw_law_447 : decode code 447 = .ok (.aload_n 2, 1) := by decide +kernel
theorem d_Lw_law_448 : decode code 448 = .ok (.aload_n 0, 1) := by decide +kernel
theorem d_Lw_law_449 : decode code 449 = .ok (.iload 5, 2) := by decide +kernel
theorem d_Lw_law_451 : decode code 451 = .ok (.iconst 1, 1) := by decide +kernel
theorem d_Lw_law_452 : decode code 452 = .ok (.iadd, 1) := by decide +kernel
theorem d_Lw_law_453 : decode code 453 = .ok (.iaload, 1) := by decide +kernel
theorem d_Lw_law_454 : decode code 454 = .ok (.invokevirtual 185, 3) := by decide +kernel
theorem ok_Lw_law_Mm_part : z_ok M_Lw_law M_Mm_part 1 := ⟨z_mem (i := 1701) (by decide +kernel) (by decide +kernel), rfl, ⟨by decide +kernel, by decide +kernel, by decide +kernel⟩, ⟨by decide, by decide⟩, z_mem (i := 71) (by decide +kernel) (by decide +kernel), rfl⟩
theorem ln_Lw_185 : Cond.methodLink "IronpourLaw" 185 M_Mm_part.1 ∈ z_gw := z_mem (i := 1698) (by decide +kernel) (by decide +kernel)
theorem w_im_Mm_part : Cond.instanceMethod M_Mm_part.1 ∈ z_gw := z_mem (i := 1699) (by decide +kernel) (by decide +kernel)
theorem w_se_Mm_part : Cond.selects M_Mm_part.1.cls M_Mm_part.1 M_Mm_part.1 ∈ z_gw := z_mem (i := 1700) (by decide +kernel) (by decide +kernel)
theorem d_Lw_law_457 : decode code 457 = .ok (.istore 7, 2) := by decide +kernel
theorem d_Lw_law_459 : decode code 459 = .ok (.aload_n 2, 1) := by decide +kernel
theorem d_Lw_law_460 : decode code 460 = .ok (.invokevirtual 175, 3) := by decide +kernel
theorem d_Lw_law_463 : decode code 463 = .ok (.iload 6, 2) := by decide +kernel
theorem d_Lw_law_465 : decode code 465 = .ok (.if_icmp .eq 5, 3) := by decide +kernel
theorem d_Lw_law_470 : decode code 470 = .ok (.iload 6, 2) := by decide +kernel
theorem d_Lw_law_472 : decode code 472 = .ok (.ifCond .ne 15, 3) := by decide +kernel
theorem d_Lw_law_487 : decode code 487 = .ok (.goto 2532, 3) := by decide +kernel
set_option maxHeartbeats 4000000 in
set_option maxRecDepth 100000 in
theorem LW_partE (g : zG) (a pa pa1 pa2 pa3 ta ta1 ta2 taz taz1 taz2 taz3 taz4 taz5 taz6 ta4 ta5 ta6 sa sa1 sa2 saz saz1 saz2 saz3 saz4 saz5 saz6 sa4 sa5 sa6 gs co co1 co2 co3 fu fub fubg fut1 fut2 fut3 la lab labg gy gyg du dug re wm ac m mp mf mh mn mt mz mc_ mq mgr ml mi mr mm mu mk mx o1 o2 : Nat) (hL : g.2.2 41 = 7) (hr : (zs g 1) < 1 ∨ 9 ≤ (zs g 1)) (hw : ¬ (1 ≤ (zs g 1) ∧ (zs g 1) ≤ 8)) (w0 : zW) (n : Nat) : DV g M_Lw_law (lwP) w0 n 434 [(5, .int 0), (4, .ref o2), (3, .ref o1), (2, .ref m), (1, .ref a), (0, .ref (g.2.2 40))] [] (lwCS g a pa pa1 pa2 pa3 ta ta1 ta2 taz taz1 taz2 taz3 taz4 taz5 taz6 ta4 ta5 ta6 sa sa1 sa2 saz saz1 saz2 saz3 saz4 saz5 saz6 sa4 sa5 sa6 gs co co1 co2 co3 fu fub fubg fut1 fut2 fut3 la lab labg gy gyg du dug re wm ac m mp mf mh mn mt mz mc_ mq mgr ml mi mr mm mu mk mx o1 o2) 100 1000 := by
  refine r_aload_n d_Lw_law_434 rfl 4 rfl ?_
  refine r_aload_n d_Lw_law_435 rfl 5 rfl ?_
  refine r_iload d_Lw_law_436 0 rfl ?_
  refine r_iconst d_Lw_law_438 (v := 1) (by decide) ?_
  refine r_iadd d_Lw_law_439 (v := 1) rfl ?_
  refine r_sld (v := zs g 1) d_Lw_law_440 (by rw [hL]; exact fun q => q.elim (by decide) (by decide)) rfl ?_
  refine r_aload_n d_Lw_law_441 rfl 2 rfl ?_
  refine r_callSX (As := [.ref a, .int (zs g 1), .ref o1]) (rest := []) (csC := [(a, .inr (11, [.ref pa, .ref ta, .ref sa, .ref gs, .ref co, .ref fu, .ref la, .ref gy, .ref du, .ref re, .ref wm, .ref ac])), (pa, .inr (8, [.ref pa1, .ref pa2, .ref pa3, .int (nI 4)])), (pa1, .inl (1, 108, .inl zFP)), (pa2, .inl (2, 108, .inl (fun _ => 0))), (pa3, .inl (0, 108, .inl (fun k => nI ((fun _ => 0) k)))), (o1, .inl (3, 1, .inr (.inl (fun _ => 0))))]) (is := [0, 1, 2, 3, 4, 69]) ln_Lw_182 w_st_Lw_part ok_Lw_law_Lw_part d_Lw_law_442 (C_Lw_partE g a pa ta sa gs co fu la gy du re wm ac pa1 pa2 pa3 zFP (fun _ => 0) (fun _ => 0) 4 (zs g 1) hr o1 (fun _ => 0)) rfl rfl (Nat.le_of_ble_eq_true rfl) rfl (by decide) (by omega) (by omega) (fun E cs1 hx => ?_) (fun v cs1 hx => ?_)
  · exact absurd hx.1 (by simp)
  · obtain ⟨e1, rfl⟩ := hx
    cases e1
    refine ⟨rfl, ?_⟩
    refine r_st (st2 := [.int 1]) rfl ?_
    refine r_istore (lv' := [(6, .int 1), (5, .int 0), (4, .ref o2), (3, .ref o1), (2, .ref m), (1, .ref a), (0, .ref (g.2.2 40))]) d_Lw_law_445 (by decide) rfl ?_
    refine r_aload_n d_Lw_law_447 rfl 4 rfl ?_
    refine r_aload_n d_Lw_law_448 rfl 6 rfl ?_
    refine r_iload d_Lw_law_449 1 rfl ?_
    refine r_iconst d_Lw_law_451 (v := 1) (by decide) ?_
    refine r_iadd d_Lw_law_452 (v := 1) rfl ?_
    refine r_sld (v := zs g 1) d_Lw_law_453 (by rw [hL]; exact fun q => q.elim (by decide) (by decide)) rfl ?_
    refine r_callV (As := [.int (zs g 1)]) (rest := []) (csC := [(m, .inr (12, [.int 0, .ref mp, .int 4, .ref mf, .ref mh, .ref mn, .ref mt, .ref mz, .ref mc_, .ref mq, .ref mgr, .int 80, .int 35, .int 30, .int 50, .int 0, .int 0, .ref ml, .ref mi, .ref mr, .int 0, .int 0, .int 0, .int (-1), .int 0, .ref mm, .ref mu, .ref mk, .ref mx, .long 0, .long 0]))]) (is := [52]) (q0 := 52) rfl rfl ln_Lw_185 w_im_Mm_part w_se_Mm_part ok_Lw_law_Mm_part d_Lw_law_454 (C_Mm_partE g m mp mf mh mn mt mz mc_ mq mgr ml mi mr mm mu mk mx 0 4 80 35 30 50 0 0 0 0 0 (-1) 0 0 0 (zs g 1) hw) rfl rfl (Nat.le_of_ble_eq_true rfl) rfl (by decide) (by omega) (by omega) (fun E cs1 hx => ?_) (fun v cs1 hx => ?_)
    · exact absurd hx.1 (by simp)
    · obtain ⟨e1, rfl⟩ := hx
      cases e1
      refine ⟨rfl, ?_⟩
      refine r_st (st2 := [.int 0]) rfl ?_
      refine r_istore (lv' := [(7, .int 0), (6, .int 1), (5, .int 0), (4, .ref o2), (3, .ref o1), (2, .ref m), (1, .ref a), (0, .ref (g.2.2 40))]) d_Lw_law_457 (by decide) rfl ?_
      refine r_aload_n d_Lw_law_459 rfl 5 rfl ?_
      refine r_callV (As := []) (rest := []) (csC := [(m, .inr (12, [.int 1, .ref mp, .int 4, .ref mf, .ref mh, .ref mn, .ref mt, .ref mz, .ref mc_, .ref mq, .ref mgr, .int 80, .int 35, .int 30, .int 50, .int 0, .int 0, .ref ml, .ref mi, .ref mr, .int 0, .int 0, .int 0, .int (-1), .int 0, .ref mm, .ref mu, .ref mk, .ref mx, .long 0, .long 0]))]) (is := [52]) (q0 := 52) rfl rfl ln_Lw_175 w_im_Mm_thrown w_se_Mm_thrown ok_Lw_law_Mm_thrown d_Lw_law_460 (C_Mm_thrown g m mp mf mh mn mt mz mc_ mq mgr ml mi mr mm mu mk mx 1 4 80 35 30 50 0 0 0 0 0 (-1) 0 0 0) rfl rfl (Nat.le_of_ble_eq_true rfl) rfl (by decide) (by omega) (by omega) (fun E cs1 hx => ?_) (fun v cs1 hx => ?_)
      · exact absurd hx.1 (by simp)
      · obtain ⟨e1, rfl⟩ := hx
        cases e1
        refine ⟨rfl, ?_⟩
        refine r_st (st2 := [.int 1]) rfl ?_
        refine r_iload d_Lw_law_463 1 rfl ?_
        refine r_icmp_eq (tgt := 470) d_Lw_law_465 (by decide) (fun c_465 => ?_) (fun c_465 => ?_)
        · refine r_iload d_Lw_law_470 1 rfl ?_
          refine r_if_ne (tgt := 487) d_Lw_law_472 (by decide) (fun c_472 => ?_) (fun c_472 => ?_)
          · refine r_goto (tgt := 3019) d_Lw_law_487 (by decide) ?_
            refine r_lv (lv' := [(5, .int 0), (0, .ref (g.2.2 40))]) [2, 7] rfl ?_
            exact LW_tail g _ hL _ _ w0 n
          · exact absurd c_472 (by decide)
        · exact absurd c_465 (by decide)
theorem d_Lw_law_475 : decode code 475 = .ok (.aload_n 3, 1) := by decide +kernel
theorem d_Lw_law_476 : decode code 476 = .ok (.iconst 0, 1) := by decide +kernel
theorem d_Lw_law_477 : decode code 477 = .ok (.laload, 1) := by decide +kernel
theorem d_Lw_law_478 : decode code 478 = .ok (.iload 7, 2) := by decide +kernel
theorem d_Lw_law_480 : decode code 480 = .ok (.i2l, 1) := by decide +kernel
theorem d_Lw_law_481 : decode code 481 = .ok (.lcmp, 1) := by decide +kernel
theorem d_Lw_law_482 : decode code 482 = .ok (.ifCond .eq 5, 3) := by decide +kernel
set_option maxHeartbeats 4000000 in
set_option maxRecDepth 100000 in
theorem LW_partN (g : zG) (a pa pa1 pa2 pa3 ta ta1 ta2 taz taz1 taz2 taz3 taz4 taz5 taz6 ta4 ta5 ta6 sa sa1 sa2 saz saz1 saz2 saz3 saz4 saz5 saz6 sa4 sa5 sa6 gs co co1 co2 co3 fu fub fubg fut1 fut2 fut3 la lab labg gy gyg du dug re wm ac m mp mf mh mn mt mz mc_ mq mgr ml mi mr mm mu mk mx o1 o2 : Nat) (hL : g.2.2 41 = 7) (hr : ¬ ((zs g 1) < 1 ∨ 9 ≤ (zs g 1))) (hw : (1 ≤ (zs g 1) ∧ (zs g 1) ≤ 8)) (w0 : zW) (n : Nat) : DV g M_Lw_law (lwP) w0 n 434 [(5, .int 0), (4, .ref o2), (3, .ref o1), (2, .ref m), (1, .ref a), (0, .ref (g.2.2 40))] [] (lwCS g a pa pa1 pa2 pa3 ta ta1 ta2 taz taz1 taz2 taz3 taz4 taz5 taz6 ta4 ta5 ta6 sa sa1 sa2 saz saz1 saz2 saz3 saz4 saz5 saz6 sa4 sa5 sa6 gs co co1 co2 co3 fu fub fubg fut1 fut2 fut3 la lab labg gy gyg du dug re wm ac m mp mf mh mn mt mz mc_ mq mgr ml mi mr mm mu mk mx o1 o2) 100 1000 := by
  refine r_aload_n d_Lw_law_434 rfl 4 rfl ?_
  refine r_aload_n d_Lw_law_435 rfl 5 rfl ?_
  refine r_iload d_Lw_law_436 0 rfl ?_
  refine r_iconst d_Lw_law_438 (v := 1) (by decide) ?_
  refine r_iadd d_Lw_law_439 (v := 1) rfl ?_
  refine r_sld (v := zs g 1) d_Lw_law_440 (by rw [hL]; exact fun q => q.elim (by decide) (by decide)) rfl ?_
  refine r_aload_n d_Lw_law_441 rfl 2 rfl ?_
  refine r_callSX (As := [.ref a, .int (zs g 1), .ref o1]) (rest := []) (csC := [(a, .inr (11, [.ref pa, .ref ta, .ref sa, .ref gs, .ref co, .ref fu, .ref la, .ref gy, .ref du, .ref re, .ref wm, .ref ac])), (pa, .inr (8, [.ref pa1, .ref pa2, .ref pa3, .int (nI 4)])), (pa1, .inl (1, 108, .inl zFP)), (pa2, .inl (2, 108, .inl (fun _ => 0))), (pa3, .inl (0, 108, .inl (fun k => nI ((fun _ => 0) k)))), (o1, .inl (3, 1, .inr (.inl (fun _ => 0))))]) (is := [0, 1, 2, 3, 4, 69]) ln_Lw_182 w_st_Lw_part ok_Lw_law_Lw_part d_Lw_law_442 (C_Lw_partN g a pa ta sa gs co fu la gy du re wm ac pa1 pa2 pa3 zFP (fun _ => 0) (fun _ => 0) 4 (zs g 1) hr o1 (fun _ => 0)) rfl rfl (Nat.le_of_ble_eq_true rfl) rfl (by decide) (by omega) (by omega) (fun E cs1 hx => ?_) (fun v cs1 hx => ?_)
  · exact absurd hx.1 (by simp)
  · obtain ⟨e1, rfl⟩ := hx
    cases e1
    refine ⟨rfl, ?_⟩
    refine r_st (st2 := [.int 0]) rfl ?_
    refine r_istore (lv' := [(6, .int 0), (5, .int 0), (4, .ref o2), (3, .ref o1), (2, .ref m), (1, .ref a), (0, .ref (g.2.2 40))]) d_Lw_law_445 (by decide) rfl ?_
    refine r_aload_n d_Lw_law_447 rfl 4 rfl ?_
    refine r_aload_n d_Lw_law_448 rfl 6 rfl ?_
    refine r_iload d_Lw_law_449 1 rfl ?_
    refine r_iconst d_Lw_law_451 (v := 1) (by decide) ?_
    refine r_iadd d_Lw_law_452 (v := 1) rfl ?_
    refine r_sld (v := zs g 1) d_Lw_law_453 (by rw [hL]; exact fun q => q.elim (by decide) (by decide)) rfl ?_
    refine r_callV (As := [.int (zs g 1)]) (rest := []) (csC := [(m, .inr (12, [.int 0, .ref mp, .int 4, .ref mf, .ref mh, .ref mn, .ref mt, .ref mz, .ref mc_, .ref mq, .ref mgr, .int 80, .int 35, .int 30, .int 50, .int 0, .int 0, .ref ml, .ref mi, .ref mr, .int 0, .int 0, .int 0, .int (-1), .int 0, .ref mm, .ref mu, .ref mk, .ref mx, .long 0, .long 0]))]) (is := [52]) (q0 := 52) rfl rfl ln_Lw_185 w_im_Mm_part w_se_Mm_part ok_Lw_law_Mm_part d_Lw_law_454 (C_Mm_partN g m mp mf mh mn mt mz mc_ mq mgr ml mi mr mm mu mk mx 0 4 80 35 30 50 0 0 0 0 0 (-1) 0 0 0 (zs g 1) hw) rfl rfl (Nat.le_of_ble_eq_true rfl) rfl (by decide) (by omega) (by omega) (fun E cs1 hx => ?_) (fun v cs1 hx => ?_)
    · exact absurd hx.1 (by simp)
    · obtain ⟨e1, rfl⟩ := hx
      cases e1
      refine ⟨rfl, ?_⟩
      refine r_st (st2 := [.int 4]) rfl ?_
      refine r_istore (lv' := [(7, .int 4), (6, .int 0), (5, .int 0), (4, .ref o2), (3, .ref o1), (2, .ref m), (1, .ref a), (0, .ref (g.2.2 40))]) d_Lw_law_457 (by decide) rfl ?_
      refine r_aload_n d_Lw_law_459 rfl 5 rfl ?_
      refine r_callV (As := []) (rest := []) (csC := [(m, .inr (12, [.int 0, .ref mp, .int (zs g 1), .ref mf, .ref mh, .ref mn, .ref mt, .ref mz, .ref mc_, .ref mq, .ref mgr, .int 80, .int 35, .int 30, .int 50, .int 0, .int 0, .ref ml, .ref mi, .ref mr, .int 0, .int 0, .int 0, .int (-1), .int 0, .ref mm, .ref mu, .ref mk, .ref mx, .long 0, .long 0]))]) (is := [52]) (q0 := 52) rfl rfl ln_Lw_175 w_im_Mm_thrown w_se_Mm_thrown ok_Lw_law_Mm_thrown d_Lw_law_460 (C_Mm_thrown g m mp mf mh mn mt mz mc_ mq mgr ml mi mr mm mu mk mx 0 (zs g 1) 80 35 30 50 0 0 0 0 0 (-1) 0 0 0) rfl rfl (Nat.le_of_ble_eq_true rfl) rfl (by decide) (by omega) (by omega) (fun E cs1 hx => ?_) (fun v cs1 hx => ?_)
      · exact absurd hx.1 (by simp)
      · obtain ⟨e1, rfl⟩ := hx
        cases e1
        refine ⟨rfl, ?_⟩
        refine r_st (st2 := [.int 0]) rfl ?_
        refine r_iload d_Lw_law_463 1 rfl ?_
        refine r_icmp_eq (tgt := 470) d_Lw_law_465 (by decide) (fun c_465 => ?_) (fun c_465 => ?_)
        · refine r_iload d_Lw_law_470 1 rfl ?_
          refine r_if_ne (tgt := 487) d_Lw_law_472 (by decide) (fun c_472 => ?_) (fun c_472 => ?_)
          · exact absurd c_472 (by decide)
          · refine r_aload_n d_Lw_law_475 rfl 4 rfl ?_
            refine r_iconst d_Lw_law_476 (v := 0) (by decide) ?_
            refine r_lald d_Lw_law_477 (q0 := 69) rfl (fun q => q.elim (by decide) (by decide)) (v := (vp_updL (fun _ => 0) 0 ((nI 4)).toInt64) 0) rfl ?_
            refine r_iload d_Lw_law_478 0 rfl ?_
            refine r_i2l d_Lw_law_480 (v := 4.toInt64) rfl ?_
            refine r_lcmp d_Lw_law_481 (v := 0) (zl_cmp (rfl)) ?_
            refine r_if_eq (tgt := 487) d_Lw_law_482 (by decide) (fun c_482 => ?_) (fun c_482 => ?_)
            · refine r_goto (tgt := 3019) d_Lw_law_487 (by decide) ?_
              refine r_lv (lv' := [(5, .int 0), (0, .ref (g.2.2 40))]) [2, 7] rfl ?_
              exact LW_tail g _ hL _ _ w0 n
            · exact absurd c_482 (by decide)
        · exact absurd c_465 (by decide)
theorem d_Lw_law_490 : decode code 490 = .ok (.aload_n 1, 1) := by decide +kernel
theorem d_Lw_law_491 : decode code 491 = .ok (.invokevirtual 186, 3) := by decide +kernel
theorem ok_Lw_law_Ip_undercut : z_ok M_Lw_law M_Ip_undercut 0 := ⟨z_mem (i := 400) (by decide +kernel) (by decide +kernel), rfl, ⟨by decide +kernel, by decide +kernel, by decide +kernel⟩, ⟨by decide, by decide⟩, z_mem (i := 58) (by decide +kernel) (by decide +kernel), rfl⟩
theorem ln_Lw_186 : Cond.methodLink "IronpourLaw" 186 M_Ip_undercut.1 ∈ z_gw := z_mem (i := 397) (by decide +kernel) (by decide +kernel)
theorem w_im_Ip_undercut : Cond.instanceMethod M_Ip_undercut.1 ∈ z_gw := z_mem (i := 398) (by decide +kernel) (by decide +kernel)
theorem w_se_Ip_undercut : Cond.selects M_Ip_undercut.1.cls M_Ip_undercut.1 M_Ip_undercut.1 ∈ z_gw := z_mem (i := 399) (by decide +kernel) (by decide +kernel)
theorem d_Lw_law_494 : decode code 494 = .ok (.aload_n 2, 1) := by decide +kernel
theorem d_Lw_law_495 : decode code 495 = .ok (.invokevirtual 189, 3) := by decide +kernel
theorem ok_Lw_law_Mm_undercut : z_ok M_Lw_law M_Mm_undercut 0 := ⟨z_mem (i := 1705) (by decide +kernel) (by decide +kernel), rfl, ⟨by decide +kernel, by decide +kernel, by decide +kernel⟩, ⟨by decide, by decide⟩, z_mem (i := 71) (by decide +kernel) (by decide +kernel), rfl⟩
theorem ln_Lw_189 : Cond.methodLink "IronpourLaw" 189 M_Mm_undercut.1 ∈ z_gw := z_mem (i := 1702) (by decide +kernel) (by decide +kernel)
theorem w_im_Mm_undercut : Cond.instanceMethod M_Mm_undercut.1 ∈ z_gw := z_mem (i := 1703) (by decide +kernel) (by decide +kernel)
theorem w_se_Mm_undercut : Cond.selects M_Mm_undercut.1.cls M_Mm_undercut.1 M_Mm_undercut.1 ∈ z_gw := z_mem (i := 1704) (by decide +kernel) (by decide +kernel)
theorem d_Lw_law_498 : decode code 498 = .ok (.if_icmp .eq 2521, 3) := by decide +kernel
set_option maxHeartbeats 4000000 in
set_option maxRecDepth 100000 in
theorem LW_undercut (g : zG) (a pa pa1 pa2 pa3 ta ta1 ta2 taz taz1 taz2 taz3 taz4 taz5 taz6 ta4 ta5 ta6 sa sa1 sa2 saz saz1 saz2 saz3 saz4 saz5 saz6 sa4 sa5 sa6 gs co co1 co2 co3 fu fub fubg fut1 fut2 fut3 la lab labg gy gyg du dug re wm ac m mp mf mh mn mt mz mc_ mq mgr ml mi mr mm mu mk mx o1 o2 : Nat) (hL : g.2.2 41 = 7) (w0 : zW) (n : Nat) : DV g M_Lw_law (lwP) w0 n 490 [(5, .int 0), (4, .ref o2), (3, .ref o1), (2, .ref m), (1, .ref a), (0, .ref (g.2.2 40))] [] (lwCS g a pa pa1 pa2 pa3 ta ta1 ta2 taz taz1 taz2 taz3 taz4 taz5 taz6 ta4 ta5 ta6 sa sa1 sa2 saz saz1 saz2 saz3 saz4 saz5 saz6 sa4 sa5 sa6 gs co co1 co2 co3 fu fub fubg fut1 fut2 fut3 la lab labg gy gyg du dug re wm ac m mp mf mh mn mt mz mc_ mq mgr ml mi mr mm mu mk mx o1 o2) 100 1000 := by
  refine r_aload_n d_Lw_law_490 rfl 4 rfl ?_
  refine r_callV (As := []) (rest := []) (csC := [(a, .inr (11, [.ref pa, .ref ta, .ref sa, .ref gs, .ref co, .ref fu, .ref la, .ref gy, .ref du, .ref re, .ref wm, .ref ac])), (pa, .inr (8, [.ref pa1, .ref pa2, .ref pa3, .int (nI 4)])), (pa1, .inl (1, 108, .inl zFP)), (pa2, .inl (2, 108, .inl (fun _ => 0))), (pa3, .inl (0, 108, .inl (fun k => nI ((fun _ => 0) k))))]) (is := [0, 1, 2, 3, 4]) (q0 := 0) rfl rfl ln_Lw_186 w_im_Ip_undercut w_se_Ip_undercut ok_Lw_law_Ip_undercut d_Lw_law_491 (C_Ip_undercut g a pa ta sa gs co fu la gy du re wm ac pa1 pa2 pa3 zFP (fun _ => 0) (fun _ => 0) 4 (by decide) (by decide)) rfl rfl (Nat.le_of_ble_eq_true rfl) rfl (by decide) (by omega) (by omega) (fun E cs1 hx => ?_) (fun v cs1 hx => ?_)
  · exact absurd hx.1 (by simp)
  · obtain ⟨e1, rfl⟩ := hx
    cases e1
    refine ⟨rfl, ?_⟩
    refine r_st (st2 := [.int (nI (ucT zFP 4 12))]) rfl ?_
    refine r_aload_n d_Lw_law_494 rfl 3 rfl ?_
    refine r_callV (As := []) (rest := [.int (nI (ucT zFP 4 12))]) (csC := [(m, .inr (12, [.int 0, .ref mp, .int 4, .ref mf, .ref mh, .ref mn, .ref mt, .ref mz, .ref mc_, .ref mq, .ref mgr, .int 80, .int 35, .int 30, .int 50, .int 0, .int 0, .ref ml, .ref mi, .ref mr, .int 0, .int 0, .int 0, .int (-1), .int 0, .ref mm, .ref mu, .ref mk, .ref mx, .long 0, .long 0])), (mp, .inl (1, 108, .inl zFP))]) (is := [52, 53]) (q0 := 52) rfl rfl ln_Lw_189 w_im_Mm_undercut w_se_Mm_undercut ok_Lw_law_Mm_undercut d_Lw_law_495 (C_Mm_undercut g m mp mf mh mn mt mz mc_ mq mgr ml mi mr mm mu mk mx 0 80 35 30 50 0 0 0 0 0 (-1) 0 0 0 zFP 4 (by decide) (by decide) zFP_ch) rfl rfl (Nat.le_of_ble_eq_true rfl) rfl (by decide) (by omega) (by omega) (fun E cs1 hx => ?_) (fun v cs1 hx => ?_)
    · exact absurd hx.1 (by simp)
    · obtain ⟨e1, rfl⟩ := hx
      cases e1
      refine ⟨rfl, ?_⟩
      refine r_st (st2 := [.int (nI (ucT zFP 4 12)), .int (nI (ucT zFP 4 12))]) rfl ?_
      refine r_icmp_eq (tgt := 3019) d_Lw_law_498 (by decide) (fun c_498 => ?_) (fun c_498 => ?_)
      · refine r_lv (lv' := [(5, .int 0), (0, .ref (g.2.2 40))]) [0, 5] rfl ?_
        exact LW_tail g _ hL _ _ w0 n
      · exact absurd (rfl) c_498
theorem d_Lw_law_503 : decode code 503 = .ok (.aload_n 1, 1) := by decide +kernel
theorem d_Lw_law_504 : decode code 504 = .ok (.invokevirtual 190, 3) := by decide +kernel
theorem ok_Lw_law_Ip_cores : z_ok M_Lw_law M_Ip_cores 0 := ⟨z_mem (i := 415) (by decide +kernel) (by decide +kernel), rfl, ⟨by decide +kernel, by decide +kernel, by decide +kernel⟩, ⟨by decide, by decide⟩, z_mem (i := 58) (by decide +kernel) (by decide +kernel), rfl⟩
theorem ln_Lw_190 : Cond.methodLink "IronpourLaw" 190 M_Ip_cores.1 ∈ z_gw := z_mem (i := 412) (by decide +kernel) (by decide +kernel)
theorem w_im_Ip_cores : Cond.instanceMethod M_Ip_cores.1 ∈ z_gw := z_mem (i := 413) (by decide +kernel) (by decide +kernel)
theorem w_se_Ip_cores : Cond.selects M_Ip_cores.1.cls M_Ip_cores.1 M_Ip_cores.1 ∈ z_gw := z_mem (i := 414) (by decide +kernel) (by decide +kernel)
theorem d_Lw_law_507 : decode code 507 = .ok (.aload_n 2, 1) := by decide +kernel
theorem d_Lw_law_508 : decode code 508 = .ok (.invokevirtual 193, 3) := by decide +kernel
theorem ok_Lw_law_Mm_cores : z_ok M_Lw_law M_Mm_cores 0 := ⟨z_mem (i := 1715) (by decide +kernel) (by decide +kernel), rfl, ⟨by decide +kernel, by decide +kernel, by decide +kernel⟩, ⟨by decide, by decide⟩, z_mem (i := 71) (by decide +kernel) (by decide +kernel), rfl⟩
theorem ln_Lw_193 : Cond.methodLink "IronpourLaw" 193 M_Mm_cores.1 ∈ z_gw := z_mem (i := 1712) (by decide +kernel) (by decide +kernel)
theorem w_im_Mm_cores : Cond.instanceMethod M_Mm_cores.1 ∈ z_gw := z_mem (i := 1713) (by decide +kernel) (by decide +kernel)
theorem w_se_Mm_cores : Cond.selects M_Mm_cores.1.cls M_Mm_cores.1 M_Mm_cores.1 ∈ z_gw := z_mem (i := 1714) (by decide +kernel) (by decide +kernel)
theorem d_Lw_law_511 : decode code 511 = .ok (.if_icmp .eq 2508, 3) := by decide +kernel
set_option maxHeartbeats 4000000 in
set_option maxRecDepth 100000 in
theorem LW_cores (g : zG) (a pa pa1 pa2 pa3 ta ta1 ta2 taz taz1 taz2 taz3 taz4 taz5 taz6 ta4 ta5 ta6 sa sa1 sa2 saz saz1 saz2 saz3 saz4 saz5 saz6 sa4 sa5 sa6 gs co co1 co2 co3 fu fub fubg fut1 fut2 fut3 la lab labg gy gyg du dug re wm ac m mp mf mh mn mt mz mc_ mq mgr ml mi mr mm mu mk mx o1 o2 : Nat) (hL : g.2.2 41 = 7) (w0 : zW) (n : Nat) : DV g M_Lw_law (lwP) w0 n 503 [(5, .int 0), (4, .ref o2), (3, .ref o1), (2, .ref m), (1, .ref a), (0, .ref (g.2.2 40))] [] (lwCS g a pa pa1 pa2 pa3 ta ta1 ta2 taz taz1 taz2 taz3 taz4 taz5 taz6 ta4 ta5 ta6 sa sa1 sa2 saz saz1 saz2 saz3 saz4 saz5 saz6 sa4 sa5 sa6 gs co co1 co2 co3 fu fub fubg fut1 fut2 fut3 la lab labg gy gyg du dug re wm ac m mp mf mh mn mt mz mc_ mq mgr ml mi mr mm mu mk mx o1 o2) 100 1000 := by
  refine r_aload_n d_Lw_law_503 rfl 4 rfl ?_
  refine r_callV (As := []) (rest := []) (csC := [(a, .inr (11, [.ref pa, .ref ta, .ref sa, .ref gs, .ref co, .ref fu, .ref la, .ref gy, .ref du, .ref re, .ref wm, .ref ac])), (pa, .inr (8, [.ref pa1, .ref pa2, .ref pa3, .int (nI 4)])), (pa1, .inl (1, 108, .inl zFP)), (pa2, .inl (2, 108, .inl (fun _ => 0))), (pa3, .inl (0, 108, .inl (fun k => nI ((fun _ => 0) k))))]) (is := [0, 1, 2, 3, 4]) (q0 := 0) rfl rfl ln_Lw_190 w_im_Ip_cores w_se_Ip_cores ok_Lw_law_Ip_cores d_Lw_law_504 (C_Ip_cores g a pa ta sa gs co fu la gy du re wm ac pa1 pa2 pa3 zFP (fun _ => 0) (fun _ => 0) 4) rfl rfl (Nat.le_of_ble_eq_true rfl) rfl (by decide) (by omega) (by omega) (fun E cs1 hx => ?_) (fun v cs1 hx => ?_)
  · exact absurd hx.1 (by simp)
  · obtain ⟨e1, rfl⟩ := hx
    cases e1
    refine ⟨rfl, ?_⟩
    refine r_st (st2 := [.int (nI (grS zFP 109 (fa_fill (fun _ => 0) (fun _ => 0) 108, (fun _ => 0), 0) 108).2.2)]) rfl ?_
    refine r_aload_n d_Lw_law_507 rfl 3 rfl ?_
    refine r_callV (As := []) (rest := [.int (nI (grS zFP 109 (fa_fill (fun _ => 0) (fun _ => 0) 108, (fun _ => 0), 0) 108).2.2)]) (csC := [(m, .inr (12, [.int 0, .ref mp, .int 4, .ref mf, .ref mh, .ref mn, .ref mt, .ref mz, .ref mc_, .ref mq, .ref mgr, .int 80, .int 35, .int 30, .int 50, .int 0, .int 0, .ref ml, .ref mi, .ref mr, .int 0, .int 0, .int 0, .int (-1), .int 0, .ref mm, .ref mu, .ref mk, .ref mx, .long 0, .long 0])), (mp, .inl (1, 108, .inl zFP)), (mgr, .inl (0, 108, .inl (fun _ => 0)))]) (is := [52, 53, 61]) (q0 := 52) rfl rfl ln_Lw_193 w_im_Mm_cores w_se_Mm_cores ok_Lw_law_Mm_cores d_Lw_law_508 (C_Mm_cores0 g m mp mf mh mn mt mz mc_ mq mgr ml mi mr mm mu mk mx 0 4 80 35 30 50 0 0 0 0 0 (-1) 0 0 0 zFP (fun _ => 0) zFP_at) rfl rfl (Nat.le_of_ble_eq_true rfl) rfl (by decide) (by omega) (by omega) (fun E cs1 hx => ?_) (fun v cs1 hx => ?_)
    · exact absurd hx.1 (by simp)
    · obtain ⟨e1, rfl⟩ := hx
      cases e1
      refine ⟨rfl, ?_⟩
      refine r_st (st2 := [.int 0, .int (nI (grS zFP 109 (fa_fill (fun _ => 0) (fun _ => 0) 108, (fun _ => 0), 0) 108).2.2)]) rfl ?_
      refine r_icmp_eq (tgt := 3019) d_Lw_law_511 (by decide) (fun c_511 => ?_) (fun c_511 => ?_)
      · refine r_lv (lv' := [(5, .int 0), (0, .ref (g.2.2 40))]) [0, 5] rfl ?_
        exact LW_tail g _ hL _ _ w0 n
      · exact absurd (by rw [grS_0 zFP_at 108 (Nat.le_refl _)]; rfl) c_511
theorem d_Lw_law_516 : decode code 516 = .ok (.aload_n 1, 1) := by decide +kernel
theorem d_Lw_law_517 : decode code 517 = .ok (.invokevirtual 194, 3) := by decide +kernel
theorem ok_Lw_law_Ip_loose : z_ok M_Lw_law M_Ip_loose 0 := ⟨z_mem (i := 434) (by decide +kernel) (by decide +kernel), rfl, ⟨by decide +kernel, by decide +kernel, by decide +kernel⟩, ⟨by decide, by decide⟩, z_mem (i := 58) (by decide +kernel) (by decide +kernel), rfl⟩
theorem ln_Lw_194 : Cond.methodLink "IronpourLaw" 194 M_Ip_loose.1 ∈ z_gw := z_mem (i := 431) (by decide +kernel) (by decide +kernel)
theorem w_im_Ip_loose : Cond.instanceMethod M_Ip_loose.1 ∈ z_gw := z_mem (i := 432) (by decide +kernel) (by decide +kernel)
theorem w_se_Ip_loose : Cond.selects M_Ip_loose.1.cls M_Ip_loose.1 M_Ip_loose.1 ∈ z_gw := z_mem (i := 433) (by decide +kernel) (by decide +kernel)
theorem d_Lw_law_520 : decode code 520 = .ok (.aload_n 2, 1) := by decide +kernel
theorem d_Lw_law_521 : decode code 521 = .ok (.invokevirtual 197, 3) := by decide +kernel
theorem ok_Lw_law_Mm_loose : z_ok M_Lw_law M_Mm_loose 0 := ⟨z_mem (i := 1730) (by decide +kernel) (by decide +kernel), rfl, ⟨by decide +kernel, by decide +kernel, by decide +kernel⟩, ⟨by decide, by decide⟩, z_mem (i := 71) (by decide +kernel) (by decide +kernel), rfl⟩
theorem ln_Lw_197 : Cond.methodLink "IronpourLaw" 197 M_Mm_loose.1 ∈ z_gw := z_mem (i := 1727) (by decide +kernel) (by decide +kernel)
theorem w_im_Mm_loose : Cond.instanceMethod M_Mm_loose.1 ∈ z_gw := z_mem (i := 1728) (by decide +kernel) (by decide +kernel)
theorem w_se_Mm_loose : Cond.selects M_Mm_loose.1.cls M_Mm_loose.1 M_Mm_loose.1 ∈ z_gw := z_mem (i := 1729) (by decide +kernel) (by decide +kernel)
theorem d_Lw_law_524 : decode code 524 = .ok (.if_icmp .eq 2495, 3) := by decide +kernel
set_option maxHeartbeats 4000000 in
set_option maxRecDepth 100000 in
theorem LW_loose (g : zG) (a pa pa1 pa2 pa3 ta ta1 ta2 taz taz1 taz2 taz3 taz4 taz5 taz6 ta4 ta5 ta6 sa sa1 sa2 saz saz1 saz2 saz3 saz4 saz5 saz6 sa4 sa5 sa6 gs co co1 co2 co3 fu fub fubg fut1 fut2 fut3 la lab labg gy gyg du dug re wm ac m mp mf mh mn mt mz mc_ mq mgr ml mi mr mm mu mk mx o1 o2 : Nat) (hL : g.2.2 41 = 7) (w0 : zW) (n : Nat) : DV g M_Lw_law (lwP) w0 n 516 [(5, .int 0), (4, .ref o2), (3, .ref o1), (2, .ref m), (1, .ref a), (0, .ref (g.2.2 40))] [] (lwCS g a pa pa1 pa2 pa3 ta ta1 ta2 taz taz1 taz2 taz3 taz4 taz5 taz6 ta4 ta5 ta6 sa sa1 sa2 saz saz1 saz2 saz3 saz4 saz5 saz6 sa4 sa5 sa6 gs co co1 co2 co3 fu fub fubg fut1 fut2 fut3 la lab labg gy gyg du dug re wm ac m mp mf mh mn mt mz mc_ mq mgr ml mi mr mm mu mk mx o1 o2) 100 1000 := by
  refine r_aload_n d_Lw_law_516 rfl 4 rfl ?_
  refine r_callV (As := []) (rest := []) (csC := [(a, .inr (11, [.ref pa, .ref ta, .ref sa, .ref gs, .ref co, .ref fu, .ref la, .ref gy, .ref du, .ref re, .ref wm, .ref ac])), (pa, .inr (8, [.ref pa1, .ref pa2, .ref pa3, .int (nI 4)])), (pa1, .inl (1, 108, .inl zFP)), (pa2, .inl (2, 108, .inl (fun _ => 0))), (pa3, .inl (0, 108, .inl (fun k => nI ((fun _ => 0) k))))]) (is := [0, 1, 2, 3, 4]) (q0 := 0) rfl rfl ln_Lw_194 w_im_Ip_loose w_se_Ip_loose ok_Lw_law_Ip_loose d_Lw_law_517 (C_Ip_loose g a pa ta sa gs co fu la gy du re wm ac pa1 pa2 pa3 zFP (fun _ => 0) (fun _ => 0) 4) rfl rfl (Nat.le_of_ble_eq_true rfl) rfl (by decide) (by omega) (by omega) (fun E cs1 hx => ?_) (fun v cs1 hx => ?_)
  · exact absurd hx.1 (by simp)
  · obtain ⟨e1, rfl⟩ := hx
    cases e1
    refine ⟨rfl, ?_⟩
    refine r_st (st2 := [.int (nI (grS zFP 2 (fa_fill (fun _ => 0) (fun _ => 0) 108, (fun _ => 0), 0) 108).2.2)]) rfl ?_
    refine r_aload_n d_Lw_law_520 rfl 3 rfl ?_
    refine r_callV (As := []) (rest := [.int (nI (grS zFP 2 (fa_fill (fun _ => 0) (fun _ => 0) 108, (fun _ => 0), 0) 108).2.2)]) (csC := [(m, .inr (12, [.int 0, .ref mp, .int 4, .ref mf, .ref mh, .ref mn, .ref mt, .ref mz, .ref mc_, .ref mq, .ref mgr, .int 80, .int 35, .int 30, .int 50, .int 0, .int 0, .ref ml, .ref mi, .ref mr, .int 0, .int 0, .int 0, .int (-1), .int 0, .ref mm, .ref mu, .ref mk, .ref mx, .long 0, .long 0])), (mp, .inl (1, 108, .inl zFP)), (mgr, .inl (0, 108, .inl (fun _ => 0)))]) (is := [52, 53, 61]) (q0 := 52) rfl rfl ln_Lw_197 w_im_Mm_loose w_se_Mm_loose ok_Lw_law_Mm_loose d_Lw_law_521 (C_Mm_loose0 g m mp mf mh mn mt mz mc_ mq mgr ml mi mr mm mu mk mx 0 4 80 35 30 50 0 0 0 0 0 (-1) 0 0 0 zFP (fun _ => 0) zFP_at) rfl rfl (Nat.le_of_ble_eq_true rfl) rfl (by decide) (by omega) (by omega) (fun E cs1 hx => ?_) (fun v cs1 hx => ?_)
    · exact absurd hx.1 (by simp)
    · obtain ⟨e1, rfl⟩ := hx
      cases e1
      refine ⟨rfl, ?_⟩
      refine r_st (st2 := [.int 0, .int (nI (grS zFP 2 (fa_fill (fun _ => 0) (fun _ => 0) 108, (fun _ => 0), 0) 108).2.2)]) rfl ?_
      refine r_icmp_eq (tgt := 3019) d_Lw_law_524 (by decide) (fun c_524 => ?_) (fun c_524 => ?_)
      · refine r_lv (lv' := [(5, .int 0), (0, .ref (g.2.2 40))]) [0, 5] rfl ?_
        exact LW_tail g _ hL _ _ w0 n
      · exact absurd (by rw [grS_0 zFP_at 108 (Nat.le_refl _)]; rfl) c_524
theorem d_Lw_law_529 : decode code 529 = .ok (.aload_n 1, 1) := by decide +kernel
theorem d_Lw_law_530 : decode code 530 = .ok (.invokevirtual 198, 3) := by decide +kernel
theorem ok_Lw_law_Ip_weight : z_ok M_Lw_law M_Ip_weight 0 := ⟨z_mem (i := 442) (by decide +kernel) (by decide +kernel), rfl, ⟨by decide +kernel, by decide +kernel, by decide +kernel⟩, ⟨by decide, by decide⟩, z_mem (i := 58) (by decide +kernel) (by decide +kernel), rfl⟩
theorem ln_Lw_198 : Cond.methodLink "IronpourLaw" 198 M_Ip_weight.1 ∈ z_gw := z_mem (i := 439) (by decide +kernel) (by decide +kernel)
theorem w_im_Ip_weight : Cond.instanceMethod M_Ip_weight.1 ∈ z_gw := z_mem (i := 440) (by decide +kernel) (by decide +kernel)
theorem w_se_Ip_weight : Cond.selects M_Ip_weight.1.cls M_Ip_weight.1 M_Ip_weight.1 ∈ z_gw := z_mem (i := 441) (by decide +kernel) (by decide +kernel)
theorem d_Lw_law_533 : decode code 533 = .ok (.aload_n 2, 1) := by decide +kernel
theorem d_Lw_law_534 : decode code 534 = .ok (.invokevirtual 201, 3) := by decide +kernel
theorem ok_Lw_law_Mm_weight : z_ok M_Lw_law M_Mm_weight 0 := ⟨z_mem (i := 1741) (by decide +kernel) (by decide +kernel), rfl, ⟨by decide +kernel, by decide +kernel, by decide +kernel⟩, ⟨by decide, by decide⟩, z_mem (i := 71) (by decide +kernel) (by decide +kernel), rfl⟩
theorem ln_Lw_201 : Cond.methodLink "IronpourLaw" 201 M_Mm_weight.1 ∈ z_gw := z_mem (i := 1738) (by decide +kernel) (by decide +kernel)
theorem w_im_Mm_weight : Cond.instanceMethod M_Mm_weight.1 ∈ z_gw := z_mem (i := 1739) (by decide +kernel) (by decide +kernel)
theorem w_se_Mm_weight : Cond.selects M_Mm_weight.1.cls M_Mm_weight.1 M_Mm_weight.1 ∈ z_gw := z_mem (i := 1740) (by decide +kernel) (by decide +kernel)
theorem d_Lw_law_537 : decode code 537 = .ok (.if_icmp .eq 2482, 3) := by decide +kernel
set_option maxHeartbeats 4000000 in
set_option maxRecDepth 100000 in
theorem LW_weight (g : zG) (a pa pa1 pa2 pa3 ta ta1 ta2 taz taz1 taz2 taz3 taz4 taz5 taz6 ta4 ta5 ta6 sa sa1 sa2 saz saz1 saz2 saz3 saz4 saz5 saz6 sa4 sa5 sa6 gs co co1 co2 co3 fu fub fubg fut1 fut2 fut3 la lab labg gy gyg du dug re wm ac m mp mf mh mn mt mz mc_ mq mgr ml mi mr mm mu mk mx o1 o2 : Nat) (hL : g.2.2 41 = 7) (w0 : zW) (n : Nat) : DV g M_Lw_law (lwP) w0 n 529 [(5, .int 0), (4, .ref o2), (3, .ref o1), (2, .ref m), (1, .ref a), (0, .ref (g.2.2 40))] [] (lwCS g a pa pa1 pa2 pa3 ta ta1 ta2 taz taz1 taz2 taz3 taz4 taz5 taz6 ta4 ta5 ta6 sa sa1 sa2 saz saz1 saz2 saz3 saz4 saz5 saz6 sa4 sa5 sa6 gs co co1 co2 co3 fu fub fubg fut1 fut2 fut3 la lab labg gy gyg du dug re wm ac m mp mf mh mn mt mz mc_ mq mgr ml mi mr mm mu mk mx o1 o2) 100 1000 := by
  refine r_aload_n d_Lw_law_529 rfl 4 rfl ?_
  refine r_callV (As := []) (rest := []) (csC := [(a, .inr (11, [.ref pa, .ref ta, .ref sa, .ref gs, .ref co, .ref fu, .ref la, .ref gy, .ref du, .ref re, .ref wm, .ref ac])), (pa, .inr (8, [.ref pa1, .ref pa2, .ref pa3, .int (nI 4)])), (pa1, .inl (1, 108, .inl zFP)), (pa2, .inl (2, 108, .inl (fun _ => 0))), (pa3, .inl (0, 108, .inl (fun k => nI ((fun _ => 0) k))))]) (is := [0, 1, 2, 3, 4]) (q0 := 0) rfl rfl ln_Lw_198 w_im_Ip_weight w_se_Ip_weight ok_Lw_law_Ip_weight d_Lw_law_530 (C_Ip_weight g a pa ta sa gs co fu la gy du re wm ac pa1 pa2 pa3 zFP (fun _ => 0) (fun _ => 0) 4) rfl rfl (Nat.le_of_ble_eq_true rfl) rfl (by decide) (by omega) (by omega) (fun E cs1 hx => ?_) (fun v cs1 hx => ?_)
  · exact absurd hx.1 (by simp)
  · obtain ⟨e1, rfl⟩ := hx
    cases e1
    refine ⟨rfl, ?_⟩
    refine r_st (st2 := [.int (2 * nI (fa_cnt (fun k => tmB (zFP k)) 108))]) rfl ?_
    refine r_aload_n d_Lw_law_533 rfl 3 rfl ?_
    refine r_callV (As := []) (rest := [.int (2 * nI (fa_cnt (fun k => tmB (zFP k)) 108))]) (csC := [(m, .inr (12, [.int 0, .ref mp, .int 4, .ref mf, .ref mh, .ref mn, .ref mt, .ref mz, .ref mc_, .ref mq, .ref mgr, .int 80, .int 35, .int 30, .int 50, .int 0, .int 0, .ref ml, .ref mi, .ref mr, .int 0, .int 0, .int 0, .int (-1), .int 0, .ref mm, .ref mu, .ref mk, .ref mx, .long 0, .long 0])), (mp, .inl (1, 108, .inl zFP))]) (is := [52, 53]) (q0 := 52) rfl rfl ln_Lw_201 w_im_Mm_weight w_se_Mm_weight ok_Lw_law_Mm_weight d_Lw_law_534 (C_Mm_weight g m mp mf mh mn mt mz mc_ mq mgr ml mi mr mm mu mk mx 0 4 80 35 30 50 0 0 0 0 0 (-1) 0 0 0 zFP) rfl rfl (Nat.le_of_ble_eq_true rfl) rfl (by decide) (by omega) (by omega) (fun E cs1 hx => ?_) (fun v cs1 hx => ?_)
    · exact absurd hx.1 (by simp)
    · obtain ⟨e1, rfl⟩ := hx
      cases e1
      refine ⟨rfl, ?_⟩
      refine r_st (st2 := [.int (2 * nI (fa_cnt (fun k => tmB (zFP k)) 108)), .int (2 * nI (fa_cnt (fun k => tmB (zFP k)) 108))]) rfl ?_
      refine r_icmp_eq (tgt := 3019) d_Lw_law_537 (by decide) (fun c_537 => ?_) (fun c_537 => ?_)
      · refine r_lv (lv' := [(5, .int 0), (0, .ref (g.2.2 40))]) [0, 5] rfl ?_
        exact LW_tail g _ hL _ _ w0 n
      · exact absurd (rfl) c_537
theorem d_Lw_law_542 : decode code 542 = .ok (.aload_n 1, 1) := by decide +kernel
theorem d_Lw_law_543 : decode code 543 = .ok (.aload_n 0, 1) := by decide +kernel
theorem d_Lw_law_544 : decode code 544 = .ok (.iload 5, 2) := by decide +kernel
theorem d_Lw_law_546 : decode code 546 = .ok (.iconst 1, 1) := by decide +kernel
theorem d_Lw_law_547 : decode code 547 = .ok (.iadd, 1) := by decide +kernel
theorem d_Lw_law_548 : decode code 548 = .ok (.iaload, 1) := by decide +kernel
theorem d_Lw_law_549 : decode code 549 = .ok (.aload_n 0, 1) := by decide +kernel
theorem d_Lw_law_550 : decode code 550 = .ok (.iload 5, 2) := by decide +kernel
theorem d_Lw_law_552 : decode code 552 = .ok (.iconst 2, 1) := by decide +kernel
theorem d_Lw_law_553 : decode code 553 = .ok (.iadd, 1) := by decide +kernel
theorem d_Lw_law_554 : decode code 554 = .ok (.iaload, 1) := by decide +kernel
theorem d_Lw_law_555 : decode code 555 = .ok (.aload_n 3, 1) := by decide +kernel
theorem d_Lw_law_556 : decode code 556 = .ok (.invokestatic 202, 3) := by decide +kernel
theorem ok_Lw_law_Lw_filledIn : z_okX M_Lw_law M_Lw_filledIn 4 := ⟨z_mem (i := 823) (by decide +kernel) (by decide +kernel), by decide, ⟨by decide +kernel, by decide +kernel, by decide +kernel⟩, ⟨by decide, by decide⟩, z_mem (i := 57) (by decide +kernel) (by decide +kernel), rfl⟩
theorem ln_Lw_202 : Cond.methodLink "IronpourLaw" 202 M_Lw_filledIn.1 ∈ z_gw := z_mem (i := 821) (by decide +kernel) (by decide +kernel)
theorem w_st_Lw_filledIn : Cond.static M_Lw_filledIn.1 ∈ z_gw := z_mem (i := 822) (by decide +kernel) (by decide +kernel)
theorem d_Lw_law_559 : decode code 559 = .ok (.istore 6, 2) := by decide +kernel
theorem d_Lw_law_561 : decode code 561 = .ok (.aload_n 2, 1) := by decide +kernel
theorem d_Lw_law_562 : decode code 562 = .ok (.aload_n 0, 1) := by decide +kernel
theorem d_Lw_law_563 : decode code 563 = .ok (.iload 5, 2) := by decide +kernel
theorem d_Lw_law_565 : decode code 565 = .ok (.iconst 1, 1) := by decide +kernel
theorem d_Lw_law_566 : decode code 566 = .ok (.iadd, 1) := by decide +kernel
theorem d_Lw_law_567 : decode code 567 = .ok (.iaload, 1) := by decide +kernel
theorem d_Lw_law_568 : decode code 568 = .ok (.aload_n 0, 1) := by decide +kernel
theorem d_Lw_law_569 : decode code 569 = .ok (.iload 5, 2) := by decide +kernel
theorem d_Lw_law_571 : decode code 571 = .ok (.iconst 2, 1) := by decide +kernel
theorem d_Lw_law_572 : decode code 572 = .ok (.iadd, 1) := by decide +kernel
theorem d_Lw_law_573 : decode code 573 = .ok (.iaload, 1) := by decide +kernel
theorem d_Lw_law_574 : decode code 574 = .ok (.invokevirtual 204, 3) := by decide +kernel
theorem ok_Lw_law_Mm_filledIn : z_ok M_Lw_law M_Mm_filledIn 2 := ⟨z_mem (i := 1748) (by decide +kernel) (by decide +kernel), rfl, ⟨by decide +kernel, by decide +kernel, by decide +kernel⟩, ⟨by decide, by decide⟩, z_mem (i := 71) (by decide +kernel) (by decide +kernel), rfl⟩
theorem ln_Lw_204 : Cond.methodLink "IronpourLaw" 204 M_Mm_filledIn.1 ∈ z_gw := z_mem (i := 1745) (by decide +kernel) (by decide +kernel)
theorem w_im_Mm_filledIn : Cond.instanceMethod M_Mm_filledIn.1 ∈ z_gw := z_mem (i := 1746) (by decide +kernel) (by decide +kernel)
theorem w_se_Mm_filledIn : Cond.selects M_Mm_filledIn.1.cls M_Mm_filledIn.1 M_Mm_filledIn.1 ∈ z_gw := z_mem (i := 1747) (by decide +kernel) (by decide +kernel)
theorem d_Lw_law_577 : decode code 577 = .ok (.istore 7, 2) := by decide +kernel
theorem d_Lw_law_579 : decode code 579 = .ok (.aload_n 2, 1) := by decide +kernel
theorem d_Lw_law_580 : decode code 580 = .ok (.invokevirtual 175, 3) := by decide +kernel
theorem d_Lw_law_583 : decode code 583 = .ok (.iload 6, 2) := by decide +kernel
theorem d_Lw_law_585 : decode code 585 = .ok (.if_icmp .eq 5, 3) := by decide +kernel
theorem d_Lw_law_590 : decode code 590 = .ok (.iload 6, 2) := by decide +kernel
theorem d_Lw_law_592 : decode code 592 = .ok (.ifCond .ne 15, 3) := by decide +kernel
theorem d_Lw_law_607 : decode code 607 = .ok (.goto 2412, 3) := by decide +kernel
set_option maxHeartbeats 4000000 in
set_option maxRecDepth 100000 in
theorem LW_filledInE (g : zG) (a pa pa1 pa2 pa3 ta ta1 ta2 taz taz1 taz2 taz3 taz4 taz5 taz6 ta4 ta5 ta6 sa sa1 sa2 saz saz1 saz2 saz3 saz4 saz5 saz6 sa4 sa5 sa6 gs co co1 co2 co3 fu fub fubg fut1 fut2 fut3 la lab labg gy gyg du dug re wm ac m mp mf mh mn mt mz mc_ mq mgr ml mi mr mm mu mk mx o1 o2 : Nat) (hL : g.2.2 41 = 7) (hz : z_cl (zs g 1) (zs g 2) = none) (w0 : zW) (n : Nat) : DV g M_Lw_law (lwP) w0 n 542 [(5, .int 0), (4, .ref o2), (3, .ref o1), (2, .ref m), (1, .ref a), (0, .ref (g.2.2 40))] [] (lwCS g a pa pa1 pa2 pa3 ta ta1 ta2 taz taz1 taz2 taz3 taz4 taz5 taz6 ta4 ta5 ta6 sa sa1 sa2 saz saz1 saz2 saz3 saz4 saz5 saz6 sa4 sa5 sa6 gs co co1 co2 co3 fu fub fubg fut1 fut2 fut3 la lab labg gy gyg du dug re wm ac m mp mf mh mn mt mz mc_ mq mgr ml mi mr mm mu mk mx o1 o2) 100 1000 := by
  refine r_aload_n d_Lw_law_542 rfl 4 rfl ?_
  refine r_aload_n d_Lw_law_543 rfl 5 rfl ?_
  refine r_iload d_Lw_law_544 0 rfl ?_
  refine r_iconst d_Lw_law_546 (v := 1) (by decide) ?_
  refine r_iadd d_Lw_law_547 (v := 1) rfl ?_
  refine r_sld (v := zs g 1) d_Lw_law_548 (by rw [hL]; exact fun q => q.elim (by decide) (by decide)) rfl ?_
  refine r_aload_n d_Lw_law_549 rfl 5 rfl ?_
  refine r_iload d_Lw_law_550 0 rfl ?_
  refine r_iconst d_Lw_law_552 (v := 2) (by decide) ?_
  refine r_iadd d_Lw_law_553 (v := 2) rfl ?_
  refine r_sld (v := zs g 2) d_Lw_law_554 (by rw [hL]; exact fun q => q.elim (by decide) (by decide)) rfl ?_
  refine r_aload_n d_Lw_law_555 rfl 2 rfl ?_
  refine r_callSX (As := [.ref a, .int (zs g 1), .int (zs g 2), .ref o1]) (rest := []) (csC := [(a, .inr (11, [.ref pa, .ref ta, .ref sa, .ref gs, .ref co, .ref fu, .ref la, .ref gy, .ref du, .ref re, .ref wm, .ref ac])), (ta, .inr (10, [.ref ta1, .ref ta2, .ref taz, .ref ta4, .ref ta5, .ref ta6, .int zX0.1.2.2.1, .int zX0.1.2.2.2])), (ta1, .inl (1, 108, .inl zX0.1.1)), (ta2, .inl (0, 108, .inl zX0.1.2.1)), (taz, .inr (2, [.ref taz1, .ref taz2, .ref taz3, .ref taz4, .ref taz5, .ref taz6, .int zX0.2.1.1.1.2.2.2])), (taz1, .inl (0, 108, .inl zX0.2.1.1.1.1)), (taz2, .inl (0, 108, .inl zX0.2.1.1.2)), (taz3, .inl (0, 108, .inl zX0.2.1.1.1.2.1)), (taz4, .inl (0, 108, .inl zX0.2.1.1.1.2.2.1)), (taz5, .inl (0, 108, .inl zX0.2.1.2.1)), (taz6, .inl (0, 108, .inl zX0.2.1.2.2)), (ta4, .inl (2, 108, .inl zX0.2.2.1)), (ta5, .inl (2, 108, .inl zX0.2.2.2.1)), (ta6, .inl (0, 108, .inl (fun k => nI (zX0.2.2.2.2 k)))), (o1, .inl (3, 1, .inr (.inl (fun _ => 0))))]) (is := [0, 5, 6, 7, 8, 9, 10, 11, 12, 13, 14, 15, 16, 17, 69]) ln_Lw_202 w_st_Lw_filledIn ok_Lw_law_Lw_filledIn d_Lw_law_556 (C_Lw_filledInE g a pa ta sa gs co fu la gy du re wm ac ta1 ta2 taz taz1 taz2 taz3 taz4 taz5 taz6 ta4 ta5 ta6 zX0 (zs g 1) (zs g 2) hz o1 (fun _ => 0)) rfl rfl (Nat.le_of_ble_eq_true rfl) rfl (by decide) (by omega) (by omega) (fun E cs1 hx => ?_) (fun v cs1 hx => ?_)
  · exact absurd hx.1 (by simp)
  · obtain ⟨e1, rfl⟩ := hx
    cases e1
    refine ⟨rfl, ?_⟩
    refine r_st (st2 := [.int 1]) rfl ?_
    refine r_istore (lv' := [(6, .int 1), (5, .int 0), (4, .ref o2), (3, .ref o1), (2, .ref m), (1, .ref a), (0, .ref (g.2.2 40))]) d_Lw_law_559 (by decide) rfl ?_
    refine r_aload_n d_Lw_law_561 rfl 4 rfl ?_
    refine r_aload_n d_Lw_law_562 rfl 6 rfl ?_
    refine r_iload d_Lw_law_563 1 rfl ?_
    refine r_iconst d_Lw_law_565 (v := 1) (by decide) ?_
    refine r_iadd d_Lw_law_566 (v := 1) rfl ?_
    refine r_sld (v := zs g 1) d_Lw_law_567 (by rw [hL]; exact fun q => q.elim (by decide) (by decide)) rfl ?_
    refine r_aload_n d_Lw_law_568 rfl 6 rfl ?_
    refine r_iload d_Lw_law_569 1 rfl ?_
    refine r_iconst d_Lw_law_571 (v := 2) (by decide) ?_
    refine r_iadd d_Lw_law_572 (v := 2) rfl ?_
    refine r_sld (v := zs g 2) d_Lw_law_573 (by rw [hL]; exact fun q => q.elim (by decide) (by decide)) rfl ?_
    refine r_callV (As := [.int (zs g 1), .int (zs g 2)]) (rest := []) (csC := [(m, .inr (12, [.int 0, .ref mp, .int 4, .ref mf, .ref mh, .ref mn, .ref mt, .ref mz, .ref mc_, .ref mq, .ref mgr, .int 80, .int 35, .int 30, .int 50, .int 0, .int 0, .ref ml, .ref mi, .ref mr, .int 0, .int 0, .int 0, .int (-1), .int 0, .ref mm, .ref mu, .ref mk, .ref mx, .long 0, .long 0])), (mp, .inl (1, 108, .inl zFP))]) (is := [52, 53]) (q0 := 52) rfl rfl ln_Lw_204 w_im_Mm_filledIn w_se_Mm_filledIn ok_Lw_law_Mm_filledIn d_Lw_law_574 (C_Mm_filledInE g m mp mf mh mn mt mz mc_ mq mgr ml mi mr mm mu mk mx 0 4 80 35 30 50 0 0 0 0 0 (-1) 0 0 0 zFP (zs g 1) (zs g 2) hz) rfl rfl (Nat.le_of_ble_eq_true rfl) rfl (by decide) (by omega) (by omega) (fun E cs1 hx => ?_) (fun v cs1 hx => ?_)
    · exact absurd hx.1 (by simp)
    · obtain ⟨e1, rfl⟩ := hx
      cases e1
      refine ⟨rfl, ?_⟩
      refine r_st (st2 := [.int 0]) rfl ?_
      refine r_istore (lv' := [(7, .int 0), (6, .int 1), (5, .int 0), (4, .ref o2), (3, .ref o1), (2, .ref m), (1, .ref a), (0, .ref (g.2.2 40))]) d_Lw_law_577 (by decide) rfl ?_
      refine r_aload_n d_Lw_law_579 rfl 5 rfl ?_
      refine r_callV (As := []) (rest := []) (csC := [(m, .inr (12, [.int 1, .ref mp, .int 4, .ref mf, .ref mh, .ref mn, .ref mt, .ref mz, .ref mc_, .ref mq, .ref mgr, .int 80, .int 35, .int 30, .int 50, .int 0, .int 0, .ref ml, .ref mi, .ref mr, .int 0, .int 0, .int 0, .int (-1), .int 0, .ref mm, .ref mu, .ref mk, .ref mx, .long 0, .long 0]))]) (is := [52]) (q0 := 52) rfl rfl ln_Lw_175 w_im_Mm_thrown w_se_Mm_thrown ok_Lw_law_Mm_thrown d_Lw_law_580 (C_Mm_thrown g m mp mf mh mn mt mz mc_ mq mgr ml mi mr mm mu mk mx 1 4 80 35 30 50 0 0 0 0 0 (-1) 0 0 0) rfl rfl (Nat.le_of_ble_eq_true rfl) rfl (by decide) (by omega) (by omega) (fun E cs1 hx => ?_) (fun v cs1 hx => ?_)
      · exact absurd hx.1 (by simp)
      · obtain ⟨e1, rfl⟩ := hx
        cases e1
        refine ⟨rfl, ?_⟩
        refine r_st (st2 := [.int 1]) rfl ?_
        refine r_iload d_Lw_law_583 1 rfl ?_
        refine r_icmp_eq (tgt := 590) d_Lw_law_585 (by decide) (fun c_585 => ?_) (fun c_585 => ?_)
        · refine r_iload d_Lw_law_590 1 rfl ?_
          refine r_if_ne (tgt := 607) d_Lw_law_592 (by decide) (fun c_592 => ?_) (fun c_592 => ?_)
          · refine r_goto (tgt := 3019) d_Lw_law_607 (by decide) ?_
            refine r_lv (lv' := [(5, .int 0), (0, .ref (g.2.2 40))]) [2, 7] rfl ?_
            exact LW_tail g _ hL _ _ w0 n
          · exact absurd c_592 (by decide)
        · exact absurd c_585 (by decide)
theorem d_Lw_law_595 : decode code 595 = .ok (.aload_n 3, 1) := by decide +kernel
theorem d_Lw_law_596 : decode code 596 = .ok (.iconst 0, 1) := by decide +kernel
theorem d_Lw_law_597 : decode code 597 = .ok (.laload, 1) := by decide +kernel
theorem d_Lw_law_598 : decode code 598 = .ok (.iload 7, 2) := by decide +kernel
theorem d_Lw_law_600 : decode code 600 = .ok (.i2l, 1) := by decide +kernel
theorem d_Lw_law_601 : decode code 601 = .ok (.lcmp, 1) := by decide +kernel
theorem d_Lw_law_602 : decode code 602 = .ok (.ifCond .eq 5, 3) := by decide +kernel
set_option maxHeartbeats 4000000 in
set_option maxRecDepth 100000 in
theorem LW_filledInN (g : zG) (a pa pa1 pa2 pa3 ta ta1 ta2 taz taz1 taz2 taz3 taz4 taz5 taz6 ta4 ta5 ta6 sa sa1 sa2 saz saz1 saz2 saz3 saz4 saz5 saz6 sa4 sa5 sa6 gs co co1 co2 co3 fu fub fubg fut1 fut2 fut3 la lab labg gy gyg du dug re wm ac m mp mf mh mn mt mz mc_ mq mgr ml mi mr mm mu mk mx o1 o2 : Nat) (hL : g.2.2 41 = 7) (x y : Nat) (hx0 : x < 12) (hy0 : y < 9) (e1 : zs g 1 = nI x) (e2 : zs g 2 = nI y) (w0 : zW) (n : Nat) : DV g M_Lw_law (lwP) w0 n 542 [(5, .int 0), (4, .ref o2), (3, .ref o1), (2, .ref m), (1, .ref a), (0, .ref (g.2.2 40))] [] (lwCS g a pa pa1 pa2 pa3 ta ta1 ta2 taz taz1 taz2 taz3 taz4 taz5 taz6 ta4 ta5 ta6 sa sa1 sa2 saz saz1 saz2 saz3 saz4 saz5 saz6 sa4 sa5 sa6 gs co co1 co2 co3 fu fub fubg fut1 fut2 fut3 la lab labg gy gyg du dug re wm ac m mp mf mh mn mt mz mc_ mq mgr ml mi mr mm mu mk mx o1 o2) 100 1000 := by
  refine r_aload_n d_Lw_law_542 rfl 4 rfl ?_
  refine r_aload_n d_Lw_law_543 rfl 5 rfl ?_
  refine r_iload d_Lw_law_544 0 rfl ?_
  refine r_iconst d_Lw_law_546 (v := 1) (by decide) ?_
  refine r_iadd d_Lw_law_547 (v := 1) rfl ?_
  refine r_sld (v := nI x) d_Lw_law_548 (by rw [hL]; exact fun q => q.elim (by decide) (by decide)) e1 ?_
  refine r_aload_n d_Lw_law_549 rfl 5 rfl ?_
  refine r_iload d_Lw_law_550 0 rfl ?_
  refine r_iconst d_Lw_law_552 (v := 2) (by decide) ?_
  refine r_iadd d_Lw_law_553 (v := 2) rfl ?_
  refine r_sld (v := nI y) d_Lw_law_554 (by rw [hL]; exact fun q => q.elim (by decide) (by decide)) e2 ?_
  refine r_aload_n d_Lw_law_555 rfl 2 rfl ?_
  refine r_callSX (As := [.ref a, .int (nI x), .int (nI y), .ref o1]) (rest := []) (csC := [(a, .inr (11, [.ref pa, .ref ta, .ref sa, .ref gs, .ref co, .ref fu, .ref la, .ref gy, .ref du, .ref re, .ref wm, .ref ac])), (ta, .inr (10, [.ref ta1, .ref ta2, .ref taz, .ref ta4, .ref ta5, .ref ta6, .int zX0.1.2.2.1, .int zX0.1.2.2.2])), (ta1, .inl (1, 108, .inl zX0.1.1)), (ta2, .inl (0, 108, .inl zX0.1.2.1)), (taz, .inr (2, [.ref taz1, .ref taz2, .ref taz3, .ref taz4, .ref taz5, .ref taz6, .int zX0.2.1.1.1.2.2.2])), (taz1, .inl (0, 108, .inl zX0.2.1.1.1.1)), (taz2, .inl (0, 108, .inl zX0.2.1.1.2)), (taz3, .inl (0, 108, .inl zX0.2.1.1.1.2.1)), (taz4, .inl (0, 108, .inl zX0.2.1.1.1.2.2.1)), (taz5, .inl (0, 108, .inl zX0.2.1.2.1)), (taz6, .inl (0, 108, .inl zX0.2.1.2.2)), (ta4, .inl (2, 108, .inl zX0.2.2.1)), (ta5, .inl (2, 108, .inl zX0.2.2.2.1)), (ta6, .inl (0, 108, .inl (fun k => nI (zX0.2.2.2.2 k)))), (o1, .inl (3, 1, .inr (.inl (fun _ => 0))))]) (is := [0, 5, 6, 7, 8, 9, 10, 11, 12, 13, 14, 15, 16, 17, 69]) ln_Lw_202 w_st_Lw_filledIn ok_Lw_law_Lw_filledIn d_Lw_law_556 (C_Lw_filledInN g a pa ta sa gs co fu la gy du re wm ac ta1 ta2 taz taz1 taz2 taz3 taz4 taz5 taz6 ta4 ta5 ta6 zX0 (nI x) (nI y) (12 * y + x) (z_clI hx0 hy0) o1 (fun _ => 0)) rfl rfl (Nat.le_of_ble_eq_true rfl) rfl (by decide) (by omega) (by omega) (fun E cs1 hx => ?_) (fun v cs1 hx => ?_)
  · exact absurd hx.1 (by simp)
  · obtain ⟨e1, rfl⟩ := hx
    cases e1
    refine ⟨rfl, ?_⟩
    refine r_st (st2 := [.int 0]) rfl ?_
    refine r_istore (lv' := [(6, .int 0), (5, .int 0), (4, .ref o2), (3, .ref o1), (2, .ref m), (1, .ref a), (0, .ref (g.2.2 40))]) d_Lw_law_559 (by decide) rfl ?_
    refine r_aload_n d_Lw_law_561 rfl 4 rfl ?_
    refine r_aload_n d_Lw_law_562 rfl 6 rfl ?_
    refine r_iload d_Lw_law_563 1 rfl ?_
    refine r_iconst d_Lw_law_565 (v := 1) (by decide) ?_
    refine r_iadd d_Lw_law_566 (v := 1) rfl ?_
    refine r_sld (v := nI x) d_Lw_law_567 (by rw [hL]; exact fun q => q.elim (by decide) (by decide)) e1 ?_
    refine r_aload_n d_Lw_law_568 rfl 6 rfl ?_
    refine r_iload d_Lw_law_569 1 rfl ?_
    refine r_iconst d_Lw_law_571 (v := 2) (by decide) ?_
    refine r_iadd d_Lw_law_572 (v := 2) rfl ?_
    refine r_sld (v := nI y) d_Lw_law_573 (by rw [hL]; exact fun q => q.elim (by decide) (by decide)) e2 ?_
    refine r_callV (As := [.int (nI x), .int (nI y)]) (rest := []) (csC := [(m, .inr (12, [.int 0, .ref mp, .int 4, .ref mf, .ref mh, .ref mn, .ref mt, .ref mz, .ref mc_, .ref mq, .ref mgr, .int 80, .int 35, .int 30, .int 50, .int 0, .int 0, .ref ml, .ref mi, .ref mr, .int 0, .int 0, .int 0, .int (-1), .int 0, .ref mm, .ref mu, .ref mk, .ref mx, .long 0, .long 0])), (mp, .inl (1, 108, .inl zFP)), (mf, .inl (0, 108, .inl (fun _ => 0)))]) (is := [52, 53, 54]) (q0 := 52) rfl rfl ln_Lw_204 w_im_Mm_filledIn w_se_Mm_filledIn ok_Lw_law_Mm_filledIn d_Lw_law_574 (C_Mm_filledIn0 g m mp mf mh mn mt mz mc_ mq mgr ml mi mr mm mu mk mx 0 4 80 35 30 50 0 0 0 0 0 (-1) 0 0 0 zFP (fun _ => 0) x y hx0 hy0 zFP_g) rfl rfl (Nat.le_of_ble_eq_true rfl) rfl (by decide) (by omega) (by omega) (fun E cs1 hx => ?_) (fun v cs1 hx => ?_)
    · exact absurd hx.1 (by simp)
    · obtain ⟨e1, rfl⟩ := hx
      cases e1
      refine ⟨rfl, ?_⟩
      refine r_st (st2 := [.int (-1)]) rfl ?_
      refine r_istore (lv' := [(7, .int (-1)), (6, .int 0), (5, .int 0), (4, .ref o2), (3, .ref o1), (2, .ref m), (1, .ref a), (0, .ref (g.2.2 40))]) d_Lw_law_577 (by decide) rfl ?_
      refine r_aload_n d_Lw_law_579 rfl 5 rfl ?_
      refine r_callV (As := []) (rest := []) (csC := [(m, .inr (12, [.int 0, .ref mp, .int 4, .ref mf, .ref mh, .ref mn, .ref mt, .ref mz, .ref mc_, .ref mq, .ref mgr, .int 80, .int 35, .int 30, .int 50, .int 0, .int 0, .ref ml, .ref mi, .ref mr, .int 0, .int 0, .int 0, .int (-1), .int 0, .ref mm, .ref mu, .ref mk, .ref mx, .long 0, .long 0]))]) (is := [52]) (q0 := 52) rfl rfl ln_Lw_175 w_im_Mm_thrown w_se_Mm_thrown ok_Lw_law_Mm_thrown d_Lw_law_580 (C_Mm_thrown g m mp mf mh mn mt mz mc_ mq mgr ml mi mr mm mu mk mx 0 4 80 35 30 50 0 0 0 0 0 (-1) 0 0 0) rfl rfl (Nat.le_of_ble_eq_true rfl) rfl (by decide) (by omega) (by omega) (fun E cs1 hx => ?_) (fun v cs1 hx => ?_)
      · exact absurd hx.1 (by simp)
      · obtain ⟨e1, rfl⟩ := hx
        cases e1
        refine ⟨rfl, ?_⟩
        refine r_st (st2 := [.int 0]) rfl ?_
        refine r_iload d_Lw_law_583 1 rfl ?_
        refine r_icmp_eq (tgt := 590) d_Lw_law_585 (by decide) (fun c_585 => ?_) (fun c_585 => ?_)
        · refine r_iload d_Lw_law_590 1 rfl ?_
          refine r_if_ne (tgt := 607) d_Lw_law_592 (by decide) (fun c_592 => ?_) (fun c_592 => ?_)
          · exact absurd c_592 (by decide)
          · refine r_aload_n d_Lw_law_595 rfl 4 rfl ?_
            refine r_iconst d_Lw_law_596 (v := 0) (by decide) ?_
            refine r_lald d_Lw_law_597 (q0 := 69) rfl (fun q => q.elim (by decide) (by decide)) (v := (vp_updL (fun _ => 0) 0 (((flT zX0).1.2.1 (12 * y + x))).toInt64) 0) rfl ?_
            refine r_iload d_Lw_law_598 0 rfl ?_
            refine r_i2l d_Lw_law_600 (v := (-1).toInt64) rfl ?_
            refine r_lcmp d_Lw_law_601 (v := 0) (zl_cmp (sFI sX0 _ (by omega))) ?_
            refine r_if_eq (tgt := 607) d_Lw_law_602 (by decide) (fun c_602 => ?_) (fun c_602 => ?_)
            · refine r_goto (tgt := 3019) d_Lw_law_607 (by decide) ?_
              refine r_lv (lv' := [(5, .int 0), (0, .ref (g.2.2 40))]) [2, 7] rfl ?_
              exact LW_tail g _ hL _ _ w0 n
            · exact absurd c_602 (by decide)
        · exact absurd c_585 (by decide)
theorem d_Lw_law_610 : decode code 610 = .ok (.aload_n 1, 1) := by decide +kernel
theorem d_Lw_law_611 : decode code 611 = .ok (.aload_n 3, 1) := by decide +kernel
theorem d_Lw_law_612 : decode code 612 = .ok (.invokestatic 205, 3) := by decide +kernel
theorem ok_Lw_law_Lw_speed : z_okX M_Lw_law M_Lw_speed 2 := ⟨z_mem (i := 831) (by decide +kernel) (by decide +kernel), by decide, ⟨by decide +kernel, by decide +kernel, by decide +kernel⟩, ⟨by decide, by decide⟩, z_mem (i := 57) (by decide +kernel) (by decide +kernel), rfl⟩
theorem ln_Lw_205 : Cond.methodLink "IronpourLaw" 205 M_Lw_speed.1 ∈ z_gw := z_mem (i := 829) (by decide +kernel) (by decide +kernel)
theorem w_st_Lw_speed : Cond.static M_Lw_speed.1 ∈ z_gw := z_mem (i := 830) (by decide +kernel) (by decide +kernel)
theorem d_Lw_law_615 : decode code 615 = .ok (.istore 6, 2) := by decide +kernel
theorem d_Lw_law_617 : decode code 617 = .ok (.aload_n 2, 1) := by decide +kernel
theorem d_Lw_law_618 : decode code 618 = .ok (.invokevirtual 208, 3) := by decide +kernel
theorem ok_Lw_law_Mm_speed : z_ok M_Lw_law M_Mm_speed 0 := ⟨z_mem (i := 1763) (by decide +kernel) (by decide +kernel), rfl, ⟨by decide +kernel, by decide +kernel, by decide +kernel⟩, ⟨by decide, by decide⟩, z_mem (i := 71) (by decide +kernel) (by decide +kernel), rfl⟩
theorem ln_Lw_208 : Cond.methodLink "IronpourLaw" 208 M_Mm_speed.1 ∈ z_gw := z_mem (i := 1760) (by decide +kernel) (by decide +kernel)
theorem w_im_Mm_speed : Cond.instanceMethod M_Mm_speed.1 ∈ z_gw := z_mem (i := 1761) (by decide +kernel) (by decide +kernel)
theorem w_se_Mm_speed : Cond.selects M_Mm_speed.1.cls M_Mm_speed.1 M_Mm_speed.1 ∈ z_gw := z_mem (i := 1762) (by decide +kernel) (by decide +kernel)
theorem d_Lw_law_621 : decode code 621 = .ok (.istore 7, 2) := by decide +kernel
theorem d_Lw_law_623 : decode code 623 = .ok (.aload_n 2, 1) := by decide +kernel
theorem d_Lw_law_624 : decode code 624 = .ok (.invokevirtual 175, 3) := by decide +kernel
theorem d_Lw_law_627 : decode code 627 = .ok (.iload 6, 2) := by decide +kernel
theorem d_Lw_law_629 : decode code 629 = .ok (.if_icmp .eq 5, 3) := by decide +kernel
theorem d_Lw_law_634 : decode code 634 = .ok (.iload 6, 2) := by decide +kernel
theorem d_Lw_law_636 : decode code 636 = .ok (.ifCond .ne 15, 3) := by decide +kernel
theorem d_Lw_law_651 : decode code 651 = .ok (.goto 2368, 3) := by decide +kernel
set_option maxHeartbeats 4000000 in
set_option maxRecDepth 100000 in
theorem LW_speedE (g : zG) (a pa pa1 pa2 pa3 ta ta1 ta2 taz taz1 taz2 taz3 taz4 taz5 taz6 ta4 ta5 ta6 sa sa1 sa2 saz saz1 saz2 saz3 saz4 saz5 saz6 sa4 sa5 sa6 gs co co1 co2 co3 fu fub fubg fut1 fut2 fut3 la lab labg gy gyg du dug re wm ac m mp mf mh mn mt mz mc_ mq mgr ml mi mr mm mu mk mx o1 o2 : Nat) (hL : g.2.2 41 = 7) (w0 : zW) (n : Nat) : DV g M_Lw_law (lwP) w0 n 610 [(5, .int 0), (4, .ref o2), (3, .ref o1), (2, .ref m), (1, .ref a), (0, .ref (g.2.2 40))] [] (lwCS g a pa pa1 pa2 pa3 ta ta1 ta2 taz taz1 taz2 taz3 taz4 taz5 taz6 ta4 ta5 ta6 sa sa1 sa2 saz saz1 saz2 saz3 saz4 saz5 saz6 sa4 sa5 sa6 gs co co1 co2 co3 fu fub fubg fut1 fut2 fut3 la lab labg gy gyg du dug re wm ac m mp mf mh mn mt mz mc_ mq mgr ml mi mr mm mu mk mx o1 o2) 100 1000 := by
  refine r_aload_n d_Lw_law_610 rfl 4 rfl ?_
  refine r_aload_n d_Lw_law_611 rfl 2 rfl ?_
  refine r_callSX (As := [.ref a, .ref o1]) (rest := []) (csC := [(a, .inr (11, [.ref pa, .ref ta, .ref sa, .ref gs, .ref co, .ref fu, .ref la, .ref gy, .ref du, .ref re, .ref wm, .ref ac])), (pa, .inr (8, [.ref pa1, .ref pa2, .ref pa3, .int (nI 4)])), (pa1, .inl (1, 108, .inl zFP)), (pa2, .inl (2, 108, .inl (fun _ => 0))), (pa3, .inl (0, 108, .inl (fun k => nI ((fun _ => 0) k)))), (o1, .inl (3, 1, .inr (.inl (fun _ => 0))))]) (is := [0, 1, 2, 3, 4, 69]) ln_Lw_205 w_st_Lw_speed ok_Lw_law_Lw_speed d_Lw_law_612 (C_Lw_speedE g a pa ta sa gs co fu la gy du re wm ac pa1 pa2 pa3 zFP (fun _ => 0) (fun _ => 0) 4 zFP_g o1 (fun _ => 0)) rfl rfl (Nat.le_of_ble_eq_true rfl) rfl (by decide) (by omega) (by omega) (fun E cs1 hx => ?_) (fun v cs1 hx => ?_)
  · exact absurd hx.1 (by simp)
  · obtain ⟨e1, rfl⟩ := hx
    cases e1
    refine ⟨rfl, ?_⟩
    refine r_st (st2 := [.int 1]) rfl ?_
    refine r_istore (lv' := [(6, .int 1), (5, .int 0), (4, .ref o2), (3, .ref o1), (2, .ref m), (1, .ref a), (0, .ref (g.2.2 40))]) d_Lw_law_615 (by decide) rfl ?_
    refine r_aload_n d_Lw_law_617 rfl 4 rfl ?_
    refine r_callV (As := []) (rest := []) (csC := [(m, .inr (12, [.int 0, .ref mp, .int 4, .ref mf, .ref mh, .ref mn, .ref mt, .ref mz, .ref mc_, .ref mq, .ref mgr, .int 80, .int 35, .int 30, .int 50, .int 0, .int 0, .ref ml, .ref mi, .ref mr, .int 0, .int 0, .int 0, .int (-1), .int 0, .ref mm, .ref mu, .ref mk, .ref mx, .long 0, .long 0])), (mp, .inl (1, 108, .inl zFP))]) (is := [52, 53]) (q0 := 52) rfl rfl ln_Lw_208 w_im_Mm_speed w_se_Mm_speed ok_Lw_law_Mm_speed d_Lw_law_618 (C_Mm_speedE g m mp mf mh mn mt mz mc_ mq mgr ml mi mr mm mu mk mx 0 4 80 35 30 50 0 0 0 0 0 (-1) 0 0 0 zFP zFP_g) rfl rfl (Nat.le_of_ble_eq_true rfl) rfl (by decide) (by omega) (by omega) (fun E cs1 hx => ?_) (fun v cs1 hx => ?_)
    · exact absurd hx.1 (by simp)
    · obtain ⟨e1, rfl⟩ := hx
      cases e1
      refine ⟨rfl, ?_⟩
      refine r_st (st2 := [.int 0]) rfl ?_
      refine r_istore (lv' := [(7, .int 0), (6, .int 1), (5, .int 0), (4, .ref o2), (3, .ref o1), (2, .ref m), (1, .ref a), (0, .ref (g.2.2 40))]) d_Lw_law_621 (by decide) rfl ?_
      refine r_aload_n d_Lw_law_623 rfl 5 rfl ?_
      refine r_callV (As := []) (rest := []) (csC := [(m, .inr (12, [.int 1, .ref mp, .int 4, .ref mf, .ref mh, .ref mn, .ref mt, .ref mz, .ref mc_, .ref mq, .ref mgr, .int 80, .int 35, .int 30, .int 50, .int 0, .int 0, .ref ml, .ref mi, .ref mr, .int 0, .int 0, .int 0, .int (-1), .int 0, .ref mm, .ref mu, .ref mk, .ref mx, .long 0, .long 0]))]) (is := [52]) (q0 := 52) rfl rfl ln_Lw_175 w_im_Mm_thrown w_se_Mm_thrown ok_Lw_law_Mm_thrown d_Lw_law_624 (C_Mm_thrown g m mp mf mh mn mt mz mc_ mq mgr ml mi mr mm mu mk mx 1 4 80 35 30 50 0 0 0 0 0 (-1) 0 0 0) rfl rfl (Nat.le_of_ble_eq_true rfl) rfl (by decide) (by omega) (by omega) (fun E cs1 hx => ?_) (fun v cs1 hx => ?_)
      · exact absurd hx.1 (by simp)
      · obtain ⟨e1, rfl⟩ := hx
        cases e1
        refine ⟨rfl, ?_⟩
        refine r_st (st2 := [.int 1]) rfl ?_
        refine r_iload d_Lw_law_627 1 rfl ?_
        refine r_icmp_eq (tgt := 634) d_Lw_law_629 (by decide) (fun c_629 => ?_) (fun c_629 => ?_)
        · refine r_iload d_Lw_law_634 1 rfl ?_
          refine r_if_ne (tgt := 651) d_Lw_law_636 (by decide) (fun c_636 => ?_) (fun c_636 => ?_)
          · refine r_goto (tgt := 3019) d_Lw_law_651 (by decide) ?_
            refine r_lv (lv' := [(5, .int 0), (0, .ref (g.2.2 40))]) [2, 7] rfl ?_
            exact LW_tail g _ hL _ _ w0 n
          · exact absurd c_636 (by decide)
        · exact absurd c_629 (by decide)
theorem d_Lw_law_654 : decode code 654 = .ok (.aload_n 1, 1) := by decide +kernel
theorem d_Lw_law_655 : decode code 655 = .ok (.aload_n 0, 1) := by decide +kernel
theorem d_Lw_law_656 : decode code 656 = .ok (.iload 5, 2) := by decide +kernel
theorem d_Lw_law_658 : decode code 658 = .ok (.iconst 1, 1) := by decide +kernel
theorem d_Lw_law_659 : decode code 659 = .ok (.iadd, 1) := by decide +kernel
theorem d_Lw_law_660 : decode code 660 = .ok (.iaload, 1) := by decide +kernel
theorem d_Lw_law_661 : decode code 661 = .ok (.aload_n 0, 1) := by decide +kernel
theorem d_Lw_law_662 : decode code 662 = .ok (.iload 5, 2) := by decide +kernel
theorem d_Lw_law_664 : decode code 664 = .ok (.iconst 2, 1) := by decide +kernel
theorem d_Lw_law_665 : decode code 665 = .ok (.iadd, 1) := by decide +kernel
theorem d_Lw_law_666 : decode code 666 = .ok (.iaload, 1) := by decide +kernel
theorem d_Lw_law_667 : decode code 667 = .ok (.aload_n 0, 1) := by decide +kernel
theorem d_Lw_law_668 : decode code 668 = .ok (.iload 5, 2) := by decide +kernel
theorem d_Lw_law_670 : decode code 670 = .ok (.iconst 3, 1) := by decide +kernel
theorem d_Lw_law_671 : decode code 671 = .ok (.iadd, 1) := by decide +kernel
theorem d_Lw_law_672 : decode code 672 = .ok (.iaload, 1) := by decide +kernel
theorem d_Lw_law_673 : decode code 673 = .ok (.aload_n 3, 1) := by decide +kernel
theorem d_Lw_law_674 : decode code 674 = .ok (.invokestatic 209, 3) := by decide +kernel
theorem ok_Lw_law_Lw_frozenIn : z_okX M_Lw_law M_Lw_frozenIn 5 := ⟨z_mem (i := 864) (by decide +kernel) (by decide +kernel), by decide, ⟨by decide +kernel, by decide +kernel, by decide +kernel⟩, ⟨by decide, by decide⟩, z_mem (i := 57) (by decide +kernel) (by decide +kernel), rfl⟩
theorem ln_Lw_209 : Cond.methodLink "IronpourLaw" 209 M_Lw_frozenIn.1 ∈ z_gw := z_mem (i := 862) (by decide +kernel) (by decide +kernel)
theorem w_st_Lw_frozenIn : Cond.static M_Lw_frozenIn.1 ∈ z_gw := z_mem (i := 863) (by decide +kernel) (by decide +kernel)
theorem d_Lw_law_677 : decode code 677 = .ok (.istore 6, 2) := by decide +kernel
theorem d_Lw_law_679 : decode code 679 = .ok (.aload_n 2, 1) := by decide +kernel
theorem d_Lw_law_680 : decode code 680 = .ok (.aload_n 0, 1) := by decide +kernel
theorem d_Lw_law_681 : decode code 681 = .ok (.iload 5, 2) := by decide +kernel
theorem d_Lw_law_683 : decode code 683 = .ok (.iconst 1, 1) := by decide +kernel
theorem d_Lw_law_684 : decode code 684 = .ok (.iadd, 1) := by decide +kernel
theorem d_Lw_law_685 : decode code 685 = .ok (.iaload, 1) := by decide +kernel
theorem d_Lw_law_686 : decode code 686 = .ok (.aload_n 0, 1) := by decide +kernel
theorem d_Lw_law_687 : decode code 687 = .ok (.iload 5, 2) := by decide +kernel
theorem d_Lw_law_689 : decode code 689 = .ok (.iconst 2, 1) := by decide +kernel
theorem d_Lw_law_690 : decode code 690 = .ok (.iadd, 1) := by decide +kernel
theorem d_Lw_law_691 : decode code 691 = .ok (.iaload, 1) := by decide +kernel
theorem d_Lw_law_692 : decode code 692 = .ok (.aload_n 0, 1) := by decide +kernel
theorem d_Lw_law_693 : decode code 693 = .ok (.iload 5, 2) := by decide +kernel
theorem d_Lw_law_695 : decode code 695 = .ok (.iconst 3, 1) := by decide +kernel
theorem d_Lw_law_696 : decode code 696 = .ok (.iadd, 1) := by decide +kernel
theorem d_Lw_law_697 : decode code 697 = .ok (.iaload, 1) := by decide +kernel
theorem d_Lw_law_698 : decode code 698 = .ok (.invokevirtual 212, 3) := by decide +kernel
theorem ok_Lw_law_Mm_frozenIn : z_ok M_Lw_law M_Mm_frozenIn 3 := ⟨z_mem (i := 1770) (by decide +kernel) (by decide +kernel), rfl, ⟨by decide +kernel, by decide +kernel, by decide +kernel⟩, ⟨by decide, by decide⟩, z_mem (i := 71) (by decide +kernel) (by decide +kernel), rfl⟩
theorem ln_Lw_212 : Cond.methodLink "IronpourLaw" 212 M_Mm_frozenIn.1 ∈ z_gw := z_mem (i := 1767) (by decide +kernel) (by decide +kernel)
theorem w_im_Mm_frozenIn : Cond.instanceMethod M_Mm_frozenIn.1 ∈ z_gw := z_mem (i := 1768) (by decide +kernel) (by decide +kernel)
theorem w_se_Mm_frozenIn : Cond.selects M_Mm_frozenIn.1.cls M_Mm_frozenIn.1 M_Mm_frozenIn.1 ∈ z_gw := z_mem (i := 1769) (by decide +kernel) (by decide +kernel)
theorem d_Lw_law_701 : decode code 701 = .ok (.istore 7, 2) := by decide +kernel
theorem d_Lw_law_703 : decode code 703 = .ok (.aload_n 2, 1) := by decide +kernel
theorem d_Lw_law_704 : decode code 704 = .ok (.invokevirtual 175, 3) := by decide +kernel
theorem d_Lw_law_707 : decode code 707 = .ok (.iload 6, 2) := by decide +kernel
theorem d_Lw_law_709 : decode code 709 = .ok (.if_icmp .eq 5, 3) := by decide +kernel
theorem d_Lw_law_714 : decode code 714 = .ok (.iload 6, 2) := by decide +kernel
theorem d_Lw_law_716 : decode code 716 = .ok (.ifCond .ne 15, 3) := by decide +kernel
theorem d_Lw_law_731 : decode code 731 = .ok (.goto 2288, 3) := by decide +kernel
set_option maxHeartbeats 4000000 in
set_option maxRecDepth 100000 in
theorem LW_frozenInE (g : zG) (a pa pa1 pa2 pa3 ta ta1 ta2 taz taz1 taz2 taz3 taz4 taz5 taz6 ta4 ta5 ta6 sa sa1 sa2 saz saz1 saz2 saz3 saz4 saz5 saz6 sa4 sa5 sa6 gs co co1 co2 co3 fu fub fubg fut1 fut2 fut3 la lab labg gy gyg du dug re wm ac m mp mf mh mn mt mz mc_ mq mgr ml mi mr mm mu mk mx o1 o2 : Nat) (hL : g.2.2 41 = 7) (hz : z_cl (zs g 1) (zs g 2) = none) (w0 : zW) (n : Nat) : DV g M_Lw_law (lwP) w0 n 654 [(5, .int 0), (4, .ref o2), (3, .ref o1), (2, .ref m), (1, .ref a), (0, .ref (g.2.2 40))] [] (lwCS g a pa pa1 pa2 pa3 ta ta1 ta2 taz taz1 taz2 taz3 taz4 taz5 taz6 ta4 ta5 ta6 sa sa1 sa2 saz saz1 saz2 saz3 saz4 saz5 saz6 sa4 sa5 sa6 gs co co1 co2 co3 fu fub fubg fut1 fut2 fut3 la lab labg gy gyg du dug re wm ac m mp mf mh mn mt mz mc_ mq mgr ml mi mr mm mu mk mx o1 o2) 100 1000 := by
  refine r_aload_n d_Lw_law_654 rfl 4 rfl ?_
  refine r_aload_n d_Lw_law_655 rfl 5 rfl ?_
  refine r_iload d_Lw_law_656 0 rfl ?_
  refine r_iconst d_Lw_law_658 (v := 1) (by decide) ?_
  refine r_iadd d_Lw_law_659 (v := 1) rfl ?_
  refine r_sld (v := zs g 1) d_Lw_law_660 (by rw [hL]; exact fun q => q.elim (by decide) (by decide)) rfl ?_
  refine r_aload_n d_Lw_law_661 rfl 5 rfl ?_
  refine r_iload d_Lw_law_662 0 rfl ?_
  refine r_iconst d_Lw_law_664 (v := 2) (by decide) ?_
  refine r_iadd d_Lw_law_665 (v := 2) rfl ?_
  refine r_sld (v := zs g 2) d_Lw_law_666 (by rw [hL]; exact fun q => q.elim (by decide) (by decide)) rfl ?_
  refine r_aload_n d_Lw_law_667 rfl 5 rfl ?_
  refine r_iload d_Lw_law_668 0 rfl ?_
  refine r_iconst d_Lw_law_670 (v := 3) (by decide) ?_
  refine r_iadd d_Lw_law_671 (v := 3) rfl ?_
  refine r_sld (v := zs g 3) d_Lw_law_672 (by rw [hL]; exact fun q => q.elim (by decide) (by decide)) rfl ?_
  refine r_aload_n d_Lw_law_673 rfl 2 rfl ?_
  refine r_callSX (As := [.ref a, .int (zs g 1), .int (zs g 2), .int (zs g 3), .ref o1]) (rest := []) (csC := [(a, .inr (11, [.ref pa, .ref ta, .ref sa, .ref gs, .ref co, .ref fu, .ref la, .ref gy, .ref du, .ref re, .ref wm, .ref ac])), (ta, .inr (10, [.ref ta1, .ref ta2, .ref taz, .ref ta4, .ref ta5, .ref ta6, .int zX0.1.2.2.1, .int zX0.1.2.2.2])), (ta1, .inl (1, 108, .inl zX0.1.1)), (ta2, .inl (0, 108, .inl zX0.1.2.1)), (taz, .inr (2, [.ref taz1, .ref taz2, .ref taz3, .ref taz4, .ref taz5, .ref taz6, .int zX0.2.1.1.1.2.2.2])), (taz1, .inl (0, 108, .inl zX0.2.1.1.1.1)), (taz2, .inl (0, 108, .inl zX0.2.1.1.2)), (taz3, .inl (0, 108, .inl zX0.2.1.1.1.2.1)), (taz4, .inl (0, 108, .inl zX0.2.1.1.1.2.2.1)), (taz5, .inl (0, 108, .inl zX0.2.1.2.1)), (taz6, .inl (0, 108, .inl zX0.2.1.2.2)), (ta4, .inl (2, 108, .inl zX0.2.2.1)), (ta5, .inl (2, 108, .inl zX0.2.2.2.1)), (ta6, .inl (0, 108, .inl (fun k => nI (zX0.2.2.2.2 k)))), (o1, .inl (3, 1, .inr (.inl (fun _ => 0))))]) (is := [0, 5, 6, 7, 8, 9, 10, 11, 12, 13, 14, 15, 16, 17, 69]) ln_Lw_209 w_st_Lw_frozenIn ok_Lw_law_Lw_frozenIn d_Lw_law_674 (C_Lw_frozenInE g a pa ta sa gs co fu la gy du re wm ac ta1 ta2 taz taz1 taz2 taz3 taz4 taz5 taz6 ta4 ta5 ta6 zX0 (zs g 1) (zs g 2) (zs g 3) hz o1 (fun _ => 0)) rfl rfl (Nat.le_of_ble_eq_true rfl) rfl (by decide) (by omega) (by omega) (fun E cs1 hx => ?_) (fun v cs1 hx => ?_)
  · exact absurd hx.1 (by simp)
  · obtain ⟨e1, rfl⟩ := hx
    cases e1
    refine ⟨rfl, ?_⟩
    refine r_st (st2 := [.int 1]) rfl ?_
    refine r_istore (lv' := [(6, .int 1), (5, .int 0), (4, .ref o2), (3, .ref o1), (2, .ref m), (1, .ref a), (0, .ref (g.2.2 40))]) d_Lw_law_677 (by decide) rfl ?_
    refine r_aload_n d_Lw_law_679 rfl 4 rfl ?_
    refine r_aload_n d_Lw_law_680 rfl 6 rfl ?_
    refine r_iload d_Lw_law_681 1 rfl ?_
    refine r_iconst d_Lw_law_683 (v := 1) (by decide) ?_
    refine r_iadd d_Lw_law_684 (v := 1) rfl ?_
    refine r_sld (v := zs g 1) d_Lw_law_685 (by rw [hL]; exact fun q => q.elim (by decide) (by decide)) rfl ?_
    refine r_aload_n d_Lw_law_686 rfl 6 rfl ?_
    refine r_iload d_Lw_law_687 1 rfl ?_
    refine r_iconst d_Lw_law_689 (v := 2) (by decide) ?_
    refine r_iadd d_Lw_law_690 (v := 2) rfl ?_
    refine r_sld (v := zs g 2) d_Lw_law_691 (by rw [hL]; exact fun q => q.elim (by decide) (by decide)) rfl ?_
    refine r_aload_n d_Lw_law_692 rfl 6 rfl ?_
    refine r_iload d_Lw_law_693 1 rfl ?_
    refine r_iconst d_Lw_law_695 (v := 3) (by decide) ?_
    refine r_iadd d_Lw_law_696 (v := 3) rfl ?_
    refine r_sld (v := zs g 3) d_Lw_law_697 (by rw [hL]; exact fun q => q.elim (by decide) (by decide)) rfl ?_
    refine r_callV (As := [.int (zs g 1), .int (zs g 2), .int (zs g 3)]) (rest := []) (csC := [(m, .inr (12, [.int 0, .ref mp, .int 4, .ref mf, .ref mh, .ref mn, .ref mt, .ref mz, .ref mc_, .ref mq, .ref mgr, .int 80, .int 35, .int 30, .int 50, .int 0, .int 0, .ref ml, .ref mi, .ref mr, .int 0, .int 0, .int 0, .int (-1), .int 0, .ref mm, .ref mu, .ref mk, .ref mx, .long 0, .long 0])), (mp, .inl (1, 108, .inl zFP))]) (is := [52, 53]) (q0 := 52) rfl rfl ln_Lw_212 w_im_Mm_frozenIn w_se_Mm_frozenIn ok_Lw_law_Mm_frozenIn d_Lw_law_698 (C_Mm_frozenInE g m mp mf mh mn mt mz mc_ mq mgr ml mi mr mm mu mk mx 0 4 80 35 30 50 0 0 0 0 0 (-1) 0 0 0 zFP (zs g 1) (zs g 2) (zs g 3) hz) rfl rfl (Nat.le_of_ble_eq_true rfl) rfl (by decide) (by omega) (by omega) (fun E cs1 hx => ?_) (fun v cs1 hx => ?_)
    · exact absurd hx.1 (by simp)
    · obtain ⟨e1, rfl⟩ := hx
      cases e1
      refine ⟨rfl, ?_⟩
      refine r_st (st2 := [.int 0]) rfl ?_
      refine r_istore (lv' := [(7, .int 0), (6, .int 1), (5, .int 0), (4, .ref o2), (3, .ref o1), (2, .ref m), (1, .ref a), (0, .ref (g.2.2 40))]) d_Lw_law_701 (by decide) rfl ?_
      refine r_aload_n d_Lw_law_703 rfl 5 rfl ?_
      refine r_callV (As := []) (rest := []) (csC := [(m, .inr (12, [.int 1, .ref mp, .int 4, .ref mf, .ref mh, .ref mn, .ref mt, .ref mz, .ref mc_, .ref mq, .ref mgr, .int 80, .int 35, .int 30, .int 50, .int 0, .int 0, .ref ml, .ref mi, .ref mr, .int 0, .int 0, .int 0, .int (-1), .int 0, .ref mm, .ref mu, .ref mk, .ref mx, .long 0, .long 0]))]) (is := [52]) (q0 := 52) rfl rfl ln_Lw_175 w_im_Mm_thrown w_se_Mm_thrown ok_Lw_law_Mm_thrown d_Lw_law_704 (C_Mm_thrown g m mp mf mh mn mt mz mc_ mq mgr ml mi mr mm mu mk mx 1 4 80 35 30 50 0 0 0 0 0 (-1) 0 0 0) rfl rfl (Nat.le_of_ble_eq_true rfl) rfl (by decide) (by omega) (by omega) (fun E cs1 hx => ?_) (fun v cs1 hx => ?_)
      · exact absurd hx.1 (by simp)
      · obtain ⟨e1, rfl⟩ := hx
        cases e1
        refine ⟨rfl, ?_⟩
        refine r_st (st2 := [.int 1]) rfl ?_
        refine r_iload d_Lw_law_707 1 rfl ?_
        refine r_icmp_eq (tgt := 714) d_Lw_law_709 (by decide) (fun c_709 => ?_) (fun c_709 => ?_)
        · refine r_iload d_Lw_law_714 1 rfl ?_
          refine r_if_ne (tgt := 731) d_Lw_law_716 (by decide) (fun c_716 => ?_) (fun c_716 => ?_)
          · refine r_goto (tgt := 3019) d_Lw_law_731 (by decide) ?_
            refine r_lv (lv' := [(5, .int 0), (0, .ref (g.2.2 40))]) [2, 7] rfl ?_
            exact LW_tail g _ hL _ _ w0 n
          · exact absurd c_716 (by decide)
        · exact absurd c_709 (by decide)
set_option maxHeartbeats 4000000 in
set_option maxRecDepth 100000 in
theorem LW_frozenInF (g : zG) (a pa pa1 pa2 pa3 ta ta1 ta2 taz taz1 taz2 taz3 taz4 taz5 taz6 ta4 ta5 ta6 sa sa1 sa2 saz saz1 saz2 saz3 saz4 saz5 saz6 sa4 sa5 sa6 gs co co1 co2 co3 fu fub fubg fut1 fut2 fut3 la lab labg gy gyg du dug re wm ac m mp mf mh mn mt mz mc_ mq mgr ml mi mr mm mu mk mx o1 o2 : Nat) (hL : g.2.2 41 = 7) (x y : Nat) (hx0 : x < 12) (hy0 : y < 9) (e1 : zs g 1 = nI x) (e2 : zs g 2 = nI y) (hh : ¬ (1200 ≤ (zs g 3) ∧ (zs g 3) ≤ 1500)) (w0 : zW) (n : Nat) : DV g M_Lw_law (lwP) w0 n 654 [(5, .int 0), (4, .ref o2), (3, .ref o1), (2, .ref m), (1, .ref a), (0, .ref (g.2.2 40))] [] (lwCS g a pa pa1 pa2 pa3 ta ta1 ta2 taz taz1 taz2 taz3 taz4 taz5 taz6 ta4 ta5 ta6 sa sa1 sa2 saz saz1 saz2 saz3 saz4 saz5 saz6 sa4 sa5 sa6 gs co co1 co2 co3 fu fub fubg fut1 fut2 fut3 la lab labg gy gyg du dug re wm ac m mp mf mh mn mt mz mc_ mq mgr ml mi mr mm mu mk mx o1 o2) 100 1000 := by
  refine r_aload_n d_Lw_law_654 rfl 4 rfl ?_
  refine r_aload_n d_Lw_law_655 rfl 5 rfl ?_
  refine r_iload d_Lw_law_656 0 rfl ?_
  refine r_iconst d_Lw_law_658 (v := 1) (by decide) ?_
  refine r_iadd d_Lw_law_659 (v := 1) rfl ?_
  refine r_sld (v := nI x) d_Lw_law_660 (by rw [hL]; exact fun q => q.elim (by decide) (by decide)) e1 ?_
  refine r_aload_n d_Lw_law_661 rfl 5 rfl ?_
  refine r_iload d_Lw_law_662 0 rfl ?_
  refine r_iconst d_Lw_law_664 (v := 2) (by decide) ?_
  refine r_iadd d_Lw_law_665 (v := 2) rfl ?_
  refine r_sld (v := nI y) d_Lw_law_666 (by rw [hL]; exact fun q => q.elim (by decide) (by decide)) e2 ?_
  refine r_aload_n d_Lw_law_667 rfl 5 rfl ?_
  refine r_iload d_Lw_law_668 0 rfl ?_
  refine r_iconst d_Lw_law_670 (v := 3) (by decide) ?_
  refine r_iadd d_Lw_law_671 (v := 3) rfl ?_
  refine r_sld (v := zs g 3) d_Lw_law_672 (by rw [hL]; exact fun q => q.elim (by decide) (by decide)) rfl ?_
  refine r_aload_n d_Lw_law_673 rfl 2 rfl ?_
  refine r_callSX (As := [.ref a, .int (nI x), .int (nI y), .int (zs g 3), .ref o1]) (rest := []) (csC := [(a, .inr (11, [.ref pa, .ref ta, .ref sa, .ref gs, .ref co, .ref fu, .ref la, .ref gy, .ref du, .ref re, .ref wm, .ref ac])), (ta, .inr (10, [.ref ta1, .ref ta2, .ref taz, .ref ta4, .ref ta5, .ref ta6, .int zX0.1.2.2.1, .int zX0.1.2.2.2])), (ta1, .inl (1, 108, .inl zX0.1.1)), (ta2, .inl (0, 108, .inl zX0.1.2.1)), (taz, .inr (2, [.ref taz1, .ref taz2, .ref taz3, .ref taz4, .ref taz5, .ref taz6, .int zX0.2.1.1.1.2.2.2])), (taz1, .inl (0, 108, .inl zX0.2.1.1.1.1)), (taz2, .inl (0, 108, .inl zX0.2.1.1.2)), (taz3, .inl (0, 108, .inl zX0.2.1.1.1.2.1)), (taz4, .inl (0, 108, .inl zX0.2.1.1.1.2.2.1)), (taz5, .inl (0, 108, .inl zX0.2.1.2.1)), (taz6, .inl (0, 108, .inl zX0.2.1.2.2)), (ta4, .inl (2, 108, .inl zX0.2.2.1)), (ta5, .inl (2, 108, .inl zX0.2.2.2.1)), (ta6, .inl (0, 108, .inl (fun k => nI (zX0.2.2.2.2 k)))), (o1, .inl (3, 1, .inr (.inl (fun _ => 0))))]) (is := [0, 5, 6, 7, 8, 9, 10, 11, 12, 13, 14, 15, 16, 17, 69]) ln_Lw_209 w_st_Lw_frozenIn ok_Lw_law_Lw_frozenIn d_Lw_law_674 (C_Lw_frozenInF g a pa ta sa gs co fu la gy du re wm ac ta1 ta2 taz taz1 taz2 taz3 taz4 taz5 taz6 ta4 ta5 ta6 zX0 (nI x) (nI y) (zs g 3) (12 * y + x) (z_clI hx0 hy0) hh o1 (fun _ => 0)) rfl rfl (Nat.le_of_ble_eq_true rfl) rfl (by decide) (by omega) (by omega) (fun E cs1 hx => ?_) (fun v cs1 hx => ?_)
  · exact absurd hx.1 (by simp)
  · obtain ⟨e1, rfl⟩ := hx
    cases e1
    refine ⟨rfl, ?_⟩
    refine r_st (st2 := [.int 2]) rfl ?_
    refine r_istore (lv' := [(6, .int 2), (5, .int 0), (4, .ref o2), (3, .ref o1), (2, .ref m), (1, .ref a), (0, .ref (g.2.2 40))]) d_Lw_law_677 (by decide) rfl ?_
    refine r_aload_n d_Lw_law_679 rfl 4 rfl ?_
    refine r_aload_n d_Lw_law_680 rfl 6 rfl ?_
    refine r_iload d_Lw_law_681 1 rfl ?_
    refine r_iconst d_Lw_law_683 (v := 1) (by decide) ?_
    refine r_iadd d_Lw_law_684 (v := 1) rfl ?_
    refine r_sld (v := nI x) d_Lw_law_685 (by rw [hL]; exact fun q => q.elim (by decide) (by decide)) e1 ?_
    refine r_aload_n d_Lw_law_686 rfl 6 rfl ?_
    refine r_iload d_Lw_law_687 1 rfl ?_
    refine r_iconst d_Lw_law_689 (v := 2) (by decide) ?_
    refine r_iadd d_Lw_law_690 (v := 2) rfl ?_
    refine r_sld (v := nI y) d_Lw_law_691 (by rw [hL]; exact fun q => q.elim (by decide) (by decide)) e2 ?_
    refine r_aload_n d_Lw_law_692 rfl 6 rfl ?_
    refine r_iload d_Lw_law_693 1 rfl ?_
    refine r_iconst d_Lw_law_695 (v := 3) (by decide) ?_
    refine r_iadd d_Lw_law_696 (v := 3) rfl ?_
    refine r_sld (v := zs g 3) d_Lw_law_697 (by rw [hL]; exact fun q => q.elim (by decide) (by decide)) rfl ?_
    refine r_callV (As := [.int (nI x), .int (nI y), .int (zs g 3)]) (rest := []) (csC := [(m, .inr (12, [.int 0, .ref mp, .int 4, .ref mf, .ref mh, .ref mn, .ref mt, .ref mz, .ref mc_, .ref mq, .ref mgr, .int 80, .int 35, .int 30, .int 50, .int 0, .int 0, .ref ml, .ref mi, .ref mr, .int 0, .int 0, .int 0, .int (-1), .int 0, .ref mm, .ref mu, .ref mk, .ref mx, .long 0, .long 0])), (mp, .inl (1, 108, .inl zFP))]) (is := [52, 53]) (q0 := 52) rfl rfl ln_Lw_212 w_im_Mm_frozenIn w_se_Mm_frozenIn ok_Lw_law_Mm_frozenIn d_Lw_law_698 (C_Mm_frozenInF g m mp mf mh mn mt mz mc_ mq mgr ml mi mr mm mu mk mx 0 4 80 35 30 50 0 0 0 0 0 (-1) 0 0 0 zFP x y hx0 hy0 (zs g 3) hh) rfl rfl (Nat.le_of_ble_eq_true rfl) rfl (by decide) (by omega) (by omega) (fun E cs1 hx => ?_) (fun v cs1 hx => ?_)
    · exact absurd hx.1 (by simp)
    · obtain ⟨e1, rfl⟩ := hx
      cases e1
      refine ⟨rfl, ?_⟩
      refine r_st (st2 := [.int 0]) rfl ?_
      refine r_istore (lv' := [(7, .int 0), (6, .int 2), (5, .int 0), (4, .ref o2), (3, .ref o1), (2, .ref m), (1, .ref a), (0, .ref (g.2.2 40))]) d_Lw_law_701 (by decide) rfl ?_
      refine r_aload_n d_Lw_law_703 rfl 5 rfl ?_
      refine r_callV (As := []) (rest := []) (csC := [(m, .inr (12, [.int 2, .ref mp, .int 4, .ref mf, .ref mh, .ref mn, .ref mt, .ref mz, .ref mc_, .ref mq, .ref mgr, .int 80, .int 35, .int 30, .int 50, .int 0, .int 0, .ref ml, .ref mi, .ref mr, .int 0, .int 0, .int 0, .int (-1), .int 0, .ref mm, .ref mu, .ref mk, .ref mx, .long 0, .long 0]))]) (is := [52]) (q0 := 52) rfl rfl ln_Lw_175 w_im_Mm_thrown w_se_Mm_thrown ok_Lw_law_Mm_thrown d_Lw_law_704 (C_Mm_thrown g m mp mf mh mn mt mz mc_ mq mgr ml mi mr mm mu mk mx 2 4 80 35 30 50 0 0 0 0 0 (-1) 0 0 0) rfl rfl (Nat.le_of_ble_eq_true rfl) rfl (by decide) (by omega) (by omega) (fun E cs1 hx => ?_) (fun v cs1 hx => ?_)
      · exact absurd hx.1 (by simp)
      · obtain ⟨e1, rfl⟩ := hx
        cases e1
        refine ⟨rfl, ?_⟩
        refine r_st (st2 := [.int 2]) rfl ?_
        refine r_iload d_Lw_law_707 1 rfl ?_
        refine r_icmp_eq (tgt := 714) d_Lw_law_709 (by decide) (fun c_709 => ?_) (fun c_709 => ?_)
        · refine r_iload d_Lw_law_714 1 rfl ?_
          refine r_if_ne (tgt := 731) d_Lw_law_716 (by decide) (fun c_716 => ?_) (fun c_716 => ?_)
          · refine r_goto (tgt := 3019) d_Lw_law_731 (by decide) ?_
            refine r_lv (lv' := [(5, .int 0), (0, .ref (g.2.2 40))]) [2, 7] rfl ?_
            exact LW_tail g _ hL _ _ w0 n
          · exact absurd c_716 (by decide)
        · exact absurd c_709 (by decide)
