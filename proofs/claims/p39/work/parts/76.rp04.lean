set_option maxHeartbeats 4000000 in
set_option maxRecDepth 100000 in
theorem Jx2_pour (g : zG) {Ψ : zO → zW → Prop} {w0 : zW} {n kc ks : Nat} {ad : Nat → Nat} (w_th w_pt w_cl w_wa w_co_ w_fi w_bu w_ho w_lh w_mg w_wd w_fpi w_fal : Int32) (w_po w_de : Int64) (fl he nx mtt fz ic gp f_i f_n mif mdf : Nat → Int32) (qn : Nat → Nat) (gr9 mg9 : Nat → Int64) (its nb q124 q129 p_n : Nat) (tk wt : Int32) (hT : ¬ tk = 0) (hch_i : z_ch f_i) (hg_i : ¬ fa_cnt (fun k => decide (f_i k = 103)) 12 = 0) (h0_n : f_n 0 = nI p_n) (hp_n : 1 ≤ p_n ∧ p_n < 9) (hv_i : vlA f_i fl) (sh : Int32) (hsh : mdf 3 = sh) (x4 : Int32) (hx4 : x4 = (pE4 w_mg)) (K : ∀ (gp : Nat → Int32) (qn : Nat → Nat), DU g M_Mm_pour Ψ w0 n 461 [(11, .int (pfF f_i f_n p_n mg9 tk w_mg sh (icQ f_i fl w_lh (decide (tk < wt)) 108))), (6, .ref q129), (5, .ref q124), (0, .ref (ad 52))] [] [((ad 52), .inr (12, [.int w_th, .ref (ad 53), .int w_pt, .ref (ad 54), .ref (ad 55), .ref (ad 56), .ref (ad 57), .ref (ad 58), .ref (ad 59), .ref (ad 60), .ref (ad 61), .int w_cl, .int w_wa, .int w_co_, .int w_fi, .int w_bu, .int w_ho, .ref (ad 62), .ref (ad 63), .ref (ad 64), .int w_lh, .int w_mg, .int w_wd, .int w_fpi, .int w_fal, .ref (ad 65), .ref (ad 66), .ref (ad 67), .ref (ad 68), .long w_po, .long w_de])), ((ad 63), .inl (0, 4, .inl mif)), ((ad 64), .inl (3, 16, .inr (.inl gr9))), ((ad 54), .inl (0, 108, .inl fl)), ((ad 55), .inl (0, 108, .inl he)), ((ad 56), .inl (0, 108, .inl nx)), ((ad 57), .inl (0, 108, .inl mtt)), ((ad 58), .inl (0, 108, .inl fz)), ((ad 59), .inl (2, 108, .inl ic)), ((ad 60), .inl (0, 108, .inl (fun k => nI (qn k)))), ((ad 61), .inl (0, 108, .inl gp)), (its, .inl (1, 108, .inl f_i)), (nb, .inl (0, 5, .inl f_n)), (q124, .inl (0, 6, .inl (upd mdf 4 (pE4 w_mg)))), (q129, .inl (3, 4, .inr (.inl mg9)))] kc ks) : DU g M_Mm_pour Ψ w0 n 262 [(6, .ref q129), (5, .ref q124), (4, .int tk), (3, .int wt), (2, .ref nb), (1, .ref its), (0, .ref (ad 52))] [.int x4, .int 4, .ref q124] [((ad 52), .inr (12, [.int w_th, .ref (ad 53), .int w_pt, .ref (ad 54), .ref (ad 55), .ref (ad 56), .ref (ad 57), .ref (ad 58), .ref (ad 59), .ref (ad 60), .ref (ad 61), .int w_cl, .int w_wa, .int w_co_, .int w_fi, .int w_bu, .int w_ho, .ref (ad 62), .ref (ad 63), .ref (ad 64), .int w_lh, .int w_mg, .int w_wd, .int w_fpi, .int w_fal, .ref (ad 65), .ref (ad 66), .ref (ad 67), .ref (ad 68), .long w_po, .long w_de])), ((ad 63), .inl (0, 4, .inl mif)), ((ad 64), .inl (3, 16, .inr (.inl gr9))), ((ad 54), .inl (0, 108, .inl fl)), ((ad 55), .inl (0, 108, .inl he)), ((ad 56), .inl (0, 108, .inl nx)), ((ad 57), .inl (0, 108, .inl mtt)), ((ad 58), .inl (0, 108, .inl fz)), ((ad 59), .inl (2, 108, .inl ic)), ((ad 60), .inl (0, 108, .inl (fun k => nI (qn k)))), ((ad 61), .inl (0, 108, .inl gp)), (its, .inl (1, 108, .inl f_i)), (nb, .inl (0, 5, .inl f_n)), (q124, .inl (0, 6, .inl mdf)), (q129, .inl (3, 4, .inr (.inl mg9)))] kc ks := by
  subst hx4
  refine y_iast d_Mm_pour_262 (q0 := 13) rfl (fun q => q.elim (by decide) (by decide)) (f' := upd mdf 4 (pE4 w_mg)) rfl (cs' := [((ad 52), .inr (12, [.int w_th, .ref (ad 53), .int w_pt, .ref (ad 54), .ref (ad 55), .ref (ad 56), .ref (ad 57), .ref (ad 58), .ref (ad 59), .ref (ad 60), .ref (ad 61), .int w_cl, .int w_wa, .int w_co_, .int w_fi, .int w_bu, .int w_ho, .ref (ad 62), .ref (ad 63), .ref (ad 64), .int w_lh, .int w_mg, .int w_wd, .int w_fpi, .int w_fal, .ref (ad 65), .ref (ad 66), .ref (ad 67), .ref (ad 68), .long w_po, .long w_de])), ((ad 63), .inl (0, 4, .inl mif)), ((ad 64), .inl (3, 16, .inr (.inl gr9))), ((ad 54), .inl (0, 108, .inl fl)), ((ad 55), .inl (0, 108, .inl he)), ((ad 56), .inl (0, 108, .inl nx)), ((ad 57), .inl (0, 108, .inl mtt)), ((ad 58), .inl (0, 108, .inl fz)), ((ad 59), .inl (2, 108, .inl ic)), ((ad 60), .inl (0, 108, .inl (fun k => nI (qn k)))), ((ad 61), .inl (0, 108, .inl gp)), (its, .inl (1, 108, .inl f_i)), (nb, .inl (0, 5, .inl f_n)), (q124, .inl (0, 6, .inl (upd mdf 4 (pE4 w_mg)))), (q129, .inl (3, 4, .inr (.inl mg9)))]) rfl ?_
  refine y_aload_n d_Mm_pour_263 rfl 4 rfl ?_
  refine y_iconst d_Mm_pour_264 (v := 2) (by decide) ?_
  refine y_iald d_Mm_pour_265 (q0 := 12) rfl (fun q => q.elim (by decide) (by decide)) (v := f_n 2) rfl ?_
  refine y_bipush d_Mm_pour_266 (v := 80) (by decide) ?_
  refine y_icmp_ge (tgt := 279) d_Mm_pour_268 (by decide) (fun c_268 => ?_) (fun c_268 => ?_)
  · refine y_aload_n d_Mm_pour_279 rfl 4 rfl ?_
    refine y_iconst d_Mm_pour_280 (v := 4) (by decide) ?_
    refine y_iald d_Mm_pour_281 (q0 := 12) rfl (fun q => q.elim (by decide) (by decide)) (v := f_n 4) rfl ?_
    refine y_bipush d_Mm_pour_282 (v := 60) (by decide) ?_
    refine y_icmp_le (tgt := 291) d_Mm_pour_284 (by decide) (fun c_284 => ?_) (fun c_284 => ?_)
    · refine y_iconst d_Mm_pour_291 (v := 0) (by decide) ?_
      refine y_lv (lv' := [(6, .ref q129), (5, .ref q124), (4, .int tk), (3, .int wt), (2, .ref nb), (1, .ref its), (0, .ref (ad 52))]) [0, 1, 2, 3, 4, 5, 6] rfl ?_
      exact Jx3_pour g w_th w_pt w_cl w_wa w_co_ w_fi w_bu w_ho w_lh w_mg w_wd w_fpi w_fal w_po w_de fl he nx mtt fz ic gp f_i f_n mif mdf qn gr9 mg9 its nb q124 q129 p_n tk wt hT hch_i hg_i h0_n hp_n hv_i sh hsh _ (Eq.symm (if_neg (by first | exact (fun q => q.elim (fun e => absurd e.1 (Int32.not_lt.mpr c_268)) (fun e => absurd c_284 (Int32.not_le.mpr e))) | exact (fun q => q.elim (fun e => c_276 e.2) (fun e => absurd c_284 (Int32.not_le.mpr e)))))) K
    · refine y_iconst d_Mm_pour_287 (v := 1) (by decide) ?_
      refine y_goto (tgt := 292) d_Mm_pour_288 (by decide) ?_
      refine y_lv (lv' := [(6, .ref q129), (5, .ref q124), (4, .int tk), (3, .int wt), (2, .ref nb), (1, .ref its), (0, .ref (ad 52))]) [0, 1, 2, 3, 4, 5, 6] rfl ?_
      exact Jx3_pour g w_th w_pt w_cl w_wa w_co_ w_fi w_bu w_ho w_lh w_mg w_wd w_fpi w_fal w_po w_de fl he nx mtt fz ic gp f_i f_n mif mdf qn gr9 mg9 its nb q124 q129 p_n tk wt hT hch_i hg_i h0_n hp_n hv_i sh hsh _ (by first | exact Eq.symm (if_pos (Or.inl (And.intro (Int32.not_le.mp c_268) c_276))) | exact Eq.symm (if_pos (Or.inr (Int32.not_le.mp c_284)))) K
  · refine y_aload_n d_Mm_pour_271 rfl 4 rfl ?_
    refine y_iconst d_Mm_pour_272 (v := 3) (by decide) ?_
    refine y_iald d_Mm_pour_273 (q0 := 12) rfl (fun q => q.elim (by decide) (by decide)) (v := f_n 3) rfl ?_
    refine y_bipush d_Mm_pour_274 (v := 40) (by decide) ?_
    refine y_icmp_gt (tgt := 287) d_Mm_pour_276 (by decide) (fun c_276 => ?_) (fun c_276 => ?_)
    · refine y_iconst d_Mm_pour_287 (v := 1) (by decide) ?_
      refine y_goto (tgt := 292) d_Mm_pour_288 (by decide) ?_
      refine y_lv (lv' := [(6, .ref q129), (5, .ref q124), (4, .int tk), (3, .int wt), (2, .ref nb), (1, .ref its), (0, .ref (ad 52))]) [0, 1, 2, 3, 4, 5, 6] rfl ?_
      exact Jx3_pour g w_th w_pt w_cl w_wa w_co_ w_fi w_bu w_ho w_lh w_mg w_wd w_fpi w_fal w_po w_de fl he nx mtt fz ic gp f_i f_n mif mdf qn gr9 mg9 its nb q124 q129 p_n tk wt hT hch_i hg_i h0_n hp_n hv_i sh hsh _ (by first | exact Eq.symm (if_pos (Or.inl (And.intro (Int32.not_le.mp c_268) c_276))) | exact Eq.symm (if_pos (Or.inr (Int32.not_le.mp c_284)))) K
    · refine y_aload_n d_Mm_pour_279 rfl 4 rfl ?_
      refine y_iconst d_Mm_pour_280 (v := 4) (by decide) ?_
      refine y_iald d_Mm_pour_281 (q0 := 12) rfl (fun q => q.elim (by decide) (by decide)) (v := f_n 4) rfl ?_
      refine y_bipush d_Mm_pour_282 (v := 60) (by decide) ?_
      refine y_icmp_le (tgt := 291) d_Mm_pour_284 (by decide) (fun c_284 => ?_) (fun c_284 => ?_)
      · refine y_iconst d_Mm_pour_291 (v := 0) (by decide) ?_
        refine y_lv (lv' := [(6, .ref q129), (5, .ref q124), (4, .int tk), (3, .int wt), (2, .ref nb), (1, .ref its), (0, .ref (ad 52))]) [0, 1, 2, 3, 4, 5, 6] rfl ?_
        exact Jx3_pour g w_th w_pt w_cl w_wa w_co_ w_fi w_bu w_ho w_lh w_mg w_wd w_fpi w_fal w_po w_de fl he nx mtt fz ic gp f_i f_n mif mdf qn gr9 mg9 its nb q124 q129 p_n tk wt hT hch_i hg_i h0_n hp_n hv_i sh hsh _ (Eq.symm (if_neg (by first | exact (fun q => q.elim (fun e => absurd e.1 (Int32.not_lt.mpr c_268)) (fun e => absurd c_284 (Int32.not_le.mpr e))) | exact (fun q => q.elim (fun e => c_276 e.2) (fun e => absurd c_284 (Int32.not_le.mpr e)))))) K
      · refine y_iconst d_Mm_pour_287 (v := 1) (by decide) ?_
        refine y_goto (tgt := 292) d_Mm_pour_288 (by decide) ?_
        refine y_lv (lv' := [(6, .ref q129), (5, .ref q124), (4, .int tk), (3, .int wt), (2, .ref nb), (1, .ref its), (0, .ref (ad 52))]) [0, 1, 2, 3, 4, 5, 6] rfl ?_
        exact Jx3_pour g w_th w_pt w_cl w_wa w_co_ w_fi w_bu w_ho w_lh w_mg w_wd w_fpi w_fal w_po w_de fl he nx mtt fz ic gp f_i f_n mif mdf qn gr9 mg9 its nb q124 q129 p_n tk wt hT hch_i hg_i h0_n hp_n hv_i sh hsh _ (by first | exact Eq.symm (if_pos (Or.inl (And.intro (Int32.not_le.mp c_268) c_276))) | exact Eq.symm (if_pos (Or.inr (Int32.not_le.mp c_284)))) K
theorem d_Mm_pour_245 : decode prog_14_method_77_code 245 = .ok (.aload 5, 2) := zo_25 (d := 5) (zd_b zq_prog_14_method_77_code_7 21 rfl rfl rfl) (zd_b zq_prog_14_method_77_code_7 22 rfl rfl rfl)
theorem d_Mm_pour_247 : decode prog_14_method_77_code 247 = .ok (.iconst 4, 1) := zo_7 (zd_b zq_prog_14_method_77_code_7 23 rfl rfl rfl)
theorem d_Mm_pour_248 : decode prog_14_method_77_code 248 = .ok (.aload_n 0, 1) := zo_42 (zd_b zq_prog_14_method_77_code_7 24 rfl rfl rfl)
theorem d_Mm_pour_249 : decode prog_14_method_77_code 249 = .ok (.getfield 260, 3) := zo_180 (d := 1) (e := 4) (zd_b zq_prog_14_method_77_code_7 25 rfl rfl rfl) (zd_b zq_prog_14_method_77_code_7 26 rfl rfl rfl) (zd_b zq_prog_14_method_77_code_7 27 rfl rfl rfl)
theorem d_Mm_pour_252 : decode prog_14_method_77_code 252 = .ok (.bipush 20, 2) := zo_16 (d := 20) (zd_b zq_prog_14_method_77_code_7 28 rfl rfl rfl) (zd_b zq_prog_14_method_77_code_7 29 rfl rfl rfl) (by decide +kernel)
theorem d_Mm_pour_254 : decode prog_14_method_77_code 254 = .ok (.if_icmp .lt 7, 3) := zo_161 (d := 0) (e := 7) (zd_b zq_prog_14_method_77_code_7 30 rfl rfl rfl) (zd_b zq_prog_14_method_77_code_7 31 rfl rfl rfl) (zd_b zq_prog_14_method_77_code_8 0 rfl rfl rfl) (by decide +kernel)
theorem d_Mm_pour_261 : decode prog_14_method_77_code 261 = .ok (.iconst 0, 1) := zo_3 (zd_b zq_prog_14_method_77_code_8 5 rfl rfl rfl)
theorem d_Mm_pour_257 : decode prog_14_method_77_code 257 = .ok (.iconst 1, 1) := zo_4 (zd_b zq_prog_14_method_77_code_8 1 rfl rfl rfl)
theorem d_Mm_pour_258 : decode prog_14_method_77_code 258 = .ok (.goto 4, 3) := zo_167 (d := 0) (e := 4) (zd_b zq_prog_14_method_77_code_8 2 rfl rfl rfl) (zd_b zq_prog_14_method_77_code_8 3 rfl rfl rfl) (zd_b zq_prog_14_method_77_code_8 4 rfl rfl rfl) (by decide +kernel)
set_option maxHeartbeats 4000000 in
set_option maxRecDepth 100000 in
theorem Jx1_pour (g : zG) {Ψ : zO → zW → Prop} {w0 : zW} {n kc ks : Nat} {ad : Nat → Nat} (w_th w_pt w_cl w_wa w_co_ w_fi w_bu w_ho w_lh w_mg w_wd w_fpi w_fal : Int32) (w_po w_de : Int64) (fl he nx mtt fz ic gp f_i f_n mif mdf : Nat → Int32) (qn : Nat → Nat) (gr9 mg9 : Nat → Int64) (its nb q124 q129 p_n : Nat) (tk wt : Int32) (hT : ¬ tk = 0) (hch_i : z_ch f_i) (hg_i : ¬ fa_cnt (fun k => decide (f_i k = 103)) 12 = 0) (h0_n : f_n 0 = nI p_n) (hp_n : 1 ≤ p_n ∧ p_n < 9) (hv_i : vlA f_i fl) (sh : Int32) (hsh : mdf 3 = sh) (K : ∀ (gp : Nat → Int32) (qn : Nat → Nat), DU g M_Mm_pour Ψ w0 n 461 [(11, .int (pfF f_i f_n p_n mg9 tk w_mg sh (icQ f_i fl w_lh (decide (tk < wt)) 108))), (6, .ref q129), (5, .ref q124), (0, .ref (ad 52))] [] [((ad 52), .inr (12, [.int w_th, .ref (ad 53), .int w_pt, .ref (ad 54), .ref (ad 55), .ref (ad 56), .ref (ad 57), .ref (ad 58), .ref (ad 59), .ref (ad 60), .ref (ad 61), .int w_cl, .int w_wa, .int w_co_, .int w_fi, .int w_bu, .int w_ho, .ref (ad 62), .ref (ad 63), .ref (ad 64), .int w_lh, .int w_mg, .int w_wd, .int w_fpi, .int w_fal, .ref (ad 65), .ref (ad 66), .ref (ad 67), .ref (ad 68), .long w_po, .long w_de])), ((ad 63), .inl (0, 4, .inl mif)), ((ad 64), .inl (3, 16, .inr (.inl gr9))), ((ad 54), .inl (0, 108, .inl fl)), ((ad 55), .inl (0, 108, .inl he)), ((ad 56), .inl (0, 108, .inl nx)), ((ad 57), .inl (0, 108, .inl mtt)), ((ad 58), .inl (0, 108, .inl fz)), ((ad 59), .inl (2, 108, .inl ic)), ((ad 60), .inl (0, 108, .inl (fun k => nI (qn k)))), ((ad 61), .inl (0, 108, .inl gp)), (its, .inl (1, 108, .inl f_i)), (nb, .inl (0, 5, .inl f_n)), (q124, .inl (0, 6, .inl (upd mdf 4 (pE4 w_mg)))), (q129, .inl (3, 4, .inr (.inl mg9)))] kc ks) : DU g M_Mm_pour Ψ w0 n 245 [(6, .ref q129), (5, .ref q124), (4, .int tk), (3, .int wt), (2, .ref nb), (1, .ref its), (0, .ref (ad 52))] [] [((ad 52), .inr (12, [.int w_th, .ref (ad 53), .int w_pt, .ref (ad 54), .ref (ad 55), .ref (ad 56), .ref (ad 57), .ref (ad 58), .ref (ad 59), .ref (ad 60), .ref (ad 61), .int w_cl, .int w_wa, .int w_co_, .int w_fi, .int w_bu, .int w_ho, .ref (ad 62), .ref (ad 63), .ref (ad 64), .int w_lh, .int w_mg, .int w_wd, .int w_fpi, .int w_fal, .ref (ad 65), .ref (ad 66), .ref (ad 67), .ref (ad 68), .long w_po, .long w_de])), ((ad 63), .inl (0, 4, .inl mif)), ((ad 64), .inl (3, 16, .inr (.inl gr9))), ((ad 54), .inl (0, 108, .inl fl)), ((ad 55), .inl (0, 108, .inl he)), ((ad 56), .inl (0, 108, .inl nx)), ((ad 57), .inl (0, 108, .inl mtt)), ((ad 58), .inl (0, 108, .inl fz)), ((ad 59), .inl (2, 108, .inl ic)), ((ad 60), .inl (0, 108, .inl (fun k => nI (qn k)))), ((ad 61), .inl (0, 108, .inl gp)), (its, .inl (1, 108, .inl f_i)), (nb, .inl (0, 5, .inl f_n)), (q124, .inl (0, 6, .inl mdf)), (q129, .inl (3, 4, .inr (.inl mg9)))] kc ks := by
  refine y_aload d_Mm_pour_245 1 rfl ?_
  refine y_iconst d_Mm_pour_247 (v := 4) (by decide) ?_
  refine y_aload_n d_Mm_pour_248 rfl 6 rfl ?_
  refine y_get fs_Mm_260 d_Mm_pour_249 (q0 := 0) rfl rfl ?_
  refine y_bipush d_Mm_pour_252 (v := 20) (by decide) ?_
  refine y_icmp_lt (tgt := 261) d_Mm_pour_254 (by decide) (fun c_254 => ?_) (fun c_254 => ?_)
  · refine y_iconst d_Mm_pour_261 (v := 0) (by decide) ?_
    refine y_lv (lv' := [(6, .ref q129), (5, .ref q124), (4, .int tk), (3, .int wt), (2, .ref nb), (1, .ref its), (0, .ref (ad 52))]) [0, 1, 2, 3, 4, 5, 6] rfl ?_
    exact Jx2_pour g w_th w_pt w_cl w_wa w_co_ w_fi w_bu w_ho w_lh w_mg w_wd w_fpi w_fal w_po w_de fl he nx mtt fz ic gp f_i f_n mif mdf qn gr9 mg9 its nb q124 q129 p_n tk wt hT hch_i hg_i h0_n hp_n hv_i sh hsh _ (Eq.symm (if_pos c_254)) K
  · refine y_iconst d_Mm_pour_257 (v := 1) (by decide) ?_
    refine y_goto (tgt := 262) d_Mm_pour_258 (by decide) ?_
    refine y_lv (lv' := [(6, .ref q129), (5, .ref q124), (4, .int tk), (3, .int wt), (2, .ref nb), (1, .ref its), (0, .ref (ad 52))]) [0, 1, 2, 3, 4, 5, 6] rfl ?_
    exact Jx2_pour g w_th w_pt w_cl w_wa w_co_ w_fi w_bu w_ho w_lh w_mg w_wd w_fpi w_fal w_po w_de fl he nx mtt fz ic gp f_i f_n mif mdf qn gr9 mg9 its nb q124 q129 p_n tk wt hT hch_i hg_i h0_n hp_n hv_i sh hsh _ (Eq.symm (if_neg c_254)) K
set_option maxHeartbeats 4000000 in
set_option maxRecDepth 100000 in
theorem Qx_Mm_pourE {g : zG} {ad : Nat → Nat} {t : zTT} {u : zNN} {w : zW} (hI : IV g ad t u w) (h0 : u.1 3 = 0) : zMB g M_Mm_pour [.ref (ad 52)] w (fun o w1 => o = .inl (some (.int 0)) ∧ IV g ad t u w1) 0 0 := by
  obtain ⟨e_m, wf_m, k_m⟩ := hI.1.2 52 (by decide)
  obtain ⟨v_m_th, rfl⟩ := kd_52.mp k_m
  refine y_of (by decide) rfl (Nat.le_of_ble_eq_true rfl) (y_base (cs := [((ad 52), .inr (12, [.int v_m_th, .ref (ad 53), .int (nI ((t.1 52).2.2 0)), .ref (ad 54), .ref (ad 55), .ref (ad 56), .ref (ad 57), .ref (ad 58), .ref (ad 59), .ref (ad 60), .ref (ad 61), .int ((t.1 52).1 0), .int ((t.1 52).1 1), .int ((t.1 52).1 2), .int ((t.1 52).1 3), .int ((t.1 52).1 4), .int ((t.1 52).1 5), .ref (ad 62), .ref (ad 63), .ref (ad 64), .int ((t.1 52).1 6), .int ((t.1 52).1 7), .int ((t.1 52).1 8), .int ((t.1 52).1 9), .int ((t.1 52).1 10), .ref (ad 65), .ref (ad 66), .ref (ad 67), .ref (ad 68), .long ((t.1 52).2.1 0), .long ((t.1 52).2.1 1)]))]) (hI.1.I [52] _ rfl (by decide) (by decide) (List.forall_mem_cons.mpr ⟨wf_m, (fun _ h => nomatch h)⟩)) ?_)
  refine y_lvE (lv2 := [(0, .ref (ad 52))]) rfl ?_
  refine y_aload_n d_Mm_pour_0 rfl 0 rfl ?_
  refine y_iconst d_Mm_pour_1 (v := 0) (by decide) ?_
  refine y_put fp_Mm_84 d_Mm_pour_2 (fun h => nomatch h) rfl rfl (q0 := 0) rfl (Nat.le_of_ble_eq_true rfl) (cs' := [((ad 52), .inr (12, [.int 0, .ref (ad 53), .int (nI ((t.1 52).2.2 0)), .ref (ad 54), .ref (ad 55), .ref (ad 56), .ref (ad 57), .ref (ad 58), .ref (ad 59), .ref (ad 60), .ref (ad 61), .int ((t.1 52).1 0), .int ((t.1 52).1 1), .int ((t.1 52).1 2), .int ((t.1 52).1 3), .int ((t.1 52).1 4), .int ((t.1 52).1 5), .ref (ad 62), .ref (ad 63), .ref (ad 64), .int ((t.1 52).1 6), .int ((t.1 52).1 7), .int ((t.1 52).1 8), .int ((t.1 52).1 9), .int ((t.1 52).1 10), .ref (ad 65), .ref (ad 66), .ref (ad 67), .ref (ad 68), .long ((t.1 52).2.1 0), .long ((t.1 52).2.1 1)]))]) rfl ?_
  refine y_aload_n d_Mm_pour_5 rfl 0 rfl ?_
  refine y_aload_n d_Mm_pour_6 rfl 0 rfl ?_
  refine y_get fs_Mm_72 d_Mm_pour_7 (q0 := 0) rfl rfl ?_
  refine yw_callVL (As := []) (rest := [.ref (ad 52)]) (ci := 13) rfl (fun wA hA => ((hI.gen (t2 := t) (is := [52]) (L2 := []) hA rfl ⟨kd_52.mpr ⟨_, rfl⟩, trivial⟩ (by decide) (by decide) (fun _ h => nomatch h) (fun _ h => nomatch h) (fun _ _ _ => rfl) (fun h => h) rfl).2.1.1 3 (by decide)).ob) ln_Mm_289 w_im_AL_isEmpty w_se_AL_isEmpty ok_Mm_pour_AL_isEmpty d_Mm_pour_10 (fun wA hA => Q_isEmpty ((hI.gen (t2 := t) (is := [52]) (L2 := []) hA rfl ⟨kd_52.mpr ⟨_, rfl⟩, trivial⟩ (by decide) (by decide) (fun _ h => nomatch h) (fun _ h => nomatch h) (fun _ _ _ => rfl) (fun h => h) rfl).2.1.1 3 (by decide))) rfl rfl (Nat.le_of_ble_eq_true rfl) (by omega) (by omega) (fun wA10 hA10 E wB10 hx => ?_) (fun wA10 hA10 v wB10 hx => ?_)
  · exact absurd hx.1 (by simp)
  · obtain ⟨e1, e2⟩ := hx
    rw [if_pos h0] at e1
    cases e1
    refine yw_st (st2 := [.int 1, .ref (ad 52)]) rfl ?_
    subst e2
    refine y_go hA10 ?_
    refine y_iconst d_Mm_pour_13 (v := 1) (by decide) ?_
    refine y_callV (As := [.int 1, .int 1]) (rest := []) (csC := [((ad 52), .inr (12, [.int 0, .ref (ad 53), .int (nI ((t.1 52).2.2 0)), .ref (ad 54), .ref (ad 55), .ref (ad 56), .ref (ad 57), .ref (ad 58), .ref (ad 59), .ref (ad 60), .ref (ad 61), .int ((t.1 52).1 0), .int ((t.1 52).1 1), .int ((t.1 52).1 2), .int ((t.1 52).1 3), .int ((t.1 52).1 4), .int ((t.1 52).1 5), .ref (ad 62), .ref (ad 63), .ref (ad 64), .int ((t.1 52).1 6), .int ((t.1 52).1 7), .int ((t.1 52).1 8), .int ((t.1 52).1 9), .int ((t.1 52).1 10), .ref (ad 65), .ref (ad 66), .ref (ad 67), .ref (ad 68), .long ((t.1 52).2.1 0), .long ((t.1 52).2.1 1)]))]) (is := [0]) (q0 := 0) rfl rfl ln_Mm_103 w_im_Mm_fails w_se_Mm_fails ok_Mm_pour_Mm_fails d_Mm_pour_14 (C_Mm_fails1 g (ad 52) (ad 53) (ad 54) (ad 55) (ad 56) (ad 57) (ad 58) (ad 59) (ad 60) (ad 61) (ad 62) (ad 63) (ad 64) (ad 65) (ad 66) (ad 67) (ad 68) 0 (nI ((t.1 52).2.2 0)) ((t.1 52).1 0) ((t.1 52).1 1) ((t.1 52).1 2) ((t.1 52).1 3) ((t.1 52).1 4) ((t.1 52).1 5) ((t.1 52).1 6) ((t.1 52).1 7) ((t.1 52).1 8) ((t.1 52).1 9) ((t.1 52).1 10) ((t.1 52).2.1 0) ((t.1 52).2.1 1)) rfl rfl (Nat.le_of_ble_eq_true rfl) rfl (by decide) (by omega) (by omega) (fun E cs1 hx => ?_) (fun v cs1 hx => ?_)
    · exact absurd hx.1 (by simp)
    · obtain ⟨e1, rfl⟩ := hx
      cases e1
      refine ⟨rfl, ?_⟩
      refine y_st (st2 := [.int 1]) rfl ?_
      refine y_cs (cs2 := [((ad 52), .inr (12, [.int 1, .ref (ad 53), .int (nI ((t.1 52).2.2 0)), .ref (ad 54), .ref (ad 55), .ref (ad 56), .ref (ad 57), .ref (ad 58), .ref (ad 59), .ref (ad 60), .ref (ad 61), .int ((t.1 52).1 0), .int ((t.1 52).1 1), .int ((t.1 52).1 2), .int ((t.1 52).1 3), .int ((t.1 52).1 4), .int ((t.1 52).1 5), .ref (ad 62), .ref (ad 63), .ref (ad 64), .int ((t.1 52).1 6), .int ((t.1 52).1 7), .int ((t.1 52).1 8), .int ((t.1 52).1 9), .int ((t.1 52).1 10), .ref (ad 65), .ref (ad 66), .ref (ad 67), .ref (ad 68), .long ((t.1 52).2.1 0), .long ((t.1 52).2.1 1)]))]) rfl ?_
      refine y_if_ne (tgt := 77) d_Mm_pour_17 (by decide) (fun c_17 => ?_) (fun c_17 => ?_)
      · refine y_iconst d_Mm_pour_77 (v := 0) (by decide) ?_
        refine y_iret d_Mm_pour_78 rfl rfl ?_
        exact fun w1 h1 => ⟨rfl, (hI.gen (t2 := t) (is := [52]) (L2 := []) h1 rfl ⟨kd_52.mpr ⟨_, rfl⟩, trivial⟩ (by decide) (by decide) (fun _ h => nomatch h) (fun _ h => nomatch h) (fun _ _ _ => rfl) (fun h => h) rfl)⟩
      · exact absurd c_17 (by decide)
theorem d_Mm_pour_20 : decode prog_14_method_77_code 20 = .ok (.aload_n 0, 1) := zo_42 (zd_b zq_prog_14_method_77_code_0 20 rfl rfl rfl)
theorem d_Mm_pour_21 : decode prog_14_method_77_code 21 = .ok (.aload_n 0, 1) := zo_42 (zd_b zq_prog_14_method_77_code_0 21 rfl rfl rfl)
theorem d_Mm_pour_22 : decode prog_14_method_77_code 22 = .ok (.getfield 62, 3) := zo_180 (d := 0) (e := 62) (zd_b zq_prog_14_method_77_code_0 22 rfl rfl rfl) (zd_b zq_prog_14_method_77_code_0 23 rfl rfl rfl) (zd_b zq_prog_14_method_77_code_0 24 rfl rfl rfl)
theorem d_Mm_pour_25 : decode prog_14_method_77_code 25 = .ok (.iconst 1, 1) := zo_4 (zd_b zq_prog_14_method_77_code_0 25 rfl rfl rfl)
theorem d_Mm_pour_26 : decode prog_14_method_77_code 26 = .ok (.iaload, 1) := zo_46 (zd_b zq_prog_14_method_77_code_0 26 rfl rfl rfl)
theorem d_Mm_pour_27 : decode prog_14_method_77_code 27 = .ok (.ifCond .eq 13, 3) := zo_153 (d := 0) (e := 13) (zd_b zq_prog_14_method_77_code_0 27 rfl rfl rfl) (zd_b zq_prog_14_method_77_code_0 28 rfl rfl rfl) (zd_b zq_prog_14_method_77_code_0 29 rfl rfl rfl) (by decide +kernel)
theorem d_Mm_pour_40 : decode prog_14_method_77_code 40 = .ok (.iconst 1, 1) := zo_4 (zd_b zq_prog_14_method_77_code_1 8 rfl rfl rfl)
theorem d_Mm_pour_41 : decode prog_14_method_77_code 41 = .ok (.goto 4, 3) := zo_167 (d := 0) (e := 4) (zd_b zq_prog_14_method_77_code_1 9 rfl rfl rfl) (zd_b zq_prog_14_method_77_code_1 10 rfl rfl rfl) (zd_b zq_prog_14_method_77_code_1 11 rfl rfl rfl) (by decide +kernel)
theorem d_Mm_pour_45 : decode prog_14_method_77_code 45 = .ok (.iconst 2, 1) := zo_5 (zd_b zq_prog_14_method_77_code_1 13 rfl rfl rfl)
theorem d_Mm_pour_46 : decode prog_14_method_77_code 46 = .ok (.invokevirtual 103, 3) := zo_182 (d := 0) (e := 103) (zd_b zq_prog_14_method_77_code_1 14 rfl rfl rfl) (zd_b zq_prog_14_method_77_code_1 15 rfl rfl rfl) (zd_b zq_prog_14_method_77_code_1 16 rfl rfl rfl)
theorem d_Mm_pour_49 : decode prog_14_method_77_code 49 = .ok (.ifCond .ne 28, 3) := zo_154 (d := 0) (e := 28) (zd_b zq_prog_14_method_77_code_1 17 rfl rfl rfl) (zd_b zq_prog_14_method_77_code_1 18 rfl rfl rfl) (zd_b zq_prog_14_method_77_code_1 19 rfl rfl rfl) (by decide +kernel)
theorem d_Mm_pour_30 : decode prog_14_method_77_code 30 = .ok (.aload_n 0, 1) := zo_42 (zd_b zq_prog_14_method_77_code_0 30 rfl rfl rfl)
theorem d_Mm_pour_31 : decode prog_14_method_77_code 31 = .ok (.getfield 257, 3) := zo_180 (d := 1) (e := 1) (zd_b zq_prog_14_method_77_code_0 31 rfl rfl rfl) (zd_b zq_prog_14_method_77_code_1 0 rfl rfl rfl) (zd_b zq_prog_14_method_77_code_1 1 rfl rfl rfl)
theorem d_Mm_pour_34 : decode prog_14_method_77_code 34 = .ok (.sipush 1250, 3) := zo_17 (d := 4) (e := 226) (zd_b zq_prog_14_method_77_code_1 2 rfl rfl rfl) (zd_b zq_prog_14_method_77_code_1 3 rfl rfl rfl) (zd_b zq_prog_14_method_77_code_1 4 rfl rfl rfl) (by decide +kernel)
theorem d_Mm_pour_37 : decode prog_14_method_77_code 37 = .ok (.if_icmp .ge 7, 3) := zo_162 (d := 0) (e := 7) (zd_b zq_prog_14_method_77_code_1 5 rfl rfl rfl) (zd_b zq_prog_14_method_77_code_1 6 rfl rfl rfl) (zd_b zq_prog_14_method_77_code_1 7 rfl rfl rfl) (by decide +kernel)
