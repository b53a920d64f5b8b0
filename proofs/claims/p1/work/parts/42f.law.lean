theorem d_Lw_law_2284 : decode code 2284 = .ok (.aload_n 1, 1) := by decide +kernel
theorem d_Lw_law_2285 : decode code 2285 = .ok (.aload_n 3, 1) := by decide +kernel
theorem d_Lw_law_2286 : decode code 2286 = .ok (.invokestatic 294, 3) := by decide +kernel
theorem ok_Lw_law_Lw_pour : z_okX M_Lw_law M_Lw_pour 2 := ⟨z_mem (i := 1364) (by decide +kernel) (by decide +kernel), by decide, ⟨by decide +kernel, by decide +kernel, by decide +kernel⟩, ⟨by decide, by decide⟩, z_mem (i := 57) (by decide +kernel) (by decide +kernel), rfl⟩
theorem ln_Lw_294 : Cond.methodLink "IronpourLaw" 294 M_Lw_pour.1 ∈ z_gw := z_mem (i := 1362) (by decide +kernel) (by decide +kernel)
theorem w_st_Lw_pour : Cond.static M_Lw_pour.1 ∈ z_gw := z_mem (i := 1363) (by decide +kernel) (by decide +kernel)
theorem d_Lw_law_2289 : decode code 2289 = .ok (.istore 6, 2) := by decide +kernel
theorem d_Lw_law_2291 : decode code 2291 = .ok (.aload_n 2, 1) := by decide +kernel
theorem d_Lw_law_2292 : decode code 2292 = .ok (.invokevirtual 296, 3) := by decide +kernel
theorem ok_Lw_law_Mm_pour : z_ok M_Lw_law M_Mm_pour 0 := ⟨z_mem (i := 1976) (by decide +kernel) (by decide +kernel), rfl, ⟨by decide +kernel, by decide +kernel, by decide +kernel⟩, ⟨by decide, by decide⟩, z_mem (i := 71) (by decide +kernel) (by decide +kernel), rfl⟩
theorem ln_Lw_296 : Cond.methodLink "IronpourLaw" 296 M_Mm_pour.1 ∈ z_gw := z_mem (i := 1973) (by decide +kernel) (by decide +kernel)
theorem w_im_Mm_pour : Cond.instanceMethod M_Mm_pour.1 ∈ z_gw := z_mem (i := 1974) (by decide +kernel) (by decide +kernel)
theorem w_se_Mm_pour : Cond.selects M_Mm_pour.1.cls M_Mm_pour.1 M_Mm_pour.1 ∈ z_gw := z_mem (i := 1975) (by decide +kernel) (by decide +kernel)
theorem d_Lw_law_2295 : decode code 2295 = .ok (.istore 7, 2) := by decide +kernel
theorem d_Lw_law_2297 : decode code 2297 = .ok (.aload_n 2, 1) := by decide +kernel
theorem d_Lw_law_2298 : decode code 2298 = .ok (.invokevirtual 175, 3) := by decide +kernel
theorem d_Lw_law_2301 : decode code 2301 = .ok (.iload 6, 2) := by decide +kernel
theorem d_Lw_law_2303 : decode code 2303 = .ok (.if_icmp .eq 5, 3) := by decide +kernel
theorem d_Lw_law_2308 : decode code 2308 = .ok (.iload 6, 2) := by decide +kernel
theorem d_Lw_law_2310 : decode code 2310 = .ok (.ifCond .ne 15, 3) := by decide +kernel
theorem d_Lw_law_2325 : decode code 2325 = .ok (.goto 694, 3) := by decide +kernel
set_option maxHeartbeats 4000000 in
set_option maxRecDepth 100000 in
theorem LW_pour0 (g : zG) (a pa pa1 pa2 pa3 ta ta1 ta2 taz taz1 taz2 taz3 taz4 taz5 taz6 ta4 ta5 ta6 sa sa1 sa2 saz saz1 saz2 saz3 saz4 saz5 saz6 sa4 sa5 sa6 gs co co1 co2 co3 fu fub fubg fut1 fut2 fut3 la lab labg gy gyg du dug re wm ac m mp mf mh mn mt mz mc_ mq mgr ml mi mr mm mu mk mx o1 o2 : Nat) (hL : g.2.2 41 = 7) (w0 : zW) (n : Nat) : DV g M_Lw_law (lwP) w0 n 2284 [(5, .int 0), (4, .ref o2), (3, .ref o1), (2, .ref m), (1, .ref a), (0, .ref (g.2.2 40))] [] (lwCS g a pa pa1 pa2 pa3 ta ta1 ta2 taz taz1 taz2 taz3 taz4 taz5 taz6 ta4 ta5 ta6 sa sa1 sa2 saz saz1 saz2 saz3 saz4 saz5 saz6 sa4 sa5 sa6 gs co co1 co2 co3 fu fub fubg fut1 fut2 fut3 la lab labg gy gyg du dug re wm ac m mp mf mh mn mt mz mc_ mq mgr ml mi mr mm mu mk mx o1 o2) 100 1000 := by
  refine r_aload_n d_Lw_law_2284 rfl 4 rfl ?_
  refine r_aload_n d_Lw_law_2285 rfl 2 rfl ?_
  refine r_callSX (As := [.ref a, .ref o1]) (rest := []) (csC := [(a, .inr (11, [.ref pa, .ref ta, .ref sa, .ref gs, .ref co, .ref fu, .ref la, .ref gy, .ref du, .ref re, .ref wm, .ref ac])), (wm, .inr (13, [.int 0, .ref (g.2.2 4), .int 0])), (o1, .inl (3, 1, .inr (.inl (fun _ => 0))))]) (is := [0, 50, 69]) ln_Lw_294 w_st_Lw_pour ok_Lw_law_Lw_pour d_Lw_law_2286 (C_Lw_pour0 g a pa ta sa gs co fu la gy du re wm ac 0 (g.2.2 4) o1 (fun _ => 0)) rfl rfl (Nat.le_of_ble_eq_true rfl) rfl (by decide) (by omega) (by omega) (fun E cs1 hx => ?_) (fun v cs1 hx => ?_)
  · exact absurd hx.1 (by simp)
  · obtain ⟨e1, rfl⟩ := hx
    cases e1
    refine ⟨rfl, ?_⟩
    refine r_st (st2 := [.int 1]) rfl ?_
    refine r_istore (lv' := [(6, .int 1), (5, .int 0), (4, .ref o2), (3, .ref o1), (2, .ref m), (1, .ref a), (0, .ref (g.2.2 40))]) d_Lw_law_2289 (by decide) rfl ?_
    refine r_aload_n d_Lw_law_2291 rfl 4 rfl ?_
    refine r_callV (As := []) (rest := []) (csC := [(m, .inr (12, [.int 0, .ref mp, .int 4, .ref mf, .ref mh, .ref mn, .ref mt, .ref mz, .ref mc_, .ref mq, .ref mgr, .int 80, .int 35, .int 30, .int 50, .int 0, .int 0, .ref ml, .ref mi, .ref mr, .int 0, .int 0, .int 0, .int (-1), .int 0, .ref mm, .ref mu, .ref mk, .ref mx, .long 0, .long 0])), (mm, .inr (13, [.int 0, .ref (g.2.2 4), .int 0]))]) (is := [52, 65]) (q0 := 52) rfl rfl ln_Lw_296 w_im_Mm_pour w_se_Mm_pour ok_Lw_law_Mm_pour d_Lw_law_2292 (C_Mm_pour0 g m mp mf mh mn mt mz mc_ mq mgr ml mi mr mm mu mk mx 0 4 80 35 30 50 0 0 0 0 0 (-1) 0 0 0 0 (g.2.2 4)) rfl rfl (Nat.le_of_ble_eq_true rfl) rfl (by decide) (by omega) (by omega) (fun E cs1 hx => ?_) (fun v cs1 hx => ?_)
    · exact absurd hx.1 (by simp)
    · obtain ⟨e1, rfl⟩ := hx
      cases e1
      refine ⟨rfl, ?_⟩
      refine r_st (st2 := [.int 0]) rfl ?_
      refine r_istore (lv' := [(7, .int 0), (6, .int 1), (5, .int 0), (4, .ref o2), (3, .ref o1), (2, .ref m), (1, .ref a), (0, .ref (g.2.2 40))]) d_Lw_law_2295 (by decide) rfl ?_
      refine r_aload_n d_Lw_law_2297 rfl 5 rfl ?_
      refine r_callV (As := []) (rest := []) (csC := [(m, .inr (12, [.int 1, .ref mp, .int 4, .ref mf, .ref mh, .ref mn, .ref mt, .ref mz, .ref mc_, .ref mq, .ref mgr, .int 80, .int 35, .int 30, .int 50, .int 0, .int 0, .ref ml, .ref mi, .ref mr, .int 0, .int 0, .int 0, .int (-1), .int 0, .ref mm, .ref mu, .ref mk, .ref mx, .long 0, .long 0]))]) (is := [52]) (q0 := 52) rfl rfl ln_Lw_175 w_im_Mm_thrown w_se_Mm_thrown ok_Lw_law_Mm_thrown d_Lw_law_2298 (C_Mm_thrown g m mp mf mh mn mt mz mc_ mq mgr ml mi mr mm mu mk mx 1 4 80 35 30 50 0 0 0 0 0 (-1) 0 0 0) rfl rfl (Nat.le_of_ble_eq_true rfl) rfl (by decide) (by omega) (by omega) (fun E cs1 hx => ?_) (fun v cs1 hx => ?_)
      · exact absurd hx.1 (by simp)
      · obtain ⟨e1, rfl⟩ := hx
        cases e1
        refine ⟨rfl, ?_⟩
        refine r_st (st2 := [.int 1]) rfl ?_
        refine r_iload d_Lw_law_2301 1 rfl ?_
        refine r_icmp_eq (tgt := 2308) d_Lw_law_2303 (by decide) (fun c_2303 => ?_) (fun c_2303 => ?_)
        · refine r_iload d_Lw_law_2308 1 rfl ?_
          refine r_if_ne (tgt := 2325) d_Lw_law_2310 (by decide) (fun c_2310 => ?_) (fun c_2310 => ?_)
          · refine r_goto (tgt := 3019) d_Lw_law_2325 (by decide) ?_
            refine r_lv (lv' := [(5, .int 0), (0, .ref (g.2.2 40))]) [2, 7] rfl ?_
            exact LW_tail g _ hL _ _ w0 n
          · exact absurd c_2310 (by decide)
        · exact absurd c_2303 (by decide)
theorem d_Lw_law_2328 : decode code 2328 = .ok (.aload_n 1, 1) := by decide +kernel
theorem d_Lw_law_2329 : decode code 2329 = .ok (.invokevirtual 297, 3) := by decide +kernel
theorem ok_Lw_law_Ip_castings : z_ok M_Lw_law M_Ip_castings 0 := ⟨z_mem (i := 465) (by decide +kernel) (by decide +kernel), rfl, ⟨by decide +kernel, by decide +kernel, by decide +kernel⟩, ⟨by decide, by decide⟩, z_mem (i := 58) (by decide +kernel) (by decide +kernel), rfl⟩
theorem ln_Lw_297 : Cond.methodLink "IronpourLaw" 297 M_Ip_castings.1 ∈ z_gw := z_mem (i := 462) (by decide +kernel) (by decide +kernel)
theorem w_im_Ip_castings : Cond.instanceMethod M_Ip_castings.1 ∈ z_gw := z_mem (i := 463) (by decide +kernel) (by decide +kernel)
theorem w_se_Ip_castings : Cond.selects M_Ip_castings.1.cls M_Ip_castings.1 M_Ip_castings.1 ∈ z_gw := z_mem (i := 464) (by decide +kernel) (by decide +kernel)
theorem d_Lw_law_2332 : decode code 2332 = .ok (.aload_n 2, 1) := by decide +kernel
theorem d_Lw_law_2333 : decode code 2333 = .ok (.invokevirtual 300, 3) := by decide +kernel
theorem ok_Lw_law_Mm_castings : z_ok M_Lw_law M_Mm_castings 0 := ⟨z_mem (i := 1986) (by decide +kernel) (by decide +kernel), rfl, ⟨by decide +kernel, by decide +kernel, by decide +kernel⟩, ⟨by decide, by decide⟩, z_mem (i := 71) (by decide +kernel) (by decide +kernel), rfl⟩
theorem ln_Lw_300 : Cond.methodLink "IronpourLaw" 300 M_Mm_castings.1 ∈ z_gw := z_mem (i := 1983) (by decide +kernel) (by decide +kernel)
theorem w_im_Mm_castings : Cond.instanceMethod M_Mm_castings.1 ∈ z_gw := z_mem (i := 1984) (by decide +kernel) (by decide +kernel)
theorem w_se_Mm_castings : Cond.selects M_Mm_castings.1.cls M_Mm_castings.1 M_Mm_castings.1 ∈ z_gw := z_mem (i := 1985) (by decide +kernel) (by decide +kernel)
theorem d_Lw_law_2336 : decode code 2336 = .ok (.if_icmp .eq 683, 3) := by decide +kernel
set_option maxHeartbeats 4000000 in
set_option maxRecDepth 100000 in
theorem LW_castings (g : zG) (a pa pa1 pa2 pa3 ta ta1 ta2 taz taz1 taz2 taz3 taz4 taz5 taz6 ta4 ta5 ta6 sa sa1 sa2 saz saz1 saz2 saz3 saz4 saz5 saz6 sa4 sa5 sa6 gs co co1 co2 co3 fu fub fubg fut1 fut2 fut3 la lab labg gy gyg du dug re wm ac m mp mf mh mn mt mz mc_ mq mgr ml mi mr mm mu mk mx o1 o2 : Nat) (hL : g.2.2 41 = 7) (w0 : zW) (n : Nat) : DV g M_Lw_law (lwP) w0 n 2328 [(5, .int 0), (4, .ref o2), (3, .ref o1), (2, .ref m), (1, .ref a), (0, .ref (g.2.2 40))] [] (lwCS g a pa pa1 pa2 pa3 ta ta1 ta2 taz taz1 taz2 taz3 taz4 taz5 taz6 ta4 ta5 ta6 sa sa1 sa2 saz saz1 saz2 saz3 saz4 saz5 saz6 sa4 sa5 sa6 gs co co1 co2 co3 fu fub fubg fut1 fut2 fut3 la lab labg gy gyg du dug re wm ac m mp mf mh mn mt mz mc_ mq mgr ml mi mr mm mu mk mx o1 o2) 100 1000 := by
  refine r_aload_n d_Lw_law_2328 rfl 4 rfl ?_
  refine r_callV (As := []) (rest := []) (csC := [(a, .inr (11, [.ref pa, .ref ta, .ref sa, .ref gs, .ref co, .ref fu, .ref la, .ref gy, .ref du, .ref re, .ref wm, .ref ac])), (ac, .inr (13, [.int 0, .ref (g.2.2 4), .int 0]))]) (is := [0, 51]) (q0 := 0) rfl rfl ln_Lw_297 w_im_Ip_castings w_se_Ip_castings ok_Lw_law_Ip_castings d_Lw_law_2329 (C_Ip_castings g a pa ta sa gs co fu la gy du re wm ac 0 (g.2.2 4) 0) rfl rfl (Nat.le_of_ble_eq_true rfl) rfl (by decide) (by omega) (by omega) (fun E cs1 hx => ?_) (fun v cs1 hx => ?_)
  · exact absurd hx.1 (by simp)
  · obtain ⟨e1, rfl⟩ := hx
    cases e1
    refine ⟨rfl, ?_⟩
    refine r_st (st2 := [.int 0]) rfl ?_
    refine r_aload_n d_Lw_law_2332 rfl 3 rfl ?_
    refine r_callV (As := []) (rest := [.int 0]) (csC := [(m, .inr (12, [.int 0, .ref mp, .int 4, .ref mf, .ref mh, .ref mn, .ref mt, .ref mz, .ref mc_, .ref mq, .ref mgr, .int 80, .int 35, .int 30, .int 50, .int 0, .int 0, .ref ml, .ref mi, .ref mr, .int 0, .int 0, .int 0, .int (-1), .int 0, .ref mm, .ref mu, .ref mk, .ref mx, .long 0, .long 0])), (mk, .inr (13, [.int 0, .ref (g.2.2 4), .int 0]))]) (is := [52, 67]) (q0 := 52) rfl rfl ln_Lw_300 w_im_Mm_castings w_se_Mm_castings ok_Lw_law_Mm_castings d_Lw_law_2333 (C_Mm_castings0 g m mp mf mh mn mt mz mc_ mq mgr ml mi mr mm mu mk mx 0 4 80 35 30 50 0 0 0 0 0 (-1) 0 0 0 0 (g.2.2 4)) rfl rfl (Nat.le_of_ble_eq_true rfl) rfl (by decide) (by omega) (by omega) (fun E cs1 hx => ?_) (fun v cs1 hx => ?_)
    · exact absurd hx.1 (by simp)
    · obtain ⟨e1, rfl⟩ := hx
      cases e1
      refine ⟨rfl, ?_⟩
      refine r_st (st2 := [.int 0, .int 0]) rfl ?_
      refine r_icmp_eq (tgt := 3019) d_Lw_law_2336 (by decide) (fun c_2336 => ?_) (fun c_2336 => ?_)
      · refine r_lv (lv' := [(5, .int 0), (0, .ref (g.2.2 40))]) [0, 5] rfl ?_
        exact LW_tail g _ hL _ _ w0 n
      · exact absurd c_2336 (by decide)
theorem d_Lw_law_2341 : decode code 2341 = .ok (.aload_n 1, 1) := by decide +kernel
theorem d_Lw_law_2342 : decode code 2342 = .ok (.aload_n 0, 1) := by decide +kernel
theorem d_Lw_law_2343 : decode code 2343 = .ok (.iload 5, 2) := by decide +kernel
theorem d_Lw_law_2345 : decode code 2345 = .ok (.iconst 1, 1) := by decide +kernel
theorem d_Lw_law_2346 : decode code 2346 = .ok (.iadd, 1) := by decide +kernel
theorem d_Lw_law_2347 : decode code 2347 = .ok (.iaload, 1) := by decide +kernel
theorem d_Lw_law_2348 : decode code 2348 = .ok (.aload_n 3, 1) := by decide +kernel
theorem d_Lw_law_2349 : decode code 2349 = .ok (.invokestatic 301, 3) := by decide +kernel
theorem ok_Lw_law_Lw_alloy : z_okX M_Lw_law M_Lw_alloy 3 := ⟨z_mem (i := 1442) (by decide +kernel) (by decide +kernel), by decide, ⟨by decide +kernel, by decide +kernel, by decide +kernel⟩, ⟨by decide, by decide⟩, z_mem (i := 57) (by decide +kernel) (by decide +kernel), rfl⟩
theorem ln_Lw_301 : Cond.methodLink "IronpourLaw" 301 M_Lw_alloy.1 ∈ z_gw := z_mem (i := 1440) (by decide +kernel) (by decide +kernel)
theorem w_st_Lw_alloy : Cond.static M_Lw_alloy.1 ∈ z_gw := z_mem (i := 1441) (by decide +kernel) (by decide +kernel)
theorem d_Lw_law_2352 : decode code 2352 = .ok (.istore 6, 2) := by decide +kernel
theorem d_Lw_law_2354 : decode code 2354 = .ok (.aload_n 2, 1) := by decide +kernel
theorem d_Lw_law_2355 : decode code 2355 = .ok (.aload_n 0, 1) := by decide +kernel
theorem d_Lw_law_2356 : decode code 2356 = .ok (.iload 5, 2) := by decide +kernel
theorem d_Lw_law_2358 : decode code 2358 = .ok (.iconst 1, 1) := by decide +kernel
theorem d_Lw_law_2359 : decode code 2359 = .ok (.iadd, 1) := by decide +kernel
theorem d_Lw_law_2360 : decode code 2360 = .ok (.iaload, 1) := by decide +kernel
theorem d_Lw_law_2361 : decode code 2361 = .ok (.invokevirtual 303, 3) := by decide +kernel
theorem ok_Lw_law_Mm_alloy : z_ok M_Lw_law M_Mm_alloy 1 := ⟨z_mem (i := 1990) (by decide +kernel) (by decide +kernel), rfl, ⟨by decide +kernel, by decide +kernel, by decide +kernel⟩, ⟨by decide, by decide⟩, z_mem (i := 71) (by decide +kernel) (by decide +kernel), rfl⟩
theorem ln_Lw_303 : Cond.methodLink "IronpourLaw" 303 M_Mm_alloy.1 ∈ z_gw := z_mem (i := 1987) (by decide +kernel) (by decide +kernel)
theorem w_im_Mm_alloy : Cond.instanceMethod M_Mm_alloy.1 ∈ z_gw := z_mem (i := 1988) (by decide +kernel) (by decide +kernel)
theorem w_se_Mm_alloy : Cond.selects M_Mm_alloy.1.cls M_Mm_alloy.1 M_Mm_alloy.1 ∈ z_gw := z_mem (i := 1989) (by decide +kernel) (by decide +kernel)
theorem d_Lw_law_2364 : decode code 2364 = .ok (.istore 7, 2) := by decide +kernel
theorem d_Lw_law_2366 : decode code 2366 = .ok (.aload_n 2, 1) := by decide +kernel
theorem d_Lw_law_2367 : decode code 2367 = .ok (.invokevirtual 175, 3) := by decide +kernel
theorem d_Lw_law_2370 : decode code 2370 = .ok (.iload 6, 2) := by decide +kernel
theorem d_Lw_law_2372 : decode code 2372 = .ok (.if_icmp .eq 5, 3) := by decide +kernel
theorem d_Lw_law_2377 : decode code 2377 = .ok (.iload 6, 2) := by decide +kernel
theorem d_Lw_law_2379 : decode code 2379 = .ok (.ifCond .ne 15, 3) := by decide +kernel
theorem d_Lw_law_2394 : decode code 2394 = .ok (.goto 625, 3) := by decide +kernel
set_option maxHeartbeats 4000000 in
set_option maxRecDepth 100000 in
theorem LW_alloyE (g : zG) (a pa pa1 pa2 pa3 ta ta1 ta2 taz taz1 taz2 taz3 taz4 taz5 taz6 ta4 ta5 ta6 sa sa1 sa2 saz saz1 saz2 saz3 saz4 saz5 saz6 sa4 sa5 sa6 gs co co1 co2 co3 fu fub fubg fut1 fut2 fut3 la lab labg gy gyg du dug re wm ac m mp mf mh mn mt mz mc_ mq mgr ml mi mr mm mu mk mx o1 o2 : Nat) (hL : g.2.2 41 = 7) (w0 : zW) (n : Nat) : DV g M_Lw_law (lwP) w0 n 2341 [(5, .int 0), (4, .ref o2), (3, .ref o1), (2, .ref m), (1, .ref a), (0, .ref (g.2.2 40))] [] (lwCS g a pa pa1 pa2 pa3 ta ta1 ta2 taz taz1 taz2 taz3 taz4 taz5 taz6 ta4 ta5 ta6 sa sa1 sa2 saz saz1 saz2 saz3 saz4 saz5 saz6 sa4 sa5 sa6 gs co co1 co2 co3 fu fub fubg fut1 fut2 fut3 la lab labg gy gyg du dug re wm ac m mp mf mh mn mt mz mc_ mq mgr ml mi mr mm mu mk mx o1 o2) 100 1000 := by
  refine r_aload_n d_Lw_law_2341 rfl 4 rfl ?_
  refine r_aload_n d_Lw_law_2342 rfl 5 rfl ?_
  refine r_iload d_Lw_law_2343 0 rfl ?_
  refine r_iconst d_Lw_law_2345 (v := 1) (by decide) ?_
  refine r_iadd d_Lw_law_2346 (v := 1) rfl ?_
  refine r_sld (v := zs g 1) d_Lw_law_2347 (by rw [hL]; exact fun q => q.elim (by decide) (by decide)) rfl ?_
  refine r_aload_n d_Lw_law_2348 rfl 2 rfl ?_
  refine r_callSX (As := [.ref a, .int (zs g 1), .ref o1]) (rest := []) (csC := [(a, .inr (11, [.ref pa, .ref ta, .ref sa, .ref gs, .ref co, .ref fu, .ref la, .ref gy, .ref du, .ref re, .ref wm, .ref ac])), (ac, .inr (13, [.int 0, .ref (g.2.2 4), .int 0])), (o1, .inl (3, 1, .inr (.inl (fun _ => 0))))]) (is := [0, 51, 69]) ln_Lw_301 w_st_Lw_alloy ok_Lw_law_Lw_alloy d_Lw_law_2349 (C_Lw_alloyE g a pa ta sa gs co fu la gy du re wm ac 0 (g.2.2 4) 0 (zs g 1) (z_tot _) o1 (fun _ => 0)) rfl rfl (Nat.le_of_ble_eq_true rfl) rfl (by decide) (by omega) (by omega) (fun E cs1 hx => ?_) (fun v cs1 hx => ?_)
  · exact absurd hx.1 (by simp)
  · obtain ⟨e1, rfl⟩ := hx
    cases e1
    refine ⟨rfl, ?_⟩
    refine r_st (st2 := [.int 1]) rfl ?_
    refine r_istore (lv' := [(6, .int 1), (5, .int 0), (4, .ref o2), (3, .ref o1), (2, .ref m), (1, .ref a), (0, .ref (g.2.2 40))]) d_Lw_law_2352 (by decide) rfl ?_
    refine r_aload_n d_Lw_law_2354 rfl 4 rfl ?_
    refine r_aload_n d_Lw_law_2355 rfl 6 rfl ?_
    refine r_iload d_Lw_law_2356 1 rfl ?_
    refine r_iconst d_Lw_law_2358 (v := 1) (by decide) ?_
    refine r_iadd d_Lw_law_2359 (v := 1) rfl ?_
    refine r_sld (v := zs g 1) d_Lw_law_2360 (by rw [hL]; exact fun q => q.elim (by decide) (by decide)) rfl ?_
    refine r_callV (As := [.int (zs g 1)]) (rest := []) (csC := [(m, .inr (12, [.int 0, .ref mp, .int 4, .ref mf, .ref mh, .ref mn, .ref mt, .ref mz, .ref mc_, .ref mq, .ref mgr, .int 80, .int 35, .int 30, .int 50, .int 0, .int 0, .ref ml, .ref mi, .ref mr, .int 0, .int 0, .int 0, .int (-1), .int 0, .ref mm, .ref mu, .ref mk, .ref mx, .long 0, .long 0])), (mk, .inr (13, [.int 0, .ref (g.2.2 4), .int 0]))]) (is := [52, 67]) (q0 := 52) rfl rfl ln_Lw_303 w_im_Mm_alloy w_se_Mm_alloy ok_Lw_law_Mm_alloy d_Lw_law_2361 (C_Mm_alloy0 g m mp mf mh mn mt mz mc_ mq mgr ml mi mr mm mu mk mx 0 4 80 35 30 50 0 0 0 0 0 (-1) 0 0 0 0 (g.2.2 4) (zs g 1)) rfl rfl (Nat.le_of_ble_eq_true rfl) rfl (by decide) (by omega) (by omega) (fun E cs1 hx => ?_) (fun v cs1 hx => ?_)
    · exact absurd hx.1 (by simp)
    · obtain ⟨e1, rfl⟩ := hx
      cases e1
      refine ⟨rfl, ?_⟩
      refine r_st (st2 := [.int 0]) rfl ?_
      refine r_istore (lv' := [(7, .int 0), (6, .int 1), (5, .int 0), (4, .ref o2), (3, .ref o1), (2, .ref m), (1, .ref a), (0, .ref (g.2.2 40))]) d_Lw_law_2364 (by decide) rfl ?_
      refine r_aload_n d_Lw_law_2366 rfl 5 rfl ?_
      refine r_callV (As := []) (rest := []) (csC := [(m, .inr (12, [.int 1, .ref mp, .int 4, .ref mf, .ref mh, .ref mn, .ref mt, .ref mz, .ref mc_, .ref mq, .ref mgr, .int 80, .int 35, .int 30, .int 50, .int 0, .int 0, .ref ml, .ref mi, .ref mr, .int 0, .int 0, .int 0, .int (-1), .int 0, .ref mm, .ref mu, .ref mk, .ref mx, .long 0, .long 0]))]) (is := [52]) (q0 := 52) rfl rfl ln_Lw_175 w_im_Mm_thrown w_se_Mm_thrown ok_Lw_law_Mm_thrown d_Lw_law_2367 (C_Mm_thrown g m mp mf mh mn mt mz mc_ mq mgr ml mi mr mm mu mk mx 1 4 80 35 30 50 0 0 0 0 0 (-1) 0 0 0) rfl rfl (Nat.le_of_ble_eq_true rfl) rfl (by decide) (by omega) (by omega) (fun E cs1 hx => ?_) (fun v cs1 hx => ?_)
      · exact absurd hx.1 (by simp)
      · obtain ⟨e1, rfl⟩ := hx
        cases e1
        refine ⟨rfl, ?_⟩
        refine r_st (st2 := [.int 1]) rfl ?_
        refine r_iload d_Lw_law_2370 1 rfl ?_
        refine r_icmp_eq (tgt := 2377) d_Lw_law_2372 (by decide) (fun c_2372 => ?_) (fun c_2372 => ?_)
        · refine r_iload d_Lw_law_2377 1 rfl ?_
          refine r_if_ne (tgt := 2394) d_Lw_law_2379 (by decide) (fun c_2379 => ?_) (fun c_2379 => ?_)
          · refine r_goto (tgt := 3019) d_Lw_law_2394 (by decide) ?_
            refine r_lv (lv' := [(5, .int 0), (0, .ref (g.2.2 40))]) [2, 7] rfl ?_
            exact LW_tail g _ hL _ _ w0 n
          · exact absurd c_2379 (by decide)
        · exact absurd c_2372 (by decide)
theorem d_Lw_law_2397 : decode code 2397 = .ok (.aload_n 1, 1) := by decide +kernel
theorem d_Lw_law_2398 : decode code 2398 = .ok (.aload_n 0, 1) := by decide +kernel
theorem d_Lw_law_2399 : decode code 2399 = .ok (.iload 5, 2) := by decide +kernel
theorem d_Lw_law_2401 : decode code 2401 = .ok (.iconst 1, 1) := by decide +kernel
theorem d_Lw_law_2402 : decode code 2402 = .ok (.iadd, 1) := by decide +kernel
theorem d_Lw_law_2403 : decode code 2403 = .ok (.iaload, 1) := by decide +kernel
theorem d_Lw_law_2404 : decode code 2404 = .ok (.aload_n 3, 1) := by decide +kernel
theorem d_Lw_law_2405 : decode code 2405 = .ok (.invokestatic 304, 3) := by decide +kernel
theorem ok_Lw_law_Lw_faults : z_okX M_Lw_law M_Lw_faults 3 := ⟨z_mem (i := 1455) (by decide +kernel) (by decide +kernel), by decide, ⟨by decide +kernel, by decide +kernel, by decide +kernel⟩, ⟨by decide, by decide⟩, z_mem (i := 57) (by decide +kernel) (by decide +kernel), rfl⟩
theorem ln_Lw_304 : Cond.methodLink "IronpourLaw" 304 M_Lw_faults.1 ∈ z_gw := z_mem (i := 1453) (by decide +kernel) (by decide +kernel)
theorem w_st_Lw_faults : Cond.static M_Lw_faults.1 ∈ z_gw := z_mem (i := 1454) (by decide +kernel) (by decide +kernel)
theorem d_Lw_law_2408 : decode code 2408 = .ok (.istore 6, 2) := by decide +kernel
theorem d_Lw_law_2410 : decode code 2410 = .ok (.aload_n 2, 1) := by decide +kernel
theorem d_Lw_law_2411 : decode code 2411 = .ok (.aload_n 0, 1) := by decide +kernel
theorem d_Lw_law_2412 : decode code 2412 = .ok (.iload 5, 2) := by decide +kernel
theorem d_Lw_law_2414 : decode code 2414 = .ok (.iconst 1, 1) := by decide +kernel
theorem d_Lw_law_2415 : decode code 2415 = .ok (.iadd, 1) := by decide +kernel
theorem d_Lw_law_2416 : decode code 2416 = .ok (.iaload, 1) := by decide +kernel
theorem d_Lw_law_2417 : decode code 2417 = .ok (.invokevirtual 306, 3) := by decide +kernel
theorem ok_Lw_law_Mm_faults : z_ok M_Lw_law M_Mm_faults 1 := ⟨z_mem (i := 1998) (by decide +kernel) (by decide +kernel), rfl, ⟨by decide +kernel, by decide +kernel, by decide +kernel⟩, ⟨by decide, by decide⟩, z_mem (i := 71) (by decide +kernel) (by decide +kernel), rfl⟩
theorem ln_Lw_306 : Cond.methodLink "IronpourLaw" 306 M_Mm_faults.1 ∈ z_gw := z_mem (i := 1995) (by decide +kernel) (by decide +kernel)
theorem w_im_Mm_faults : Cond.instanceMethod M_Mm_faults.1 ∈ z_gw := z_mem (i := 1996) (by decide +kernel) (by decide +kernel)
theorem w_se_Mm_faults : Cond.selects M_Mm_faults.1.cls M_Mm_faults.1 M_Mm_faults.1 ∈ z_gw := z_mem (i := 1997) (by decide +kernel) (by decide +kernel)
theorem d_Lw_law_2420 : decode code 2420 = .ok (.istore 7, 2) := by decide +kernel
theorem d_Lw_law_2422 : decode code 2422 = .ok (.aload_n 2, 1) := by decide +kernel
theorem d_Lw_law_2423 : decode code 2423 = .ok (.invokevirtual 175, 3) := by decide +kernel
theorem d_Lw_law_2426 : decode code 2426 = .ok (.iload 6, 2) := by decide +kernel
theorem d_Lw_law_2428 : decode code 2428 = .ok (.if_icmp .eq 5, 3) := by decide +kernel
theorem d_Lw_law_2433 : decode code 2433 = .ok (.iload 6, 2) := by decide +kernel
theorem d_Lw_law_2435 : decode code 2435 = .ok (.ifCond .ne 15, 3) := by decide +kernel
theorem d_Lw_law_2450 : decode code 2450 = .ok (.goto 569, 3) := by decide +kernel
set_option maxHeartbeats 4000000 in
set_option maxRecDepth 100000 in
theorem LW_faultsE (g : zG) (a pa pa1 pa2 pa3 ta ta1 ta2 taz taz1 taz2 taz3 taz4 taz5 taz6 ta4 ta5 ta6 sa sa1 sa2 saz saz1 saz2 saz3 saz4 saz5 saz6 sa4 sa5 sa6 gs co co1 co2 co3 fu fub fubg fut1 fut2 fut3 la lab labg gy gyg du dug re wm ac m mp mf mh mn mt mz mc_ mq mgr ml mi mr mm mu mk mx o1 o2 : Nat) (hL : g.2.2 41 = 7) (w0 : zW) (n : Nat) : DV g M_Lw_law (lwP) w0 n 2397 [(5, .int 0), (4, .ref o2), (3, .ref o1), (2, .ref m), (1, .ref a), (0, .ref (g.2.2 40))] [] (lwCS g a pa pa1 pa2 pa3 ta ta1 ta2 taz taz1 taz2 taz3 taz4 taz5 taz6 ta4 ta5 ta6 sa sa1 sa2 saz saz1 saz2 saz3 saz4 saz5 saz6 sa4 sa5 sa6 gs co co1 co2 co3 fu fub fubg fut1 fut2 fut3 la lab labg gy gyg du dug re wm ac m mp mf mh mn mt mz mc_ mq mgr ml mi mr mm mu mk mx o1 o2) 100 1000 := by
  refine r_aload_n d_Lw_law_2397 rfl 4 rfl ?_
  refine r_aload_n d_Lw_law_2398 rfl 5 rfl ?_
  refine r_iload d_Lw_law_2399 0 rfl ?_
  refine r_iconst d_Lw_law_2401 (v := 1) (by decide) ?_
  refine r_iadd d_Lw_law_2402 (v := 1) rfl ?_
  refine r_sld (v := zs g 1) d_Lw_law_2403 (by rw [hL]; exact fun q => q.elim (by decide) (by decide)) rfl ?_
  refine r_aload_n d_Lw_law_2404 rfl 2 rfl ?_
  refine r_callSX (As := [.ref a, .int (zs g 1), .ref o1]) (rest := []) (csC := [(a, .inr (11, [.ref pa, .ref ta, .ref sa, .ref gs, .ref co, .ref fu, .ref la, .ref gy, .ref du, .ref re, .ref wm, .ref ac])), (ac, .inr (13, [.int 0, .ref (g.2.2 4), .int 0])), (o1, .inl (3, 1, .inr (.inl (fun _ => 0))))]) (is := [0, 51, 69]) ln_Lw_304 w_st_Lw_faults ok_Lw_law_Lw_faults d_Lw_law_2405 (C_Lw_faultsE g a pa ta sa gs co fu la gy du re wm ac 0 (g.2.2 4) 0 (zs g 1) (z_tot _) o1 (fun _ => 0)) rfl rfl (Nat.le_of_ble_eq_true rfl) rfl (by decide) (by omega) (by omega) (fun E cs1 hx => ?_) (fun v cs1 hx => ?_)
  · exact absurd hx.1 (by simp)
  · obtain ⟨e1, rfl⟩ := hx
    cases e1
    refine ⟨rfl, ?_⟩
    refine r_st (st2 := [.int 1]) rfl ?_
    refine r_istore (lv' := [(6, .int 1), (5, .int 0), (4, .ref o2), (3, .ref o1), (2, .ref m), (1, .ref a), (0, .ref (g.2.2 40))]) d_Lw_law_2408 (by decide) rfl ?_
    refine r_aload_n d_Lw_law_2410 rfl 4 rfl ?_
    refine r_aload_n d_Lw_law_2411 rfl 6 rfl ?_
    refine r_iload d_Lw_law_2412 1 rfl ?_
    refine r_iconst d_Lw_law_2414 (v := 1) (by decide) ?_
    refine r_iadd d_Lw_law_2415 (v := 1) rfl ?_
    refine r_sld (v := zs g 1) d_Lw_law_2416 (by rw [hL]; exact fun q => q.elim (by decide) (by decide)) rfl ?_
    refine r_callV (As := [.int (zs g 1)]) (rest := []) (csC := [(m, .inr (12, [.int 0, .ref mp, .int 4, .ref mf, .ref mh, .ref mn, .ref mt, .ref mz, .ref mc_, .ref mq, .ref mgr, .int 80, .int 35, .int 30, .int 50, .int 0, .int 0, .ref ml, .ref mi, .ref mr, .int 0, .int 0, .int 0, .int (-1), .int 0, .ref mm, .ref mu, .ref mk, .ref mx, .long 0, .long 0])), (mk, .inr (13, [.int 0, .ref (g.2.2 4), .int 0]))]) (is := [52, 67]) (q0 := 52) rfl rfl ln_Lw_306 w_im_Mm_faults w_se_Mm_faults ok_Lw_law_Mm_faults d_Lw_law_2417 (C_Mm_faults0 g m mp mf mh mn mt mz mc_ mq mgr ml mi mr mm mu mk mx 0 4 80 35 30 50 0 0 0 0 0 (-1) 0 0 0 0 (g.2.2 4) (zs g 1)) rfl rfl (Nat.le_of_ble_eq_true rfl) rfl (by decide) (by omega) (by omega) (fun E cs1 hx => ?_) (fun v cs1 hx => ?_)
    · exact absurd hx.1 (by simp)
    · obtain ⟨e1, rfl⟩ := hx
      cases e1
      refine ⟨rfl, ?_⟩
      refine r_st (st2 := [.int 0]) rfl ?_
      refine r_istore (lv' := [(7, .int 0), (6, .int 1), (5, .int 0), (4, .ref o2), (3, .ref o1), (2, .ref m), (1, .ref a), (0, .ref (g.2.2 40))]) d_Lw_law_2420 (by decide) rfl ?_
      refine r_aload_n d_Lw_law_2422 rfl 5 rfl ?_
      refine r_callV (As := []) (rest := []) (csC := [(m, .inr (12, [.int 1, .ref mp, .int 4, .ref mf, .ref mh, .ref mn, .ref mt, .ref mz, .ref mc_, .ref mq, .ref mgr, .int 80, .int 35, .int 30, .int 50, .int 0, .int 0, .ref ml, .ref mi, .ref mr, .int 0, .int 0, .int 0, .int (-1), .int 0, .ref mm, .ref mu, .ref mk, .ref mx, .long 0, .long 0]))]) (is := [52]) (q0 := 52) rfl rfl ln_Lw_175 w_im_Mm_thrown w_se_Mm_thrown ok_Lw_law_Mm_thrown d_Lw_law_2423 (C_Mm_thrown g m mp mf mh mn mt mz mc_ mq mgr ml mi mr mm mu mk mx 1 4 80 35 30 50 0 0 0 0 0 (-1) 0 0 0) rfl rfl (Nat.le_of_ble_eq_true rfl) rfl (by decide) (by omega) (by omega) (fun E cs1 hx => ?_) (fun v cs1 hx => ?_)
      · exact absurd hx.1 (by simp)
      · obtain ⟨e1, rfl⟩ := hx
        cases e1
        refine ⟨rfl, ?_⟩
        refine r_st (st2 := [.int 1]) rfl ?_
        refine r_iload d_Lw_law_2426 1 rfl ?_
        refine r_icmp_eq (tgt := 2433) d_Lw_law_2428 (by decide) (fun c_2428 => ?_) (fun c_2428 => ?_)
        · refine r_iload d_Lw_law_2433 1 rfl ?_
          refine r_if_ne (tgt := 2450) d_Lw_law_2435 (by decide) (fun c_2435 => ?_) (fun c_2435 => ?_)
          · refine r_goto (tgt := 3019) d_Lw_law_2450 (by decide) ?_
            refine r_lv (lv' := [(5, .int 0), (0, .ref (g.2.2 40))]) [2, 7] rfl ?_
            exact LW_tail g _ hL _ _ w0 n
          · exact absurd c_2435 (by decide)
        · exact absurd c_2428 (by decide)
theorem d_Lw_law_2453 : decode code 2453 = .ok (.aload_n 1, 1) := by decide +kernel
theorem d_Lw_law_2454 : decode code 2454 = .ok (.aload_n 0, 1) := by decide +kernel
theorem d_Lw_law_2455 : decode code 2455 = .ok (.iload 5, 2) := by decide +kernel
theorem d_Lw_law_2457 : decode code 2457 = .ok (.iconst 1, 1) := by decide +kernel
theorem d_Lw_law_2458 : decode code 2458 = .ok (.iadd, 1) := by decide +kernel
theorem d_Lw_law_2459 : decode code 2459 = .ok (.iaload, 1) := by decide +kernel
theorem d_Lw_law_2460 : decode code 2460 = .ok (.aload_n 3, 1) := by decide +kernel
theorem d_Lw_law_2461 : decode code 2461 = .ok (.invokestatic 307, 3) := by decide +kernel
theorem ok_Lw_law_Lw_shrunkIn : z_okX M_Lw_law M_Lw_shrunkIn 3 := ⟨z_mem (i := 1462) (by decide +kernel) (by decide +kernel), by decide, ⟨by decide +kernel, by decide +kernel, by decide +kernel⟩, ⟨by decide, by decide⟩, z_mem (i := 57) (by decide +kernel) (by decide +kernel), rfl⟩
theorem ln_Lw_307 : Cond.methodLink "IronpourLaw" 307 M_Lw_shrunkIn.1 ∈ z_gw := z_mem (i := 1460) (by decide +kernel) (by decide +kernel)
theorem w_st_Lw_shrunkIn : Cond.static M_Lw_shrunkIn.1 ∈ z_gw := z_mem (i := 1461) (by decide +kernel) (by decide +kernel)
theorem d_Lw_law_2464 : decode code 2464 = .ok (.istore 6, 2) := by decide +kernel
theorem d_Lw_law_2466 : decode code 2466 = .ok (.aload_n 2, 1) := by decide +kernel
theorem d_Lw_law_2467 : decode code 2467 = .ok (.aload_n 0, 1) := by decide +kernel
theorem d_Lw_law_2468 : decode code 2468 = .ok (.iload 5, 2) := by decide +kernel
theorem d_Lw_law_2470 : decode code 2470 = .ok (.iconst 1, 1) := by decide +kernel
theorem d_Lw_law_2471 : decode code 2471 = .ok (.iadd, 1) := by decide +kernel
theorem d_Lw_law_2472 : decode code 2472 = .ok (.iaload, 1) := by decide +kernel
theorem d_Lw_law_2473 : decode code 2473 = .ok (.invokevirtual 309, 3) := by decide +kernel
theorem ok_Lw_law_Mm_shrunkIn : z_ok M_Lw_law M_Mm_shrunkIn 1 := ⟨z_mem (i := 2002) (by decide +kernel) (by decide +kernel), rfl, ⟨by decide +kernel, by decide +kernel, by decide +kernel⟩, ⟨by decide, by decide⟩, z_mem (i := 71) (by decide +kernel) (by decide +kernel), rfl⟩
theorem ln_Lw_309 : Cond.methodLink "IronpourLaw" 309 M_Mm_shrunkIn.1 ∈ z_gw := z_mem (i := 1999) (by decide +kernel) (by decide +kernel)
theorem w_im_Mm_shrunkIn : Cond.instanceMethod M_Mm_shrunkIn.1 ∈ z_gw := z_mem (i := 2000) (by decide +kernel) (by decide +kernel)
theorem w_se_Mm_shrunkIn : Cond.selects M_Mm_shrunkIn.1.cls M_Mm_shrunkIn.1 M_Mm_shrunkIn.1 ∈ z_gw := z_mem (i := 2001) (by decide +kernel) (by decide +kernel)
theorem d_Lw_law_2476 : decode code 2476 = .ok (.istore 7, 2) := by decide +kernel
theorem d_Lw_law_2478 : decode code 2478 = .ok (.aload_n 2, 1) := by decide +kernel
theorem d_Lw_law_2479 : decode code 2479 = .ok (.invokevirtual 175, 3) := by decide +kernel
theorem d_Lw_law_2482 : decode code 2482 = .ok (.iload 6, 2) := by decide +kernel
theorem d_Lw_law_2484 : decode code 2484 = .ok (.if_icmp .eq 5, 3) := by decide +kernel
theorem d_Lw_law_2489 : decode code 2489 = .ok (.iload 6, 2) := by decide +kernel
theorem d_Lw_law_2491 : decode code 2491 = .ok (.ifCond .ne 15, 3) := by decide +kernel
theorem d_Lw_law_2506 : decode code 2506 = .ok (.goto 513, 3) := by decide +kernel
set_option maxHeartbeats 4000000 in
set_option maxRecDepth 100000 in
theorem LW_shrunkInE (g : zG) (a pa pa1 pa2 pa3 ta ta1 ta2 taz taz1 taz2 taz3 taz4 taz5 taz6 ta4 ta5 ta6 sa sa1 sa2 saz saz1 saz2 saz3 saz4 saz5 saz6 sa4 sa5 sa6 gs co co1 co2 co3 fu fub fubg fut1 fut2 fut3 la lab labg gy gyg du dug re wm ac m mp mf mh mn mt mz mc_ mq mgr ml mi mr mm mu mk mx o1 o2 : Nat) (hL : g.2.2 41 = 7) (w0 : zW) (n : Nat) : DV g M_Lw_law (lwP) w0 n 2453 [(5, .int 0), (4, .ref o2), (3, .ref o1), (2, .ref m), (1, .ref a), (0, .ref (g.2.2 40))] [] (lwCS g a pa pa1 pa2 pa3 ta ta1 ta2 taz taz1 taz2 taz3 taz4 taz5 taz6 ta4 ta5 ta6 sa sa1 sa2 saz saz1 saz2 saz3 saz4 saz5 saz6 sa4 sa5 sa6 gs co co1 co2 co3 fu fub fubg fut1 fut2 fut3 la lab labg gy gyg du dug re wm ac m mp mf mh mn mt mz mc_ mq mgr ml mi mr mm mu mk mx o1 o2) 100 1000 := by
  refine r_aload_n d_Lw_law_2453 rfl 4 rfl ?_
  refine r_aload_n d_Lw_law_2454 rfl 5 rfl ?_
  refine r_iload d_Lw_law_2455 0 rfl ?_
  refine r_iconst d_Lw_law_2457 (v := 1) (by decide) ?_
  refine r_iadd d_Lw_law_2458 (v := 1) rfl ?_
  refine r_sld (v := zs g 1) d_Lw_law_2459 (by rw [hL]; exact fun q => q.elim (by decide) (by decide)) rfl ?_
  refine r_aload_n d_Lw_law_2460 rfl 2 rfl ?_
  refine r_callSX (As := [.ref a, .int (zs g 1), .ref o1]) (rest := []) (csC := [(a, .inr (11, [.ref pa, .ref ta, .ref sa, .ref gs, .ref co, .ref fu, .ref la, .ref gy, .ref du, .ref re, .ref wm, .ref ac])), (ac, .inr (13, [.int 0, .ref (g.2.2 4), .int 0])), (o1, .inl (3, 1, .inr (.inl (fun _ => 0))))]) (is := [0, 51, 69]) ln_Lw_307 w_st_Lw_shrunkIn ok_Lw_law_Lw_shrunkIn d_Lw_law_2461 (C_Lw_shrunkInE g a pa ta sa gs co fu la gy du re wm ac 0 (g.2.2 4) 0 (zs g 1) (z_tot _) o1 (fun _ => 0)) rfl rfl (Nat.le_of_ble_eq_true rfl) rfl (by decide) (by omega) (by omega) (fun E cs1 hx => ?_) (fun v cs1 hx => ?_)
  · exact absurd hx.1 (by simp)
  · obtain ⟨e1, rfl⟩ := hx
    cases e1
    refine ⟨rfl, ?_⟩
    refine r_st (st2 := [.int 1]) rfl ?_
    refine r_istore (lv' := [(6, .int 1), (5, .int 0), (4, .ref o2), (3, .ref o1), (2, .ref m), (1, .ref a), (0, .ref (g.2.2 40))]) d_Lw_law_2464 (by decide) rfl ?_
    refine r_aload_n d_Lw_law_2466 rfl 4 rfl ?_
    refine r_aload_n d_Lw_law_2467 rfl 6 rfl ?_
    refine r_iload d_Lw_law_2468 1 rfl ?_
    refine r_iconst d_Lw_law_2470 (v := 1) (by decide) ?_
    refine r_iadd d_Lw_law_2471 (v := 1) rfl ?_
    refine r_sld (v := zs g 1) d_Lw_law_2472 (by rw [hL]; exact fun q => q.elim (by decide) (by decide)) rfl ?_
    refine r_callV (As := [.int (zs g 1)]) (rest := []) (csC := [(m, .inr (12, [.int 0, .ref mp, .int 4, .ref mf, .ref mh, .ref mn, .ref mt, .ref mz, .ref mc_, .ref mq, .ref mgr, .int 80, .int 35, .int 30, .int 50, .int 0, .int 0, .ref ml, .ref mi, .ref mr, .int 0, .int 0, .int 0, .int (-1), .int 0, .ref mm, .ref mu, .ref mk, .ref mx, .long 0, .long 0])), (mk, .inr (13, [.int 0, .ref (g.2.2 4), .int 0]))]) (is := [52, 67]) (q0 := 52) rfl rfl ln_Lw_309 w_im_Mm_shrunkIn w_se_Mm_shrunkIn ok_Lw_law_Mm_shrunkIn d_Lw_law_2473 (C_Mm_shrunkIn0 g m mp mf mh mn mt mz mc_ mq mgr ml mi mr mm mu mk mx 0 4 80 35 30 50 0 0 0 0 0 (-1) 0 0 0 0 (g.2.2 4) (zs g 1)) rfl rfl (Nat.le_of_ble_eq_true rfl) rfl (by decide) (by omega) (by omega) (fun E cs1 hx => ?_) (fun v cs1 hx => ?_)
    · exact absurd hx.1 (by simp)
    · obtain ⟨e1, rfl⟩ := hx
      cases e1
      refine ⟨rfl, ?_⟩
      refine r_st (st2 := [.int 0]) rfl ?_
      refine r_istore (lv' := [(7, .int 0), (6, .int 1), (5, .int 0), (4, .ref o2), (3, .ref o1), (2, .ref m), (1, .ref a), (0, .ref (g.2.2 40))]) d_Lw_law_2476 (by decide) rfl ?_
      refine r_aload_n d_Lw_law_2478 rfl 5 rfl ?_
      refine r_callV (As := []) (rest := []) (csC := [(m, .inr (12, [.int 1, .ref mp, .int 4, .ref mf, .ref mh, .ref mn, .ref mt, .ref mz, .ref mc_, .ref mq, .ref mgr, .int 80, .int 35, .int 30, .int 50, .int 0, .int 0, .ref ml, .ref mi, .ref mr, .int 0, .int 0, .int 0, .int (-1), .int 0, .ref mm, .ref mu, .ref mk, .ref mx, .long 0, .long 0]))]) (is := [52]) (q0 := 52) rfl rfl ln_Lw_175 w_im_Mm_thrown w_se_Mm_thrown ok_Lw_law_Mm_thrown d_Lw_law_2479 (C_Mm_thrown g m mp mf mh mn mt mz mc_ mq mgr ml mi mr mm mu mk mx 1 4 80 35 30 50 0 0 0 0 0 (-1) 0 0 0) rfl rfl (Nat.le_of_ble_eq_true rfl) rfl (by decide) (by omega) (by omega) (fun E cs1 hx => ?_) (fun v cs1 hx => ?_)
      · exact absurd hx.1 (by simp)
      · obtain ⟨e1, rfl⟩ := hx
        cases e1
        refine ⟨rfl, ?_⟩
        refine r_st (st2 := [.int 1]) rfl ?_
        refine r_iload d_Lw_law_2482 1 rfl ?_
        refine r_icmp_eq (tgt := 2489) d_Lw_law_2484 (by decide) (fun c_2484 => ?_) (fun c_2484 => ?_)
        · refine r_iload d_Lw_law_2489 1 rfl ?_
          refine r_if_ne (tgt := 2506) d_Lw_law_2491 (by decide) (fun c_2491 => ?_) (fun c_2491 => ?_)
          · refine r_goto (tgt := 3019) d_Lw_law_2506 (by decide) ?_
            refine r_lv (lv' := [(5, .int 0), (0, .ref (g.2.2 40))]) [2, 7] rfl ?_
            exact LW_tail g _ hL _ _ w0 n
          · exact absurd c_2491 (by decide)
        · exact absurd c_2484 (by decide)
theorem d_Lw_law_2509 : decode code 2509 = .ok (.aload_n 1, 1) := by decide +kernel
theorem d_Lw_law_2510 : decode code 2510 = .ok (.aload_n 0, 1) := by decide +kernel
theorem d_Lw_law_2511 : decode code 2511 = .ok (.iload 5, 2) := by decide +kernel
theorem d_Lw_law_2513 : decode code 2513 = .ok (.iconst 1, 1) := by decide +kernel
theorem d_Lw_law_2514 : decode code 2514 = .ok (.iadd, 1) := by decide +kernel
theorem d_Lw_law_2515 : decode code 2515 = .ok (.iaload, 1) := by decide +kernel
theorem d_Lw_law_2516 : decode code 2516 = .ok (.aload_n 0, 1) := by decide +kernel
theorem d_Lw_law_2517 : decode code 2517 = .ok (.iload 5, 2) := by decide +kernel
theorem d_Lw_law_2519 : decode code 2519 = .ok (.iconst 2, 1) := by decide +kernel
theorem d_Lw_law_2520 : decode code 2520 = .ok (.iadd, 1) := by decide +kernel
theorem d_Lw_law_2521 : decode code 2521 = .ok (.iaload, 1) := by decide +kernel
theorem d_Lw_law_2522 : decode code 2522 = .ok (.i2c, 1) := by decide +kernel
theorem d_Lw_law_2523 : decode code 2523 = .ok (.aload_n 3, 1) := by decide +kernel
theorem d_Lw_law_2524 : decode code 2524 = .ok (.invokestatic 310, 3) := by decide +kernel
theorem ok_Lw_law_Lw_has : z_okX M_Lw_law M_Lw_has 4 := ⟨z_mem (i := 1469) (by decide +kernel) (by decide +kernel), by decide, ⟨by decide +kernel, by decide +kernel, by decide +kernel⟩, ⟨by decide, by decide⟩, z_mem (i := 57) (by decide +kernel) (by decide +kernel), rfl⟩
theorem ln_Lw_310 : Cond.methodLink "IronpourLaw" 310 M_Lw_has.1 ∈ z_gw := z_mem (i := 1467) (by decide +kernel) (by decide +kernel)
theorem w_st_Lw_has : Cond.static M_Lw_has.1 ∈ z_gw := z_mem (i := 1468) (by decide +kernel) (by decide +kernel)
theorem d_Lw_law_2527 : decode code 2527 = .ok (.istore 6, 2) := by decide +kernel
theorem d_Lw_law_2529 : decode code 2529 = .ok (.aload_n 2, 1) := by decide +kernel
theorem d_Lw_law_2530 : decode code 2530 = .ok (.aload_n 0, 1) := by decide +kernel
theorem d_Lw_law_2531 : decode code 2531 = .ok (.iload 5, 2) := by decide +kernel
theorem d_Lw_law_2533 : decode code 2533 = .ok (.iconst 1, 1) := by decide +kernel
theorem d_Lw_law_2534 : decode code 2534 = .ok (.iadd, 1) := by decide +kernel
theorem d_Lw_law_2535 : decode code 2535 = .ok (.iaload, 1) := by decide +kernel
theorem d_Lw_law_2536 : decode code 2536 = .ok (.aload_n 0, 1) := by decide +kernel
theorem d_Lw_law_2537 : decode code 2537 = .ok (.iload 5, 2) := by decide +kernel
theorem d_Lw_law_2539 : decode code 2539 = .ok (.iconst 2, 1) := by decide +kernel
theorem d_Lw_law_2540 : decode code 2540 = .ok (.iadd, 1) := by decide +kernel
theorem d_Lw_law_2541 : decode code 2541 = .ok (.iaload, 1) := by decide +kernel
theorem d_Lw_law_2542 : decode code 2542 = .ok (.i2c, 1) := by decide +kernel
theorem d_Lw_law_2543 : decode code 2543 = .ok (.invokevirtual 313, 3) := by decide +kernel
theorem ok_Lw_law_Mm_has_1 : z_ok M_Lw_law M_Mm_has_1 2 := ⟨z_mem (i := 2006) (by decide +kernel) (by decide +kernel), rfl, ⟨by decide +kernel, by decide +kernel, by decide +kernel⟩, ⟨by decide, by decide⟩, z_mem (i := 71) (by decide +kernel) (by decide +kernel), rfl⟩
theorem ln_Lw_313 : Cond.methodLink "IronpourLaw" 313 M_Mm_has_1.1 ∈ z_gw := z_mem (i := 2003) (by decide +kernel) (by decide +kernel)
theorem w_im_Mm_has_1 : Cond.instanceMethod M_Mm_has_1.1 ∈ z_gw := z_mem (i := 2004) (by decide +kernel) (by decide +kernel)
theorem w_se_Mm_has_1 : Cond.selects M_Mm_has_1.1.cls M_Mm_has_1.1 M_Mm_has_1.1 ∈ z_gw := z_mem (i := 2005) (by decide +kernel) (by decide +kernel)
theorem d_Lw_law_2546 : decode code 2546 = .ok (.istore 7, 2) := by decide +kernel
theorem d_Lw_law_2548 : decode code 2548 = .ok (.aload_n 2, 1) := by decide +kernel
theorem d_Lw_law_2549 : decode code 2549 = .ok (.invokevirtual 175, 3) := by decide +kernel
theorem d_Lw_law_2552 : decode code 2552 = .ok (.iload 6, 2) := by decide +kernel
theorem d_Lw_law_2554 : decode code 2554 = .ok (.if_icmp .eq 5, 3) := by decide +kernel
theorem d_Lw_law_2559 : decode code 2559 = .ok (.iload 6, 2) := by decide +kernel
theorem d_Lw_law_2561 : decode code 2561 = .ok (.ifCond .ne 15, 3) := by decide +kernel
theorem d_Lw_law_2576 : decode code 2576 = .ok (.goto 443, 3) := by decide +kernel
set_option maxHeartbeats 4000000 in
set_option maxRecDepth 100000 in
theorem LW_hasE (g : zG) (a pa pa1 pa2 pa3 ta ta1 ta2 taz taz1 taz2 taz3 taz4 taz5 taz6 ta4 ta5 ta6 sa sa1 sa2 saz saz1 saz2 saz3 saz4 saz5 saz6 sa4 sa5 sa6 gs co co1 co2 co3 fu fub fubg fut1 fut2 fut3 la lab labg gy gyg du dug re wm ac m mp mf mh mn mt mz mc_ mq mgr ml mi mr mm mu mk mx o1 o2 : Nat) (hL : g.2.2 41 = 7) (w0 : zW) (n : Nat) : DV g M_Lw_law (lwP) w0 n 2509 [(5, .int 0), (4, .ref o2), (3, .ref o1), (2, .ref m), (1, .ref a), (0, .ref (g.2.2 40))] [] (lwCS g a pa pa1 pa2 pa3 ta ta1 ta2 taz taz1 taz2 taz3 taz4 taz5 taz6 ta4 ta5 ta6 sa sa1 sa2 saz saz1 saz2 saz3 saz4 saz5 saz6 sa4 sa5 sa6 gs co co1 co2 co3 fu fub fubg fut1 fut2 fut3 la lab labg gy gyg du dug re wm ac m mp mf mh mn mt mz mc_ mq mgr ml mi mr mm mu mk mx o1 o2) 100 1000 := by
  refine r_aload_n d_Lw_law_2509 rfl 4 rfl ?_
  refine r_aload_n d_Lw_law_2510 rfl 5 rfl ?_
  refine r_iload d_Lw_law_2511 0 rfl ?_
  refine r_iconst d_Lw_law_2513 (v := 1) (by decide) ?_
  refine r_iadd d_Lw_law_2514 (v := 1) rfl ?_
  refine r_sld (v := zs g 1) d_Lw_law_2515 (by rw [hL]; exact fun q => q.elim (by decide) (by decide)) rfl ?_
  refine r_aload_n d_Lw_law_2516 rfl 5 rfl ?_
  refine r_iload d_Lw_law_2517 0 rfl ?_
  refine r_iconst d_Lw_law_2519 (v := 2) (by decide) ?_
  refine r_iadd d_Lw_law_2520 (v := 2) rfl ?_
  refine r_sld (v := zs g 2) d_Lw_law_2521 (by rw [hL]; exact fun q => q.elim (by decide) (by decide)) rfl ?_
  refine r_i2c d_Lw_law_2522 (v := zc g 2) rfl ?_
  refine r_aload_n d_Lw_law_2523 rfl 2 rfl ?_
  refine r_callSX (As := [.ref a, .int (zs g 1), .int (zc g 2), .ref o1]) (rest := []) (csC := [(a, .inr (11, [.ref pa, .ref ta, .ref sa, .ref gs, .ref co, .ref fu, .ref la, .ref gy, .ref du, .ref re, .ref wm, .ref ac])), (ac, .inr (13, [.int 0, .ref (g.2.2 4), .int 0])), (o1, .inl (3, 1, .inr (.inl (fun _ => 0))))]) (is := [0, 51, 69]) ln_Lw_310 w_st_Lw_has ok_Lw_law_Lw_has d_Lw_law_2524 (C_Lw_hasE g a pa ta sa gs co fu la gy du re wm ac 0 (g.2.2 4) 0 (zs g 1) (z_tot _) (zc g 2) o1 (fun _ => 0)) rfl rfl (Nat.le_of_ble_eq_true rfl) rfl (by decide) (by omega) (by omega) (fun E cs1 hx => ?_) (fun v cs1 hx => ?_)
  · exact absurd hx.1 (by simp)
  · obtain ⟨e1, rfl⟩ := hx
    cases e1
    refine ⟨rfl, ?_⟩
    refine r_st (st2 := [.int 1]) rfl ?_
    refine r_istore (lv' := [(6, .int 1), (5, .int 0), (4, .ref o2), (3, .ref o1), (2, .ref m), (1, .ref a), (0, .ref (g.2.2 40))]) d_Lw_law_2527 (by decide) rfl ?_
    refine r_aload_n d_Lw_law_2529 rfl 4 rfl ?_
    refine r_aload_n d_Lw_law_2530 rfl 6 rfl ?_
    refine r_iload d_Lw_law_2531 1 rfl ?_
    refine r_iconst d_Lw_law_2533 (v := 1) (by decide) ?_
    refine r_iadd d_Lw_law_2534 (v := 1) rfl ?_
    refine r_sld (v := zs g 1) d_Lw_law_2535 (by rw [hL]; exact fun q => q.elim (by decide) (by decide)) rfl ?_
    refine r_aload_n d_Lw_law_2536 rfl 6 rfl ?_
    refine r_iload d_Lw_law_2537 1 rfl ?_
    refine r_iconst d_Lw_law_2539 (v := 2) (by decide) ?_
    refine r_iadd d_Lw_law_2540 (v := 2) rfl ?_
    refine r_sld (v := zs g 2) d_Lw_law_2541 (by rw [hL]; exact fun q => q.elim (by decide) (by decide)) rfl ?_
    refine r_i2c d_Lw_law_2542 (v := zc g 2) rfl ?_
    refine r_callV (As := [.int (zs g 1), .int (zc g 2)]) (rest := []) (csC := [(m, .inr (12, [.int 0, .ref mp, .int 4, .ref mf, .ref mh, .ref mn, .ref mt, .ref mz, .ref mc_, .ref mq, .ref mgr, .int 80, .int 35, .int 30, .int 50, .int 0, .int 0, .ref ml, .ref mi, .ref mr, .int 0, .int 0, .int 0, .int (-1), .int 0, .ref mm, .ref mu, .ref mk, .ref mx, .long 0, .long 0])), (mk, .inr (13, [.int 0, .ref (g.2.2 4), .int 0]))]) (is := [52, 67]) (q0 := 52) rfl rfl ln_Lw_313 w_im_Mm_has_1 w_se_Mm_has_1 ok_Lw_law_Mm_has_1 d_Lw_law_2543 (C_Mm_has0 g m mp mf mh mn mt mz mc_ mq mgr ml mi mr mm mu mk mx 0 4 80 35 30 50 0 0 0 0 0 (-1) 0 0 0 0 (g.2.2 4) (zs g 1) (zc g 2)) rfl rfl (Nat.le_of_ble_eq_true rfl) rfl (by decide) (by omega) (by omega) (fun E cs1 hx => ?_) (fun v cs1 hx => ?_)
    · exact absurd hx.1 (by simp)
    · obtain ⟨e1, rfl⟩ := hx
      cases e1
      refine ⟨rfl, ?_⟩
      refine r_st (st2 := [.int 0]) rfl ?_
      refine r_istore (lv' := [(7, .int 0), (6, .int 1), (5, .int 0), (4, .ref o2), (3, .ref o1), (2, .ref m), (1, .ref a), (0, .ref (g.2.2 40))]) d_Lw_law_2546 (by decide) rfl ?_
      refine r_aload_n d_Lw_law_2548 rfl 5 rfl ?_
      refine r_callV (As := []) (rest := []) (csC := [(m, .inr (12, [.int 1, .ref mp, .int 4, .ref mf, .ref mh, .ref mn, .ref mt, .ref mz, .ref mc_, .ref mq, .ref mgr, .int 80, .int 35, .int 30, .int 50, .int 0, .int 0, .ref ml, .ref mi, .ref mr, .int 0, .int 0, .int 0, .int (-1), .int 0, .ref mm, .ref mu, .ref mk, .ref mx, .long 0, .long 0]))]) (is := [52]) (q0 := 52) rfl rfl ln_Lw_175 w_im_Mm_thrown w_se_Mm_thrown ok_Lw_law_Mm_thrown d_Lw_law_2549 (C_Mm_thrown g m mp mf mh mn mt mz mc_ mq mgr ml mi mr mm mu mk mx 1 4 80 35 30 50 0 0 0 0 0 (-1) 0 0 0) rfl rfl (Nat.le_of_ble_eq_true rfl) rfl (by decide) (by omega) (by omega) (fun E cs1 hx => ?_) (fun v cs1 hx => ?_)
      · exact absurd hx.1 (by simp)
      · obtain ⟨e1, rfl⟩ := hx
        cases e1
        refine ⟨rfl, ?_⟩
        refine r_st (st2 := [.int 1]) rfl ?_
        refine r_iload d_Lw_law_2552 1 rfl ?_
        refine r_icmp_eq (tgt := 2559) d_Lw_law_2554 (by decide) (fun c_2554 => ?_) (fun c_2554 => ?_)
        · refine r_iload d_Lw_law_2559 1 rfl ?_
          refine r_if_ne (tgt := 2576) d_Lw_law_2561 (by decide) (fun c_2561 => ?_) (fun c_2561 => ?_)
          · refine r_goto (tgt := 3019) d_Lw_law_2576 (by decide) ?_
            refine r_lv (lv' := [(5, .int 0), (0, .ref (g.2.2 40))]) [2, 7] rfl ?_
            exact LW_tail g _ hL _ _ w0 n
          · exact absurd c_2561 (by decide)
        · exact absurd c_2554 (by decide)
theorem d_Lw_law_2579 : decode code 2579 = .ok (.aload_n 1, 1) := by decide +kernel
theorem d_Lw_law_2580 : decode code 2580 = .ok (.aload_n 0, 1) := by decide +kernel
theorem d_Lw_law_2581 : decode code 2581 = .ok (.iload 5, 2) := by decide +kernel
theorem d_Lw_law_2583 : decode code 2583 = .ok (.iconst 1, 1) := by decide +kernel
theorem d_Lw_law_2584 : decode code 2584 = .ok (.iadd, 1) := by decide +kernel
theorem d_Lw_law_2585 : decode code 2585 = .ok (.iaload, 1) := by decide +kernel
theorem d_Lw_law_2586 : decode code 2586 = .ok (.aload_n 3, 1) := by decide +kernel
theorem d_Lw_law_2587 : decode code 2587 = .ok (.invokestatic 314, 3) := by decide +kernel
theorem ok_Lw_law_Lw_bar : z_okX M_Lw_law M_Lw_bar 3 := ⟨z_mem (i := 1476) (by decide +kernel) (by decide +kernel), by decide, ⟨by decide +kernel, by decide +kernel, by decide +kernel⟩, ⟨by decide, by decide⟩, z_mem (i := 57) (by decide +kernel) (by decide +kernel), rfl⟩
theorem ln_Lw_314 : Cond.methodLink "IronpourLaw" 314 M_Lw_bar.1 ∈ z_gw := z_mem (i := 1474) (by decide +kernel) (by decide +kernel)
theorem w_st_Lw_bar : Cond.static M_Lw_bar.1 ∈ z_gw := z_mem (i := 1475) (by decide +kernel) (by decide +kernel)
theorem d_Lw_law_2590 : decode code 2590 = .ok (.istore 6, 2) := by decide +kernel
theorem d_Lw_law_2592 : decode code 2592 = .ok (.aload_n 2, 1) := by decide +kernel
theorem d_Lw_law_2593 : decode code 2593 = .ok (.aload_n 0, 1) := by decide +kernel
theorem d_Lw_law_2594 : decode code 2594 = .ok (.iload 5, 2) := by decide +kernel
theorem d_Lw_law_2596 : decode code 2596 = .ok (.iconst 1, 1) := by decide +kernel
theorem d_Lw_law_2597 : decode code 2597 = .ok (.iadd, 1) := by decide +kernel
theorem d_Lw_law_2598 : decode code 2598 = .ok (.iaload, 1) := by decide +kernel
theorem d_Lw_law_2599 : decode code 2599 = .ok (.invokevirtual 316, 3) := by decide +kernel
theorem ok_Lw_law_Mm_bar : z_ok M_Lw_law M_Mm_bar 1 := ⟨z_mem (i := 2015) (by decide +kernel) (by decide +kernel), rfl, ⟨by decide +kernel, by decide +kernel, by decide +kernel⟩, ⟨by decide, by decide⟩, z_mem (i := 71) (by decide +kernel) (by decide +kernel), rfl⟩
theorem ln_Lw_316 : Cond.methodLink "IronpourLaw" 316 M_Mm_bar.1 ∈ z_gw := z_mem (i := 2012) (by decide +kernel) (by decide +kernel)
theorem w_im_Mm_bar : Cond.instanceMethod M_Mm_bar.1 ∈ z_gw := z_mem (i := 2013) (by decide +kernel) (by decide +kernel)
theorem w_se_Mm_bar : Cond.selects M_Mm_bar.1.cls M_Mm_bar.1 M_Mm_bar.1 ∈ z_gw := z_mem (i := 2014) (by decide +kernel) (by decide +kernel)
theorem d_Lw_law_2602 : decode code 2602 = .ok (.istore 7, 2) := by decide +kernel
theorem d_Lw_law_2604 : decode code 2604 = .ok (.aload_n 2, 1) := by decide +kernel
theorem d_Lw_law_2605 : decode code 2605 = .ok (.invokevirtual 175, 3) := by decide +kernel
theorem d_Lw_law_2608 : decode code 2608 = .ok (.iload 6, 2) := by decide +kernel
theorem d_Lw_law_2610 : decode code 2610 = .ok (.if_icmp .eq 5, 3) := by decide +kernel
theorem d_Lw_law_2615 : decode code 2615 = .ok (.iload 6, 2) := by decide +kernel
theorem d_Lw_law_2617 : decode code 2617 = .ok (.ifCond .ne 15, 3) := by decide +kernel
theorem d_Lw_law_2632 : decode code 2632 = .ok (.goto 387, 3) := by decide +kernel
set_option maxHeartbeats 4000000 in
set_option maxRecDepth 100000 in
theorem LW_barE (g : zG) (a pa pa1 pa2 pa3 ta ta1 ta2 taz taz1 taz2 taz3 taz4 taz5 taz6 ta4 ta5 ta6 sa sa1 sa2 saz saz1 saz2 saz3 saz4 saz5 saz6 sa4 sa5 sa6 gs co co1 co2 co3 fu fub fubg fut1 fut2 fut3 la lab labg gy gyg du dug re wm ac m mp mf mh mn mt mz mc_ mq mgr ml mi mr mm mu mk mx o1 o2 : Nat) (hL : g.2.2 41 = 7) (w0 : zW) (n : Nat) : DV g M_Lw_law (lwP) w0 n 2579 [(5, .int 0), (4, .ref o2), (3, .ref o1), (2, .ref m), (1, .ref a), (0, .ref (g.2.2 40))] [] (lwCS g a pa pa1 pa2 pa3 ta ta1 ta2 taz taz1 taz2 taz3 taz4 taz5 taz6 ta4 ta5 ta6 sa sa1 sa2 saz saz1 saz2 saz3 saz4 saz5 saz6 sa4 sa5 sa6 gs co co1 co2 co3 fu fub fubg fut1 fut2 fut3 la lab labg gy gyg du dug re wm ac m mp mf mh mn mt mz mc_ mq mgr ml mi mr mm mu mk mx o1 o2) 100 1000 := by
  refine r_aload_n d_Lw_law_2579 rfl 4 rfl ?_
  refine r_aload_n d_Lw_law_2580 rfl 5 rfl ?_
  refine r_iload d_Lw_law_2581 0 rfl ?_
  refine r_iconst d_Lw_law_2583 (v := 1) (by decide) ?_
  refine r_iadd d_Lw_law_2584 (v := 1) rfl ?_
  refine r_sld (v := zs g 1) d_Lw_law_2585 (by rw [hL]; exact fun q => q.elim (by decide) (by decide)) rfl ?_
  refine r_aload_n d_Lw_law_2586 rfl 2 rfl ?_
  refine r_callSX (As := [.ref a, .int (zs g 1), .ref o1]) (rest := []) (csC := [(a, .inr (11, [.ref pa, .ref ta, .ref sa, .ref gs, .ref co, .ref fu, .ref la, .ref gy, .ref du, .ref re, .ref wm, .ref ac])), (ac, .inr (13, [.int 0, .ref (g.2.2 4), .int 0])), (o1, .inl (3, 1, .inr (.inl (fun _ => 0))))]) (is := [0, 51, 69]) ln_Lw_314 w_st_Lw_bar ok_Lw_law_Lw_bar d_Lw_law_2587 (C_Lw_barE g a pa ta sa gs co fu la gy du re wm ac 0 (g.2.2 4) 0 (zs g 1) (z_tot _) o1 (fun _ => 0)) rfl rfl (Nat.le_of_ble_eq_true rfl) rfl (by decide) (by omega) (by omega) (fun E cs1 hx => ?_) (fun v cs1 hx => ?_)
  · exact absurd hx.1 (by simp)
  · obtain ⟨e1, rfl⟩ := hx
    cases e1
    refine ⟨rfl, ?_⟩
    refine r_st (st2 := [.int 1]) rfl ?_
    refine r_istore (lv' := [(6, .int 1), (5, .int 0), (4, .ref o2), (3, .ref o1), (2, .ref m), (1, .ref a), (0, .ref (g.2.2 40))]) d_Lw_law_2590 (by decide) rfl ?_
    refine r_aload_n d_Lw_law_2592 rfl 4 rfl ?_
    refine r_aload_n d_Lw_law_2593 rfl 6 rfl ?_
    refine r_iload d_Lw_law_2594 1 rfl ?_
    refine r_iconst d_Lw_law_2596 (v := 1) (by decide) ?_
    refine r_iadd d_Lw_law_2597 (v := 1) rfl ?_
    refine r_sld (v := zs g 1) d_Lw_law_2598 (by rw [hL]; exact fun q => q.elim (by decide) (by decide)) rfl ?_
    refine r_callV (As := [.int (zs g 1)]) (rest := []) (csC := [(m, .inr (12, [.int 0, .ref mp, .int 4, .ref mf, .ref mh, .ref mn, .ref mt, .ref mz, .ref mc_, .ref mq, .ref mgr, .int 80, .int 35, .int 30, .int 50, .int 0, .int 0, .ref ml, .ref mi, .ref mr, .int 0, .int 0, .int 0, .int (-1), .int 0, .ref mm, .ref mu, .ref mk, .ref mx, .long 0, .long 0])), (mk, .inr (13, [.int 0, .ref (g.2.2 4), .int 0]))]) (is := [52, 67]) (q0 := 52) rfl rfl ln_Lw_316 w_im_Mm_bar w_se_Mm_bar ok_Lw_law_Mm_bar d_Lw_law_2599 (C_Mm_bar0 g m mp mf mh mn mt mz mc_ mq mgr ml mi mr mm mu mk mx 0 4 80 35 30 50 0 0 0 0 0 (-1) 0 0 0 0 (g.2.2 4) (zs g 1)) rfl rfl (Nat.le_of_ble_eq_true rfl) rfl (by decide) (by omega) (by omega) (fun E cs1 hx => ?_) (fun v cs1 hx => ?_)
    · exact absurd hx.1 (by simp)
    · obtain ⟨e1, rfl⟩ := hx
      cases e1
      refine ⟨rfl, ?_⟩
      refine r_st (st2 := [.int 0]) rfl ?_
      refine r_istore (lv' := [(7, .int 0), (6, .int 1), (5, .int 0), (4, .ref o2), (3, .ref o1), (2, .ref m), (1, .ref a), (0, .ref (g.2.2 40))]) d_Lw_law_2602 (by decide) rfl ?_
      refine r_aload_n d_Lw_law_2604 rfl 5 rfl ?_
      refine r_callV (As := []) (rest := []) (csC := [(m, .inr (12, [.int 1, .ref mp, .int 4, .ref mf, .ref mh, .ref mn, .ref mt, .ref mz, .ref mc_, .ref mq, .ref mgr, .int 80, .int 35, .int 30, .int 50, .int 0, .int 0, .ref ml, .ref mi, .ref mr, .int 0, .int 0, .int 0, .int (-1), .int 0, .ref mm, .ref mu, .ref mk, .ref mx, .long 0, .long 0]))]) (is := [52]) (q0 := 52) rfl rfl ln_Lw_175 w_im_Mm_thrown w_se_Mm_thrown ok_Lw_law_Mm_thrown d_Lw_law_2605 (C_Mm_thrown g m mp mf mh mn mt mz mc_ mq mgr ml mi mr mm mu mk mx 1 4 80 35 30 50 0 0 0 0 0 (-1) 0 0 0) rfl rfl (Nat.le_of_ble_eq_true rfl) rfl (by decide) (by omega) (by omega) (fun E cs1 hx => ?_) (fun v cs1 hx => ?_)
      · exact absurd hx.1 (by simp)
      · obtain ⟨e1, rfl⟩ := hx
        cases e1
        refine ⟨rfl, ?_⟩
        refine r_st (st2 := [.int 1]) rfl ?_
        refine r_iload d_Lw_law_2608 1 rfl ?_
        refine r_icmp_eq (tgt := 2615) d_Lw_law_2610 (by decide) (fun c_2610 => ?_) (fun c_2610 => ?_)
        · refine r_iload d_Lw_law_2615 1 rfl ?_
          refine r_if_ne (tgt := 2632) d_Lw_law_2617 (by decide) (fun c_2617 => ?_) (fun c_2617 => ?_)
          · refine r_goto (tgt := 3019) d_Lw_law_2632 (by decide) ?_
            refine r_lv (lv' := [(5, .int 0), (0, .ref (g.2.2 40))]) [2, 7] rfl ?_
            exact LW_tail g _ hL _ _ w0 n
          · exact absurd c_2617 (by decide)
        · exact absurd c_2610 (by decide)
theorem d_Lw_law_2635 : decode code 2635 = .ok (.aload_n 1, 1) := by decide +kernel
theorem d_Lw_law_2636 : decode code 2636 = .ok (.aload_n 0, 1) := by decide +kernel
theorem d_Lw_law_2637 : decode code 2637 = .ok (.iload 5, 2) := by decide +kernel
theorem d_Lw_law_2639 : decode code 2639 = .ok (.iconst 1, 1) := by decide +kernel
theorem d_Lw_law_2640 : decode code 2640 = .ok (.iadd, 1) := by decide +kernel
theorem d_Lw_law_2641 : decode code 2641 = .ok (.iaload, 1) := by decide +kernel
theorem d_Lw_law_2642 : decode code 2642 = .ok (.aload_n 3, 1) := by decide +kernel
theorem d_Lw_law_2643 : decode code 2643 = .ok (.invokestatic 317, 3) := by decide +kernel
theorem ok_Lw_law_Lw_weld : z_okX M_Lw_law M_Lw_weld 3 := ⟨z_mem (i := 1494) (by decide +kernel) (by decide +kernel), by decide, ⟨by decide +kernel, by decide +kernel, by decide +kernel⟩, ⟨by decide, by decide⟩, z_mem (i := 57) (by decide +kernel) (by decide +kernel), rfl⟩
theorem ln_Lw_317 : Cond.methodLink "IronpourLaw" 317 M_Lw_weld.1 ∈ z_gw := z_mem (i := 1492) (by decide +kernel) (by decide +kernel)
theorem w_st_Lw_weld : Cond.static M_Lw_weld.1 ∈ z_gw := z_mem (i := 1493) (by decide +kernel) (by decide +kernel)
theorem d_Lw_law_2646 : decode code 2646 = .ok (.istore 6, 2) := by decide +kernel
theorem d_Lw_law_2648 : decode code 2648 = .ok (.aload_n 2, 1) := by decide +kernel
theorem d_Lw_law_2649 : decode code 2649 = .ok (.aload_n 0, 1) := by decide +kernel
theorem d_Lw_law_2650 : decode code 2650 = .ok (.iload 5, 2) := by decide +kernel
theorem d_Lw_law_2652 : decode code 2652 = .ok (.iconst 1, 1) := by decide +kernel
theorem d_Lw_law_2653 : decode code 2653 = .ok (.iadd, 1) := by decide +kernel
theorem d_Lw_law_2654 : decode code 2654 = .ok (.iaload, 1) := by decide +kernel
theorem d_Lw_law_2655 : decode code 2655 = .ok (.invokevirtual 319, 3) := by decide +kernel
theorem ok_Lw_law_Mm_weld : z_ok M_Lw_law M_Mm_weld 1 := ⟨z_mem (i := 2024) (by decide +kernel) (by decide +kernel), rfl, ⟨by decide +kernel, by decide +kernel, by decide +kernel⟩, ⟨by decide, by decide⟩, z_mem (i := 71) (by decide +kernel) (by decide +kernel), rfl⟩
theorem ln_Lw_319 : Cond.methodLink "IronpourLaw" 319 M_Mm_weld.1 ∈ z_gw := z_mem (i := 2021) (by decide +kernel) (by decide +kernel)
theorem w_im_Mm_weld : Cond.instanceMethod M_Mm_weld.1 ∈ z_gw := z_mem (i := 2022) (by decide +kernel) (by decide +kernel)
theorem w_se_Mm_weld : Cond.selects M_Mm_weld.1.cls M_Mm_weld.1 M_Mm_weld.1 ∈ z_gw := z_mem (i := 2023) (by decide +kernel) (by decide +kernel)
theorem d_Lw_law_2658 : decode code 2658 = .ok (.istore 7, 2) := by decide +kernel
theorem d_Lw_law_2660 : decode code 2660 = .ok (.aload_n 2, 1) := by decide +kernel
theorem d_Lw_law_2661 : decode code 2661 = .ok (.invokevirtual 175, 3) := by decide +kernel
theorem d_Lw_law_2664 : decode code 2664 = .ok (.iload 6, 2) := by decide +kernel
theorem d_Lw_law_2666 : decode code 2666 = .ok (.if_icmp .eq 5, 3) := by decide +kernel
theorem d_Lw_law_2671 : decode code 2671 = .ok (.iload 6, 2) := by decide +kernel
theorem d_Lw_law_2673 : decode code 2673 = .ok (.ifCond .ne 22, 3) := by decide +kernel
theorem d_Lw_law_2695 : decode code 2695 = .ok (.goto 324, 3) := by decide +kernel
set_option maxHeartbeats 4000000 in
set_option maxRecDepth 100000 in
theorem LW_weldE (g : zG) (a pa pa1 pa2 pa3 ta ta1 ta2 taz taz1 taz2 taz3 taz4 taz5 taz6 ta4 ta5 ta6 sa sa1 sa2 saz saz1 saz2 saz3 saz4 saz5 saz6 sa4 sa5 sa6 gs co co1 co2 co3 fu fub fubg fut1 fut2 fut3 la lab labg gy gyg du dug re wm ac m mp mf mh mn mt mz mc_ mq mgr ml mi mr mm mu mk mx o1 o2 : Nat) (hL : g.2.2 41 = 7) (w0 : zW) (n : Nat) : DV g M_Lw_law (lwP) w0 n 2635 [(5, .int 0), (4, .ref o2), (3, .ref o1), (2, .ref m), (1, .ref a), (0, .ref (g.2.2 40))] [] (lwCS g a pa pa1 pa2 pa3 ta ta1 ta2 taz taz1 taz2 taz3 taz4 taz5 taz6 ta4 ta5 ta6 sa sa1 sa2 saz saz1 saz2 saz3 saz4 saz5 saz6 sa4 sa5 sa6 gs co co1 co2 co3 fu fub fubg fut1 fut2 fut3 la lab labg gy gyg du dug re wm ac m mp mf mh mn mt mz mc_ mq mgr ml mi mr mm mu mk mx o1 o2) 100 1000 := by
  refine r_aload_n d_Lw_law_2635 rfl 4 rfl ?_
  refine r_aload_n d_Lw_law_2636 rfl 5 rfl ?_
  refine r_iload d_Lw_law_2637 0 rfl ?_
  refine r_iconst d_Lw_law_2639 (v := 1) (by decide) ?_
  refine r_iadd d_Lw_law_2640 (v := 1) rfl ?_
  refine r_sld (v := zs g 1) d_Lw_law_2641 (by rw [hL]; exact fun q => q.elim (by decide) (by decide)) rfl ?_
  refine r_aload_n d_Lw_law_2642 rfl 2 rfl ?_
  refine r_callSX (As := [.ref a, .int (zs g 1), .ref o1]) (rest := []) (csC := [(a, .inr (11, [.ref pa, .ref ta, .ref sa, .ref gs, .ref co, .ref fu, .ref la, .ref gy, .ref du, .ref re, .ref wm, .ref ac])), (ac, .inr (13, [.int 0, .ref (g.2.2 4), .int 0])), (o1, .inl (3, 1, .inr (.inl (fun _ => 0))))]) (is := [0, 51, 69]) ln_Lw_317 w_st_Lw_weld ok_Lw_law_Lw_weld d_Lw_law_2643 (C_Lw_weldE g a pa ta sa gs co fu la gy du re wm ac 0 (g.2.2 4) 0 (zs g 1) (z_tot _) o1 (fun _ => 0)) rfl rfl (Nat.le_of_ble_eq_true rfl) rfl (by decide) (by omega) (by omega) (fun E cs1 hx => ?_) (fun v cs1 hx => ?_)
  · exact absurd hx.1 (by simp)
  · obtain ⟨e1, rfl⟩ := hx
    cases e1
    refine ⟨rfl, ?_⟩
    refine r_st (st2 := [.int 1]) rfl ?_
    refine r_istore (lv' := [(6, .int 1), (5, .int 0), (4, .ref o2), (3, .ref o1), (2, .ref m), (1, .ref a), (0, .ref (g.2.2 40))]) d_Lw_law_2646 (by decide) rfl ?_
    refine r_aload_n d_Lw_law_2648 rfl 4 rfl ?_
    refine r_aload_n d_Lw_law_2649 rfl 6 rfl ?_
    refine r_iload d_Lw_law_2650 1 rfl ?_
    refine r_iconst d_Lw_law_2652 (v := 1) (by decide) ?_
    refine r_iadd d_Lw_law_2653 (v := 1) rfl ?_
    refine r_sld (v := zs g 1) d_Lw_law_2654 (by rw [hL]; exact fun q => q.elim (by decide) (by decide)) rfl ?_
    refine r_callV (As := [.int (zs g 1)]) (rest := []) (csC := [(m, .inr (12, [.int 0, .ref mp, .int 4, .ref mf, .ref mh, .ref mn, .ref mt, .ref mz, .ref mc_, .ref mq, .ref mgr, .int 80, .int 35, .int 30, .int 50, .int 0, .int 0, .ref ml, .ref mi, .ref mr, .int 0, .int 0, .int 0, .int (-1), .int 0, .ref mm, .ref mu, .ref mk, .ref mx, .long 0, .long 0])), (mk, .inr (13, [.int 0, .ref (g.2.2 4), .int 0]))]) (is := [52, 67]) (q0 := 52) rfl rfl ln_Lw_319 w_im_Mm_weld w_se_Mm_weld ok_Lw_law_Mm_weld d_Lw_law_2655 (C_Mm_weld0 g m mp mf mh mn mt mz mc_ mq mgr ml mi mr mm mu mk mx 0 4 80 35 30 50 0 0 0 0 0 (-1) 0 0 0 0 (g.2.2 4) (zs g 1)) rfl rfl (Nat.le_of_ble_eq_true rfl) rfl (by decide) (by omega) (by omega) (fun E cs1 hx => ?_) (fun v cs1 hx => ?_)
    · exact absurd hx.1 (by simp)
    · obtain ⟨e1, rfl⟩ := hx
      cases e1
      refine ⟨rfl, ?_⟩
      refine r_st (st2 := [.int 0]) rfl ?_
      refine r_istore (lv' := [(7, .int 0), (6, .int 1), (5, .int 0), (4, .ref o2), (3, .ref o1), (2, .ref m), (1, .ref a), (0, .ref (g.2.2 40))]) d_Lw_law_2658 (by decide) rfl ?_
      refine r_aload_n d_Lw_law_2660 rfl 5 rfl ?_
      refine r_callV (As := []) (rest := []) (csC := [(m, .inr (12, [.int 1, .ref mp, .int 4, .ref mf, .ref mh, .ref mn, .ref mt, .ref mz, .ref mc_, .ref mq, .ref mgr, .int 80, .int 35, .int 30, .int 50, .int 0, .int 0, .ref ml, .ref mi, .ref mr, .int 0, .int 0, .int 0, .int (-1), .int 0, .ref mm, .ref mu, .ref mk, .ref mx, .long 0, .long 0]))]) (is := [52]) (q0 := 52) rfl rfl ln_Lw_175 w_im_Mm_thrown w_se_Mm_thrown ok_Lw_law_Mm_thrown d_Lw_law_2661 (C_Mm_thrown g m mp mf mh mn mt mz mc_ mq mgr ml mi mr mm mu mk mx 1 4 80 35 30 50 0 0 0 0 0 (-1) 0 0 0) rfl rfl (Nat.le_of_ble_eq_true rfl) rfl (by decide) (by omega) (by omega) (fun E cs1 hx => ?_) (fun v cs1 hx => ?_)
      · exact absurd hx.1 (by simp)
      · obtain ⟨e1, rfl⟩ := hx
        cases e1
        refine ⟨rfl, ?_⟩
        refine r_st (st2 := [.int 1]) rfl ?_
        refine r_iload d_Lw_law_2664 1 rfl ?_
        refine r_icmp_eq (tgt := 2671) d_Lw_law_2666 (by decide) (fun c_2666 => ?_) (fun c_2666 => ?_)
        · refine r_iload d_Lw_law_2671 1 rfl ?_
          refine r_if_ne (tgt := 2695) d_Lw_law_2673 (by decide) (fun c_2673 => ?_) (fun c_2673 => ?_)
          · refine r_goto (tgt := 3019) d_Lw_law_2695 (by decide) ?_
            refine r_lv (lv' := [(5, .int 0), (0, .ref (g.2.2 40))]) [2, 7] rfl ?_
            exact LW_tail g _ hL _ _ w0 n
          · exact absurd c_2673 (by decide)
        · exact absurd c_2666 (by decide)
theorem d_Lw_law_2698 : decode code 2698 = .ok (.aload_n 1, 1) := by decide +kernel
theorem d_Lw_law_2699 : decode code 2699 = .ok (.aload_n 0, 1) := by decide +kernel
theorem d_Lw_law_2700 : decode code 2700 = .ok (.iload 5, 2) := by decide +kernel
theorem d_Lw_law_2702 : decode code 2702 = .ok (.iconst 1, 1) := by decide +kernel
theorem d_Lw_law_2703 : decode code 2703 = .ok (.iadd, 1) := by decide +kernel
theorem d_Lw_law_2704 : decode code 2704 = .ok (.iaload, 1) := by decide +kernel
theorem d_Lw_law_2705 : decode code 2705 = .ok (.aload_n 3, 1) := by decide +kernel
theorem d_Lw_law_2706 : decode code 2706 = .ok (.invokestatic 320, 3) := by decide +kernel
theorem ok_Lw_law_Lw_deliver : z_okX M_Lw_law M_Lw_deliver 3 := ⟨z_mem (i := 1510) (by decide +kernel) (by decide +kernel), by decide, ⟨by decide +kernel, by decide +kernel, by decide +kernel⟩, ⟨by decide, by decide⟩, z_mem (i := 57) (by decide +kernel) (by decide +kernel), rfl⟩
theorem ln_Lw_320 : Cond.methodLink "IronpourLaw" 320 M_Lw_deliver.1 ∈ z_gw := z_mem (i := 1508) (by decide +kernel) (by decide +kernel)
theorem w_st_Lw_deliver : Cond.static M_Lw_deliver.1 ∈ z_gw := z_mem (i := 1509) (by decide +kernel) (by decide +kernel)
theorem d_Lw_law_2709 : decode code 2709 = .ok (.istore 6, 2) := by decide +kernel
theorem d_Lw_law_2711 : decode code 2711 = .ok (.aload_n 2, 1) := by decide +kernel
theorem d_Lw_law_2712 : decode code 2712 = .ok (.aload_n 0, 1) := by decide +kernel
theorem d_Lw_law_2713 : decode code 2713 = .ok (.iload 5, 2) := by decide +kernel
theorem d_Lw_law_2715 : decode code 2715 = .ok (.iconst 1, 1) := by decide +kernel
theorem d_Lw_law_2716 : decode code 2716 = .ok (.iadd, 1) := by decide +kernel
theorem d_Lw_law_2717 : decode code 2717 = .ok (.iaload, 1) := by decide +kernel
theorem d_Lw_law_2718 : decode code 2718 = .ok (.invokevirtual 322, 3) := by decide +kernel
theorem ok_Lw_law_Mm_deliver : z_ok M_Lw_law M_Mm_deliver 1 := ⟨z_mem (i := 2028) (by decide +kernel) (by decide +kernel), rfl, ⟨by decide +kernel, by decide +kernel, by decide +kernel⟩, ⟨by decide, by decide⟩, z_mem (i := 71) (by decide +kernel) (by decide +kernel), rfl⟩
theorem ln_Lw_322 : Cond.methodLink "IronpourLaw" 322 M_Mm_deliver.1 ∈ z_gw := z_mem (i := 2025) (by decide +kernel) (by decide +kernel)
theorem w_im_Mm_deliver : Cond.instanceMethod M_Mm_deliver.1 ∈ z_gw := z_mem (i := 2026) (by decide +kernel) (by decide +kernel)
theorem w_se_Mm_deliver : Cond.selects M_Mm_deliver.1.cls M_Mm_deliver.1 M_Mm_deliver.1 ∈ z_gw := z_mem (i := 2027) (by decide +kernel) (by decide +kernel)
theorem d_Lw_law_2721 : decode code 2721 = .ok (.istore 7, 2) := by decide +kernel
theorem d_Lw_law_2723 : decode code 2723 = .ok (.aload_n 2, 1) := by decide +kernel
theorem d_Lw_law_2724 : decode code 2724 = .ok (.invokevirtual 175, 3) := by decide +kernel
theorem d_Lw_law_2727 : decode code 2727 = .ok (.iload 6, 2) := by decide +kernel
theorem d_Lw_law_2729 : decode code 2729 = .ok (.if_icmp .eq 5, 3) := by decide +kernel
theorem d_Lw_law_2734 : decode code 2734 = .ok (.iload 6, 2) := by decide +kernel
theorem d_Lw_law_2736 : decode code 2736 = .ok (.ifCond .ne 22, 3) := by decide +kernel
theorem d_Lw_law_2758 : decode code 2758 = .ok (.goto 261, 3) := by decide +kernel
set_option maxHeartbeats 4000000 in
set_option maxRecDepth 100000 in
theorem LW_deliverE (g : zG) (a pa pa1 pa2 pa3 ta ta1 ta2 taz taz1 taz2 taz3 taz4 taz5 taz6 ta4 ta5 ta6 sa sa1 sa2 saz saz1 saz2 saz3 saz4 saz5 saz6 sa4 sa5 sa6 gs co co1 co2 co3 fu fub fubg fut1 fut2 fut3 la lab labg gy gyg du dug re wm ac m mp mf mh mn mt mz mc_ mq mgr ml mi mr mm mu mk mx o1 o2 : Nat) (hL : g.2.2 41 = 7) (w0 : zW) (n : Nat) : DV g M_Lw_law (lwP) w0 n 2698 [(5, .int 0), (4, .ref o2), (3, .ref o1), (2, .ref m), (1, .ref a), (0, .ref (g.2.2 40))] [] (lwCS g a pa pa1 pa2 pa3 ta ta1 ta2 taz taz1 taz2 taz3 taz4 taz5 taz6 ta4 ta5 ta6 sa sa1 sa2 saz saz1 saz2 saz3 saz4 saz5 saz6 sa4 sa5 sa6 gs co co1 co2 co3 fu fub fubg fut1 fut2 fut3 la lab labg gy gyg du dug re wm ac m mp mf mh mn mt mz mc_ mq mgr ml mi mr mm mu mk mx o1 o2) 100 1000 := by
  refine r_aload_n d_Lw_law_2698 rfl 4 rfl ?_
  refine r_aload_n d_Lw_law_2699 rfl 5 rfl ?_
  refine r_iload d_Lw_law_2700 0 rfl ?_
  refine r_iconst d_Lw_law_2702 (v := 1) (by decide) ?_
  refine r_iadd d_Lw_law_2703 (v := 1) rfl ?_
  refine r_sld (v := zs g 1) d_Lw_law_2704 (by rw [hL]; exact fun q => q.elim (by decide) (by decide)) rfl ?_
  refine r_aload_n d_Lw_law_2705 rfl 2 rfl ?_
  refine r_callSX (As := [.ref a, .int (zs g 1), .ref o1]) (rest := []) (csC := [(a, .inr (11, [.ref pa, .ref ta, .ref sa, .ref gs, .ref co, .ref fu, .ref la, .ref gy, .ref du, .ref re, .ref wm, .ref ac])), (ac, .inr (13, [.int 0, .ref (g.2.2 4), .int 0])), (o1, .inl (3, 1, .inr (.inl (fun _ => 0))))]) (is := [0, 51, 69]) ln_Lw_320 w_st_Lw_deliver ok_Lw_law_Lw_deliver d_Lw_law_2706 (C_Lw_deliverE g a pa ta sa gs co fu la gy du re wm ac 0 (g.2.2 4) 0 (zs g 1) (z_tot _) o1 (fun _ => 0)) rfl rfl (Nat.le_of_ble_eq_true rfl) rfl (by decide) (by omega) (by omega) (fun E cs1 hx => ?_) (fun v cs1 hx => ?_)
  · exact absurd hx.1 (by simp)
  · obtain ⟨e1, rfl⟩ := hx
    cases e1
    refine ⟨rfl, ?_⟩
    refine r_st (st2 := [.int 1]) rfl ?_
    refine r_istore (lv' := [(6, .int 1), (5, .int 0), (4, .ref o2), (3, .ref o1), (2, .ref m), (1, .ref a), (0, .ref (g.2.2 40))]) d_Lw_law_2709 (by decide) rfl ?_
    refine r_aload_n d_Lw_law_2711 rfl 4 rfl ?_
    refine r_aload_n d_Lw_law_2712 rfl 6 rfl ?_
    refine r_iload d_Lw_law_2713 1 rfl ?_
    refine r_iconst d_Lw_law_2715 (v := 1) (by decide) ?_
    refine r_iadd d_Lw_law_2716 (v := 1) rfl ?_
    refine r_sld (v := zs g 1) d_Lw_law_2717 (by rw [hL]; exact fun q => q.elim (by decide) (by decide)) rfl ?_
    refine r_callV (As := [.int (zs g 1)]) (rest := []) (csC := [(m, .inr (12, [.int 0, .ref mp, .int 4, .ref mf, .ref mh, .ref mn, .ref mt, .ref mz, .ref mc_, .ref mq, .ref mgr, .int 80, .int 35, .int 30, .int 50, .int 0, .int 0, .ref ml, .ref mi, .ref mr, .int 0, .int 0, .int 0, .int (-1), .int 0, .ref mm, .ref mu, .ref mk, .ref mx, .long 0, .long 0])), (mk, .inr (13, [.int 0, .ref (g.2.2 4), .int 0]))]) (is := [52, 67]) (q0 := 52) rfl rfl ln_Lw_322 w_im_Mm_deliver w_se_Mm_deliver ok_Lw_law_Mm_deliver d_Lw_law_2718 (C_Mm_deliver0 g m mp mf mh mn mt mz mc_ mq mgr ml mi mr mm mu mk mx 0 4 80 35 30 50 0 0 0 0 0 (-1) 0 0 0 0 (g.2.2 4) (zs g 1)) rfl rfl (Nat.le_of_ble_eq_true rfl) rfl (by decide) (by omega) (by omega) (fun E cs1 hx => ?_) (fun v cs1 hx => ?_)
    · exact absurd hx.1 (by simp)
    · obtain ⟨e1, rfl⟩ := hx
      cases e1
      refine ⟨rfl, ?_⟩
      refine r_st (st2 := [.int 0]) rfl ?_
      refine r_istore (lv' := [(7, .int 0), (6, .int 1), (5, .int 0), (4, .ref o2), (3, .ref o1), (2, .ref m), (1, .ref a), (0, .ref (g.2.2 40))]) d_Lw_law_2721 (by decide) rfl ?_
      refine r_aload_n d_Lw_law_2723 rfl 5 rfl ?_
      refine r_callV (As := []) (rest := []) (csC := [(m, .inr (12, [.int 1, .ref mp, .int 4, .ref mf, .ref mh, .ref mn, .ref mt, .ref mz, .ref mc_, .ref mq, .ref mgr, .int 80, .int 35, .int 30, .int 50, .int 0, .int 0, .ref ml, .ref mi, .ref mr, .int 0, .int 0, .int 0, .int (-1), .int 0, .ref mm, .ref mu, .ref mk, .ref mx, .long 0, .long 0]))]) (is := [52]) (q0 := 52) rfl rfl ln_Lw_175 w_im_Mm_thrown w_se_Mm_thrown ok_Lw_law_Mm_thrown d_Lw_law_2724 (C_Mm_thrown g m mp mf mh mn mt mz mc_ mq mgr ml mi mr mm mu mk mx 1 4 80 35 30 50 0 0 0 0 0 (-1) 0 0 0) rfl rfl (Nat.le_of_ble_eq_true rfl) rfl (by decide) (by omega) (by omega) (fun E cs1 hx => ?_) (fun v cs1 hx => ?_)
      · exact absurd hx.1 (by simp)
      · obtain ⟨e1, rfl⟩ := hx
        cases e1
        refine ⟨rfl, ?_⟩
        refine r_st (st2 := [.int 1]) rfl ?_
        refine r_iload d_Lw_law_2727 1 rfl ?_
        refine r_icmp_eq (tgt := 2734) d_Lw_law_2729 (by decide) (fun c_2729 => ?_) (fun c_2729 => ?_)
        · refine r_iload d_Lw_law_2734 1 rfl ?_
          refine r_if_ne (tgt := 2758) d_Lw_law_2736 (by decide) (fun c_2736 => ?_) (fun c_2736 => ?_)
          · refine r_goto (tgt := 3019) d_Lw_law_2758 (by decide) ?_
            refine r_lv (lv' := [(5, .int 0), (0, .ref (g.2.2 40))]) [2, 7] rfl ?_
            exact LW_tail g _ hL _ _ w0 n
          · exact absurd c_2736 (by decide)
        · exact absurd c_2729 (by decide)
theorem d_Lw_law_2761 : decode code 2761 = .ok (.aload_n 1, 1) := by decide +kernel
theorem d_Lw_law_2762 : decode code 2762 = .ok (.aload_n 0, 1) := by decide +kernel
theorem d_Lw_law_2763 : decode code 2763 = .ok (.iload 5, 2) := by decide +kernel
theorem d_Lw_law_2765 : decode code 2765 = .ok (.iconst 1, 1) := by decide +kernel
theorem d_Lw_law_2766 : decode code 2766 = .ok (.iadd, 1) := by decide +kernel
theorem d_Lw_law_2767 : decode code 2767 = .ok (.iaload, 1) := by decide +kernel
theorem d_Lw_law_2768 : decode code 2768 = .ok (.aload_n 3, 1) := by decide +kernel
theorem d_Lw_law_2769 : decode code 2769 = .ok (.invokestatic 323, 3) := by decide +kernel
theorem ok_Lw_law_Lw_breakUp : z_okX M_Lw_law M_Lw_breakUp 3 := ⟨z_mem (i := 1517) (by decide +kernel) (by decide +kernel), by decide, ⟨by decide +kernel, by decide +kernel, by decide +kernel⟩, ⟨by decide, by decide⟩, z_mem (i := 57) (by decide +kernel) (by decide +kernel), rfl⟩
theorem ln_Lw_323 : Cond.methodLink "IronpourLaw" 323 M_Lw_breakUp.1 ∈ z_gw := z_mem (i := 1515) (by decide +kernel) (by decide +kernel)
theorem w_st_Lw_breakUp : Cond.static M_Lw_breakUp.1 ∈ z_gw := z_mem (i := 1516) (by decide +kernel) (by decide +kernel)
theorem d_Lw_law_2772 : decode code 2772 = .ok (.istore 6, 2) := by decide +kernel
theorem d_Lw_law_2774 : decode code 2774 = .ok (.aload_n 2, 1) := by decide +kernel
theorem d_Lw_law_2775 : decode code 2775 = .ok (.aload_n 0, 1) := by decide +kernel
theorem d_Lw_law_2776 : decode code 2776 = .ok (.iload 5, 2) := by decide +kernel
theorem d_Lw_law_2778 : decode code 2778 = .ok (.iconst 1, 1) := by decide +kernel
theorem d_Lw_law_2779 : decode code 2779 = .ok (.iadd, 1) := by decide +kernel
theorem d_Lw_law_2780 : decode code 2780 = .ok (.iaload, 1) := by decide +kernel
theorem d_Lw_law_2781 : decode code 2781 = .ok (.invokevirtual 325, 3) := by decide +kernel
theorem ok_Lw_law_Mm_breakUp : z_ok M_Lw_law M_Mm_breakUp 1 := ⟨z_mem (i := 2032) (by decide +kernel) (by decide +kernel), rfl, ⟨by decide +kernel, by decide +kernel, by decide +kernel⟩, ⟨by decide, by decide⟩, z_mem (i := 71) (by decide +kernel) (by decide +kernel), rfl⟩
theorem ln_Lw_325 : Cond.methodLink "IronpourLaw" 325 M_Mm_breakUp.1 ∈ z_gw := z_mem (i := 2029) (by decide +kernel) (by decide +kernel)
theorem w_im_Mm_breakUp : Cond.instanceMethod M_Mm_breakUp.1 ∈ z_gw := z_mem (i := 2030) (by decide +kernel) (by decide +kernel)
theorem w_se_Mm_breakUp : Cond.selects M_Mm_breakUp.1.cls M_Mm_breakUp.1 M_Mm_breakUp.1 ∈ z_gw := z_mem (i := 2031) (by decide +kernel) (by decide +kernel)
theorem d_Lw_law_2784 : decode code 2784 = .ok (.istore 7, 2) := by decide +kernel
theorem d_Lw_law_2786 : decode code 2786 = .ok (.aload_n 2, 1) := by decide +kernel
theorem d_Lw_law_2787 : decode code 2787 = .ok (.invokevirtual 175, 3) := by decide +kernel
theorem d_Lw_law_2790 : decode code 2790 = .ok (.iload 6, 2) := by decide +kernel
theorem d_Lw_law_2792 : decode code 2792 = .ok (.if_icmp .eq 5, 3) := by decide +kernel
theorem d_Lw_law_2797 : decode code 2797 = .ok (.iload 6, 2) := by decide +kernel
theorem d_Lw_law_2799 : decode code 2799 = .ok (.ifCond .ne 15, 3) := by decide +kernel
theorem d_Lw_law_2814 : decode code 2814 = .ok (.goto 205, 3) := by decide +kernel
set_option maxHeartbeats 4000000 in
set_option maxRecDepth 100000 in
theorem LW_breakUpE (g : zG) (a pa pa1 pa2 pa3 ta ta1 ta2 taz taz1 taz2 taz3 taz4 taz5 taz6 ta4 ta5 ta6 sa sa1 sa2 saz saz1 saz2 saz3 saz4 saz5 saz6 sa4 sa5 sa6 gs co co1 co2 co3 fu fub fubg fut1 fut2 fut3 la lab labg gy gyg du dug re wm ac m mp mf mh mn mt mz mc_ mq mgr ml mi mr mm mu mk mx o1 o2 : Nat) (hL : g.2.2 41 = 7) (w0 : zW) (n : Nat) : DV g M_Lw_law (lwP) w0 n 2761 [(5, .int 0), (4, .ref o2), (3, .ref o1), (2, .ref m), (1, .ref a), (0, .ref (g.2.2 40))] [] (lwCS g a pa pa1 pa2 pa3 ta ta1 ta2 taz taz1 taz2 taz3 taz4 taz5 taz6 ta4 ta5 ta6 sa sa1 sa2 saz saz1 saz2 saz3 saz4 saz5 saz6 sa4 sa5 sa6 gs co co1 co2 co3 fu fub fubg fut1 fut2 fut3 la lab labg gy gyg du dug re wm ac m mp mf mh mn mt mz mc_ mq mgr ml mi mr mm mu mk mx o1 o2) 100 1000 := by
  refine r_aload_n d_Lw_law_2761 rfl 4 rfl ?_
  refine r_aload_n d_Lw_law_2762 rfl 5 rfl ?_
  refine r_iload d_Lw_law_2763 0 rfl ?_
  refine r_iconst d_Lw_law_2765 (v := 1) (by decide) ?_
  refine r_iadd d_Lw_law_2766 (v := 1) rfl ?_
  refine r_sld (v := zs g 1) d_Lw_law_2767 (by rw [hL]; exact fun q => q.elim (by decide) (by decide)) rfl ?_
  refine r_aload_n d_Lw_law_2768 rfl 2 rfl ?_
  refine r_callSX (As := [.ref a, .int (zs g 1), .ref o1]) (rest := []) (csC := [(a, .inr (11, [.ref pa, .ref ta, .ref sa, .ref gs, .ref co, .ref fu, .ref la, .ref gy, .ref du, .ref re, .ref wm, .ref ac])), (ac, .inr (13, [.int 0, .ref (g.2.2 4), .int 0])), (o1, .inl (3, 1, .inr (.inl (fun _ => 0))))]) (is := [0, 51, 69]) ln_Lw_323 w_st_Lw_breakUp ok_Lw_law_Lw_breakUp d_Lw_law_2769 (C_Lw_breakUpE g a pa ta sa gs co fu la gy du re wm ac 0 (g.2.2 4) 0 (zs g 1) (z_tot _) o1 (fun _ => 0)) rfl rfl (Nat.le_of_ble_eq_true rfl) rfl (by decide) (by omega) (by omega) (fun E cs1 hx => ?_) (fun v cs1 hx => ?_)
  · exact absurd hx.1 (by simp)
  · obtain ⟨e1, rfl⟩ := hx
    cases e1
    refine ⟨rfl, ?_⟩
    refine r_st (st2 := [.int 1]) rfl ?_
    refine r_istore (lv' := [(6, .int 1), (5, .int 0), (4, .ref o2), (3, .ref o1), (2, .ref m), (1, .ref a), (0, .ref (g.2.2 40))]) d_Lw_law_2772 (by decide) rfl ?_
    refine r_aload_n d_Lw_law_2774 rfl 4 rfl ?_
    refine r_aload_n d_Lw_law_2775 rfl 6 rfl ?_
    refine r_iload d_Lw_law_2776 1 rfl ?_
    refine r_iconst d_Lw_law_2778 (v := 1) (by decide) ?_
    refine r_iadd d_Lw_law_2779 (v := 1) rfl ?_
    refine r_sld (v := zs g 1) d_Lw_law_2780 (by rw [hL]; exact fun q => q.elim (by decide) (by decide)) rfl ?_
    refine r_callV (As := [.int (zs g 1)]) (rest := []) (csC := [(m, .inr (12, [.int 0, .ref mp, .int 4, .ref mf, .ref mh, .ref mn, .ref mt, .ref mz, .ref mc_, .ref mq, .ref mgr, .int 80, .int 35, .int 30, .int 50, .int 0, .int 0, .ref ml, .ref mi, .ref mr, .int 0, .int 0, .int 0, .int (-1), .int 0, .ref mm, .ref mu, .ref mk, .ref mx, .long 0, .long 0])), (mk, .inr (13, [.int 0, .ref (g.2.2 4), .int 0]))]) (is := [52, 67]) (q0 := 52) rfl rfl ln_Lw_325 w_im_Mm_breakUp w_se_Mm_breakUp ok_Lw_law_Mm_breakUp d_Lw_law_2781 (C_Mm_breakUp0 g m mp mf mh mn mt mz mc_ mq mgr ml mi mr mm mu mk mx 0 4 80 35 30 50 0 0 0 0 0 (-1) 0 0 0 0 (g.2.2 4) (zs g 1)) rfl rfl (Nat.le_of_ble_eq_true rfl) rfl (by decide) (by omega) (by omega) (fun E cs1 hx => ?_) (fun v cs1 hx => ?_)
    · exact absurd hx.1 (by simp)
    · obtain ⟨e1, rfl⟩ := hx
      cases e1
      refine ⟨rfl, ?_⟩
      refine r_st (st2 := [.int 0]) rfl ?_
      refine r_istore (lv' := [(7, .int 0), (6, .int 1), (5, .int 0), (4, .ref o2), (3, .ref o1), (2, .ref m), (1, .ref a), (0, .ref (g.2.2 40))]) d_Lw_law_2784 (by decide) rfl ?_
      refine r_aload_n d_Lw_law_2786 rfl 5 rfl ?_
      refine r_callV (As := []) (rest := []) (csC := [(m, .inr (12, [.int 1, .ref mp, .int 4, .ref mf, .ref mh, .ref mn, .ref mt, .ref mz, .ref mc_, .ref mq, .ref mgr, .int 80, .int 35, .int 30, .int 50, .int 0, .int 0, .ref ml, .ref mi, .ref mr, .int 0, .int 0, .int 0, .int (-1), .int 0, .ref mm, .ref mu, .ref mk, .ref mx, .long 0, .long 0]))]) (is := [52]) (q0 := 52) rfl rfl ln_Lw_175 w_im_Mm_thrown w_se_Mm_thrown ok_Lw_law_Mm_thrown d_Lw_law_2787 (C_Mm_thrown g m mp mf mh mn mt mz mc_ mq mgr ml mi mr mm mu mk mx 1 4 80 35 30 50 0 0 0 0 0 (-1) 0 0 0) rfl rfl (Nat.le_of_ble_eq_true rfl) rfl (by decide) (by omega) (by omega) (fun E cs1 hx => ?_) (fun v cs1 hx => ?_)
      · exact absurd hx.1 (by simp)
      · obtain ⟨e1, rfl⟩ := hx
        cases e1
        refine ⟨rfl, ?_⟩
        refine r_st (st2 := [.int 1]) rfl ?_
        refine r_iload d_Lw_law_2790 1 rfl ?_
        refine r_icmp_eq (tgt := 2797) d_Lw_law_2792 (by decide) (fun c_2792 => ?_) (fun c_2792 => ?_)
        · refine r_iload d_Lw_law_2797 1 rfl ?_
          refine r_if_ne (tgt := 2814) d_Lw_law_2799 (by decide) (fun c_2799 => ?_) (fun c_2799 => ?_)
          · refine r_goto (tgt := 3019) d_Lw_law_2814 (by decide) ?_
            refine r_lv (lv' := [(5, .int 0), (0, .ref (g.2.2 40))]) [2, 7] rfl ?_
            exact LW_tail g _ hL _ _ w0 n
          · exact absurd c_2799 (by decide)
        · exact absurd c_2792 (by decide)
theorem d_Lw_law_2817 : decode code 2817 = .ok (.aload_n 1, 1) := by decide +kernel
theorem d_Lw_law_2818 : decode code 2818 = .ok (.aload_n 3, 1) := by decide +kernel
theorem d_Lw_law_2819 : decode code 2819 = .ok (.invokestatic 326, 3) := by decide +kernel
theorem ok_Lw_law_Lw_worst : z_okX M_Lw_law M_Lw_worst 2 := ⟨z_mem (i := 1528) (by decide +kernel) (by decide +kernel), by decide, ⟨by decide +kernel, by decide +kernel, by decide +kernel⟩, ⟨by decide, by decide⟩, z_mem (i := 57) (by decide +kernel) (by decide +kernel), rfl⟩
theorem ln_Lw_326 : Cond.methodLink "IronpourLaw" 326 M_Lw_worst.1 ∈ z_gw := z_mem (i := 1526) (by decide +kernel) (by decide +kernel)
theorem w_st_Lw_worst : Cond.static M_Lw_worst.1 ∈ z_gw := z_mem (i := 1527) (by decide +kernel) (by decide +kernel)
theorem d_Lw_law_2822 : decode code 2822 = .ok (.istore 6, 2) := by decide +kernel
theorem d_Lw_law_2824 : decode code 2824 = .ok (.aload_n 2, 1) := by decide +kernel
theorem d_Lw_law_2825 : decode code 2825 = .ok (.invokevirtual 328, 3) := by decide +kernel
theorem ok_Lw_law_Mm_worst : z_ok M_Lw_law M_Mm_worst 0 := ⟨z_mem (i := 2036) (by decide +kernel) (by decide +kernel), rfl, ⟨by decide +kernel, by decide +kernel, by decide +kernel⟩, ⟨by decide, by decide⟩, z_mem (i := 71) (by decide +kernel) (by decide +kernel), rfl⟩
theorem ln_Lw_328 : Cond.methodLink "IronpourLaw" 328 M_Mm_worst.1 ∈ z_gw := z_mem (i := 2033) (by decide +kernel) (by decide +kernel)
theorem w_im_Mm_worst : Cond.instanceMethod M_Mm_worst.1 ∈ z_gw := z_mem (i := 2034) (by decide +kernel) (by decide +kernel)
theorem w_se_Mm_worst : Cond.selects M_Mm_worst.1.cls M_Mm_worst.1 M_Mm_worst.1 ∈ z_gw := z_mem (i := 2035) (by decide +kernel) (by decide +kernel)
theorem d_Lw_law_2828 : decode code 2828 = .ok (.istore 7, 2) := by decide +kernel
theorem d_Lw_law_2830 : decode code 2830 = .ok (.aload_n 2, 1) := by decide +kernel
theorem d_Lw_law_2831 : decode code 2831 = .ok (.invokevirtual 175, 3) := by decide +kernel
theorem d_Lw_law_2834 : decode code 2834 = .ok (.iload 6, 2) := by decide +kernel
theorem d_Lw_law_2836 : decode code 2836 = .ok (.if_icmp .eq 5, 3) := by decide +kernel
theorem d_Lw_law_2841 : decode code 2841 = .ok (.iload 6, 2) := by decide +kernel
theorem d_Lw_law_2843 : decode code 2843 = .ok (.ifCond .ne 15, 3) := by decide +kernel
theorem d_Lw_law_2858 : decode code 2858 = .ok (.goto 161, 3) := by decide +kernel
set_option maxHeartbeats 4000000 in
set_option maxRecDepth 100000 in
theorem LW_worst0 (g : zG) (a pa pa1 pa2 pa3 ta ta1 ta2 taz taz1 taz2 taz3 taz4 taz5 taz6 ta4 ta5 ta6 sa sa1 sa2 saz saz1 saz2 saz3 saz4 saz5 saz6 sa4 sa5 sa6 gs co co1 co2 co3 fu fub fubg fut1 fut2 fut3 la lab labg gy gyg du dug re wm ac m mp mf mh mn mt mz mc_ mq mgr ml mi mr mm mu mk mx o1 o2 : Nat) (hL : g.2.2 41 = 7) (w0 : zW) (n : Nat) : DV g M_Lw_law (lwP) w0 n 2817 [(5, .int 0), (4, .ref o2), (3, .ref o1), (2, .ref m), (1, .ref a), (0, .ref (g.2.2 40))] [] (lwCS g a pa pa1 pa2 pa3 ta ta1 ta2 taz taz1 taz2 taz3 taz4 taz5 taz6 ta4 ta5 ta6 sa sa1 sa2 saz saz1 saz2 saz3 saz4 saz5 saz6 sa4 sa5 sa6 gs co co1 co2 co3 fu fub fubg fut1 fut2 fut3 la lab labg gy gyg du dug re wm ac m mp mf mh mn mt mz mc_ mq mgr ml mi mr mm mu mk mx o1 o2) 100 1000 := by
  refine r_aload_n d_Lw_law_2817 rfl 4 rfl ?_
  refine r_aload_n d_Lw_law_2818 rfl 2 rfl ?_
  refine r_callSX (As := [.ref a, .ref o1]) (rest := []) (csC := [(a, .inr (11, [.ref pa, .ref ta, .ref sa, .ref gs, .ref co, .ref fu, .ref la, .ref gy, .ref du, .ref re, .ref wm, .ref ac])), (ac, .inr (13, [.int 0, .ref (g.2.2 4), .int 0])), (o1, .inl (3, 1, .inr (.inl (fun _ => 0))))]) (is := [0, 51, 69]) ln_Lw_326 w_st_Lw_worst ok_Lw_law_Lw_worst d_Lw_law_2819 (C_Lw_worst0 g a pa ta sa gs co fu la gy du re wm ac 0 (g.2.2 4) o1 (fun _ => 0)) rfl rfl (Nat.le_of_ble_eq_true rfl) rfl (by decide) (by omega) (by omega) (fun E cs1 hx => ?_) (fun v cs1 hx => ?_)
  · exact absurd hx.1 (by simp)
  · obtain ⟨e1, rfl⟩ := hx
    cases e1
    refine ⟨rfl, ?_⟩
    refine r_st (st2 := [.int 1]) rfl ?_
    refine r_istore (lv' := [(6, .int 1), (5, .int 0), (4, .ref o2), (3, .ref o1), (2, .ref m), (1, .ref a), (0, .ref (g.2.2 40))]) d_Lw_law_2822 (by decide) rfl ?_
    refine r_aload_n d_Lw_law_2824 rfl 4 rfl ?_
    refine r_callV (As := []) (rest := []) (csC := [(m, .inr (12, [.int 0, .ref mp, .int 4, .ref mf, .ref mh, .ref mn, .ref mt, .ref mz, .ref mc_, .ref mq, .ref mgr, .int 80, .int 35, .int 30, .int 50, .int 0, .int 0, .ref ml, .ref mi, .ref mr, .int 0, .int 0, .int 0, .int (-1), .int 0, .ref mm, .ref mu, .ref mk, .ref mx, .long 0, .long 0])), (mk, .inr (13, [.int 0, .ref (g.2.2 4), .int 0]))]) (is := [52, 67]) (q0 := 52) rfl rfl ln_Lw_328 w_im_Mm_worst w_se_Mm_worst ok_Lw_law_Mm_worst d_Lw_law_2825 (C_Mm_worst0 g m mp mf mh mn mt mz mc_ mq mgr ml mi mr mm mu mk mx 0 4 80 35 30 50 0 0 0 0 0 (-1) 0 0 0 0 (g.2.2 4)) rfl rfl (Nat.le_of_ble_eq_true rfl) rfl (by decide) (by omega) (by omega) (fun E cs1 hx => ?_) (fun v cs1 hx => ?_)
    · exact absurd hx.1 (by simp)
    · obtain ⟨e1, rfl⟩ := hx
      cases e1
      refine ⟨rfl, ?_⟩
      refine r_st (st2 := [.int 0]) rfl ?_
      refine r_istore (lv' := [(7, .int 0), (6, .int 1), (5, .int 0), (4, .ref o2), (3, .ref o1), (2, .ref m), (1, .ref a), (0, .ref (g.2.2 40))]) d_Lw_law_2828 (by decide) rfl ?_
      refine r_aload_n d_Lw_law_2830 rfl 5 rfl ?_
      refine r_callV (As := []) (rest := []) (csC := [(m, .inr (12, [.int 1, .ref mp, .int 4, .ref mf, .ref mh, .ref mn, .ref mt, .ref mz, .ref mc_, .ref mq, .ref mgr, .int 80, .int 35, .int 30, .int 50, .int 0, .int 0, .ref ml, .ref mi, .ref mr, .int 0, .int 0, .int 0, .int (-1), .int 0, .ref mm, .ref mu, .ref mk, .ref mx, .long 0, .long 0]))]) (is := [52]) (q0 := 52) rfl rfl ln_Lw_175 w_im_Mm_thrown w_se_Mm_thrown ok_Lw_law_Mm_thrown d_Lw_law_2831 (C_Mm_thrown g m mp mf mh mn mt mz mc_ mq mgr ml mi mr mm mu mk mx 1 4 80 35 30 50 0 0 0 0 0 (-1) 0 0 0) rfl rfl (Nat.le_of_ble_eq_true rfl) rfl (by decide) (by omega) (by omega) (fun E cs1 hx => ?_) (fun v cs1 hx => ?_)
      · exact absurd hx.1 (by simp)
      · obtain ⟨e1, rfl⟩ := hx
        cases e1
        refine ⟨rfl, ?_⟩
        refine r_st (st2 := [.int 1]) rfl ?_
        refine r_iload d_Lw_law_2834 1 rfl ?_
        refine r_icmp_eq (tgt := 2841) d_Lw_law_2836 (by decide) (fun c_2836 => ?_) (fun c_2836 => ?_)
        · refine r_iload d_Lw_law_2841 1 rfl ?_
          refine r_if_ne (tgt := 2858) d_Lw_law_2843 (by decide) (fun c_2843 => ?_) (fun c_2843 => ?_)
          · refine r_goto (tgt := 3019) d_Lw_law_2858 (by decide) ?_
            refine r_lv (lv' := [(5, .int 0), (0, .ref (g.2.2 40))]) [2, 7] rfl ?_
            exact LW_tail g _ hL _ _ w0 n
          · exact absurd c_2843 (by decide)
        · exact absurd c_2836 (by decide)
theorem d_Lw_law_2861 : decode code 2861 = .ok (.aload_n 1, 1) := by decide +kernel
theorem d_Lw_law_2862 : decode code 2862 = .ok (.invokevirtual 329, 3) := by decide +kernel
theorem ok_Lw_law_Ip_delivered : z_ok M_Lw_law M_Ip_delivered 0 := ⟨z_mem (i := 473) (by decide +kernel) (by decide +kernel), rfl, ⟨by decide +kernel, by decide +kernel, by decide +kernel⟩, ⟨by decide, by decide⟩, z_mem (i := 58) (by decide +kernel) (by decide +kernel), rfl⟩
theorem ln_Lw_329 : Cond.methodLink "IronpourLaw" 329 M_Ip_delivered.1 ∈ z_gw := z_mem (i := 470) (by decide +kernel) (by decide +kernel)
theorem w_im_Ip_delivered : Cond.instanceMethod M_Ip_delivered.1 ∈ z_gw := z_mem (i := 471) (by decide +kernel) (by decide +kernel)
theorem w_se_Ip_delivered : Cond.selects M_Ip_delivered.1.cls M_Ip_delivered.1 M_Ip_delivered.1 ∈ z_gw := z_mem (i := 472) (by decide +kernel) (by decide +kernel)
theorem d_Lw_law_2865 : decode code 2865 = .ok (.aload_n 2, 1) := by decide +kernel
theorem d_Lw_law_2866 : decode code 2866 = .ok (.invokevirtual 333, 3) := by decide +kernel
theorem ok_Lw_law_Mm_delivered : z_ok M_Lw_law M_Mm_delivered 0 := ⟨z_mem (i := 2044) (by decide +kernel) (by decide +kernel), rfl, ⟨by decide +kernel, by decide +kernel, by decide +kernel⟩, ⟨by decide, by decide⟩, z_mem (i := 71) (by decide +kernel) (by decide +kernel), rfl⟩
theorem ln_Lw_333 : Cond.methodLink "IronpourLaw" 333 M_Mm_delivered.1 ∈ z_gw := z_mem (i := 2041) (by decide +kernel) (by decide +kernel)
theorem w_im_Mm_delivered : Cond.instanceMethod M_Mm_delivered.1 ∈ z_gw := z_mem (i := 2042) (by decide +kernel) (by decide +kernel)
theorem w_se_Mm_delivered : Cond.selects M_Mm_delivered.1.cls M_Mm_delivered.1 M_Mm_delivered.1 ∈ z_gw := z_mem (i := 2043) (by decide +kernel) (by decide +kernel)
theorem d_Lw_law_2869 : decode code 2869 = .ok (.lcmp, 1) := by decide +kernel
theorem d_Lw_law_2870 : decode code 2870 = .ok (.ifCond .eq 149, 3) := by decide +kernel
set_option maxHeartbeats 4000000 in
set_option maxRecDepth 100000 in
theorem LW_delivered (g : zG) (a pa pa1 pa2 pa3 ta ta1 ta2 taz taz1 taz2 taz3 taz4 taz5 taz6 ta4 ta5 ta6 sa sa1 sa2 saz saz1 saz2 saz3 saz4 saz5 saz6 sa4 sa5 sa6 gs co co1 co2 co3 fu fub fubg fut1 fut2 fut3 la lab labg gy gyg du dug re wm ac m mp mf mh mn mt mz mc_ mq mgr ml mi mr mm mu mk mx o1 o2 : Nat) (hL : g.2.2 41 = 7) (w0 : zW) (n : Nat) : DV g M_Lw_law (lwP) w0 n 2861 [(5, .int 0), (4, .ref o2), (3, .ref o1), (2, .ref m), (1, .ref a), (0, .ref (g.2.2 40))] [] (lwCS g a pa pa1 pa2 pa3 ta ta1 ta2 taz taz1 taz2 taz3 taz4 taz5 taz6 ta4 ta5 ta6 sa sa1 sa2 saz saz1 saz2 saz3 saz4 saz5 saz6 sa4 sa5 sa6 gs co co1 co2 co3 fu fub fubg fut1 fut2 fut3 la lab labg gy gyg du dug re wm ac m mp mf mh mn mt mz mc_ mq mgr ml mi mr mm mu mk mx o1 o2) 100 1000 := by
  refine r_aload_n d_Lw_law_2861 rfl 4 rfl ?_
  refine r_callV (As := []) (rest := []) (csC := [(a, .inr (11, [.ref pa, .ref ta, .ref sa, .ref gs, .ref co, .ref fu, .ref la, .ref gy, .ref du, .ref re, .ref wm, .ref ac])), (ac, .inr (13, [.int 0, .ref (g.2.2 4), .int 0]))]) (is := [0, 51]) (q0 := 0) rfl rfl ln_Lw_329 w_im_Ip_delivered w_se_Ip_delivered ok_Lw_law_Ip_delivered d_Lw_law_2862 (C_Ip_delivered0 g a pa ta sa gs co fu la gy du re wm ac 0 (g.2.2 4)) rfl rfl (Nat.le_of_ble_eq_true rfl) rfl (by decide) (by omega) (by omega) (fun E cs1 hx => ?_) (fun v cs1 hx => ?_)
  · exact absurd hx.1 (by simp)
  · obtain ⟨e1, rfl⟩ := hx
    cases e1
    refine ⟨rfl, ?_⟩
    refine r_st (st2 := [.long 0]) rfl ?_
    refine r_aload_n d_Lw_law_2865 rfl 3 rfl ?_
    refine r_callV (As := []) (rest := [.long 0]) (csC := [(m, .inr (12, [.int 0, .ref mp, .int 4, .ref mf, .ref mh, .ref mn, .ref mt, .ref mz, .ref mc_, .ref mq, .ref mgr, .int 80, .int 35, .int 30, .int 50, .int 0, .int 0, .ref ml, .ref mi, .ref mr, .int 0, .int 0, .int 0, .int (-1), .int 0, .ref mm, .ref mu, .ref mk, .ref mx, .long 0, .long 0]))]) (is := [52]) (q0 := 52) rfl rfl ln_Lw_333 w_im_Mm_delivered w_se_Mm_delivered ok_Lw_law_Mm_delivered d_Lw_law_2866 (C_Mm_delivered g m mp mf mh mn mt mz mc_ mq mgr ml mi mr mm mu mk mx 0 4 80 35 30 50 0 0 0 0 0 (-1) 0 0 0) rfl rfl (Nat.le_of_ble_eq_true rfl) rfl (by decide) (by omega) (by omega) (fun E cs1 hx => ?_) (fun v cs1 hx => ?_)
    · exact absurd hx.1 (by simp)
    · obtain ⟨e1, rfl⟩ := hx
      cases e1
      refine ⟨rfl, ?_⟩
      refine r_st (st2 := [.long 0, .long 0]) rfl ?_
      refine r_lcmp d_Lw_law_2869 (v := 0) rfl ?_
      refine r_if_eq (tgt := 3019) d_Lw_law_2870 (by decide) (fun c_2870 => ?_) (fun c_2870 => ?_)
      · refine r_lv (lv' := [(5, .int 0), (0, .ref (g.2.2 40))]) [0, 5] rfl ?_
        exact LW_tail g _ hL _ _ w0 n
      · exact absurd c_2870 (by decide)
theorem d_Lw_law_2875 : decode code 2875 = .ok (.aload_n 1, 1) := by decide +kernel
theorem d_Lw_law_2876 : decode code 2876 = .ok (.aload 4, 2) := by decide +kernel
theorem d_Lw_law_2878 : decode code 2878 = .ok (.invokestatic 334, 3) := by decide +kernel
theorem ok_Lw_law_Lw_goodShare : z_okX M_Lw_law M_Lw_goodShare 2 := ⟨z_mem (i := 1541) (by decide +kernel) (by decide +kernel), by decide, ⟨by decide +kernel, by decide +kernel, by decide +kernel⟩, ⟨by decide, by decide⟩, z_mem (i := 57) (by decide +kernel) (by decide +kernel), rfl⟩
theorem ln_Lw_334 : Cond.methodLink "IronpourLaw" 334 M_Lw_goodShare.1 ∈ z_gw := z_mem (i := 1539) (by decide +kernel) (by decide +kernel)
theorem w_st_Lw_goodShare : Cond.static M_Lw_goodShare.1 ∈ z_gw := z_mem (i := 1540) (by decide +kernel) (by decide +kernel)
theorem d_Lw_law_2881 : decode code 2881 = .ok (.istore 6, 2) := by decide +kernel
theorem d_Lw_law_2883 : decode code 2883 = .ok (.aload_n 2, 1) := by decide +kernel
theorem d_Lw_law_2884 : decode code 2884 = .ok (.invokevirtual 337, 3) := by decide +kernel
theorem ok_Lw_law_Mm_goodShare : z_ok M_Lw_law M_Mm_goodShare 0 := ⟨z_mem (i := 2048) (by decide +kernel) (by decide +kernel), rfl, ⟨by decide +kernel, by decide +kernel, by decide +kernel⟩, ⟨by decide, by decide⟩, z_mem (i := 71) (by decide +kernel) (by decide +kernel), rfl⟩
theorem ln_Lw_337 : Cond.methodLink "IronpourLaw" 337 M_Mm_goodShare.1 ∈ z_gw := z_mem (i := 2045) (by decide +kernel) (by decide +kernel)
theorem w_im_Mm_goodShare : Cond.instanceMethod M_Mm_goodShare.1 ∈ z_gw := z_mem (i := 2046) (by decide +kernel) (by decide +kernel)
theorem w_se_Mm_goodShare : Cond.selects M_Mm_goodShare.1.cls M_Mm_goodShare.1 M_Mm_goodShare.1 ∈ z_gw := z_mem (i := 2047) (by decide +kernel) (by decide +kernel)
theorem d_Lw_law_2887 : decode code 2887 = .ok (.fstore 7, 2) := by decide +kernel
theorem d_Lw_law_2889 : decode code 2889 = .ok (.aload_n 2, 1) := by decide +kernel
theorem d_Lw_law_2890 : decode code 2890 = .ok (.invokevirtual 175, 3) := by decide +kernel
theorem d_Lw_law_2893 : decode code 2893 = .ok (.iload 6, 2) := by decide +kernel
theorem d_Lw_law_2895 : decode code 2895 = .ok (.if_icmp .eq 5, 3) := by decide +kernel
theorem d_Lw_law_2900 : decode code 2900 = .ok (.iload 6, 2) := by decide +kernel
theorem d_Lw_law_2902 : decode code 2902 = .ok (.ifCond .ne 36, 3) := by decide +kernel
theorem d_Lw_law_2938 : decode code 2938 = .ok (.goto 81, 3) := by decide +kernel
set_option maxHeartbeats 4000000 in
set_option maxRecDepth 100000 in
theorem LW_goodShare0 (g : zG) (a pa pa1 pa2 pa3 ta ta1 ta2 taz taz1 taz2 taz3 taz4 taz5 taz6 ta4 ta5 ta6 sa sa1 sa2 saz saz1 saz2 saz3 saz4 saz5 saz6 sa4 sa5 sa6 gs co co1 co2 co3 fu fub fubg fut1 fut2 fut3 la lab labg gy gyg du dug re wm ac m mp mf mh mn mt mz mc_ mq mgr ml mi mr mm mu mk mx o1 o2 : Nat) (hL : g.2.2 41 = 7) (w0 : zW) (n : Nat) : DV g M_Lw_law (lwP) w0 n 2875 [(5, .int 0), (4, .ref o2), (3, .ref o1), (2, .ref m), (1, .ref a), (0, .ref (g.2.2 40))] [] (lwCS g a pa pa1 pa2 pa3 ta ta1 ta2 taz taz1 taz2 taz3 taz4 taz5 taz6 ta4 ta5 ta6 sa sa1 sa2 saz saz1 saz2 saz3 saz4 saz5 saz6 sa4 sa5 sa6 gs co co1 co2 co3 fu fub fubg fut1 fut2 fut3 la lab labg gy gyg du dug re wm ac m mp mf mh mn mt mz mc_ mq mgr ml mi mr mm mu mk mx o1 o2) 100 1000 := by
  refine r_aload_n d_Lw_law_2875 rfl 4 rfl ?_
  refine r_aload d_Lw_law_2876 1 rfl ?_
  refine r_callSX (As := [.ref a, .ref o2]) (rest := []) (csC := [(a, .inr (11, [.ref pa, .ref ta, .ref sa, .ref gs, .ref co, .ref fu, .ref la, .ref gy, .ref du, .ref re, .ref wm, .ref ac])), (ac, .inr (13, [.int 0, .ref (g.2.2 4), .int 0])), (o2, .inl (4, 1, .inr (.inr (.inr (.inl (fun _ => 0))))))]) (is := [0, 51, 70]) ln_Lw_334 w_st_Lw_goodShare ok_Lw_law_Lw_goodShare d_Lw_law_2878 (C_Lw_goodShare0 g a pa ta sa gs co fu la gy du re wm ac 0 (g.2.2 4) o2 (fun _ => 0)) rfl rfl (Nat.le_of_ble_eq_true rfl) rfl (by decide) (by omega) (by omega) (fun E cs1 hx => ?_) (fun v cs1 hx => ?_)
  · exact absurd hx.1 (by simp)
  · obtain ⟨e1, rfl⟩ := hx
    cases e1
    refine ⟨rfl, ?_⟩
    refine r_st (st2 := [.int 1]) rfl ?_
    refine r_istore (lv' := [(6, .int 1), (5, .int 0), (4, .ref o2), (3, .ref o1), (2, .ref m), (1, .ref a), (0, .ref (g.2.2 40))]) d_Lw_law_2881 (by decide) rfl ?_
    refine r_aload_n d_Lw_law_2883 rfl 4 rfl ?_
    refine r_callV (As := []) (rest := []) (csC := [(m, .inr (12, [.int 0, .ref mp, .int 4, .ref mf, .ref mh, .ref mn, .ref mt, .ref mz, .ref mc_, .ref mq, .ref mgr, .int 80, .int 35, .int 30, .int 50, .int 0, .int 0, .ref ml, .ref mi, .ref mr, .int 0, .int 0, .int 0, .int (-1), .int 0, .ref mm, .ref mu, .ref mk, .ref mx, .long 0, .long 0]))]) (is := [52]) (q0 := 52) rfl rfl ln_Lw_337 w_im_Mm_goodShare w_se_Mm_goodShare ok_Lw_law_Mm_goodShare d_Lw_law_2884 (C_Mm_goodShare0 g m mp mf mh mn mt mz mc_ mq mgr ml mi mr mm mu mk mx 0 4 80 35 30 50 0 0 0 0 0 (-1) 0 0 0) rfl rfl (Nat.le_of_ble_eq_true rfl) rfl (by decide) (by omega) (by omega) (fun E cs1 hx => ?_) (fun v cs1 hx => ?_)
    · exact absurd hx.1 (by simp)
    · obtain ⟨e1, rfl⟩ := hx
      cases e1
      refine ⟨rfl, ?_⟩
      refine r_st (st2 := [.float FP.fconst0]) rfl ?_
      refine r_fstore (lv' := [(7, .float FP.fconst0), (6, .int 1), (5, .int 0), (4, .ref o2), (3, .ref o1), (2, .ref m), (1, .ref a), (0, .ref (g.2.2 40))]) d_Lw_law_2887 (by decide) rfl ?_
      refine r_aload_n d_Lw_law_2889 rfl 5 rfl ?_
      refine r_callV (As := []) (rest := []) (csC := [(m, .inr (12, [.int 1, .ref mp, .int 4, .ref mf, .ref mh, .ref mn, .ref mt, .ref mz, .ref mc_, .ref mq, .ref mgr, .int 80, .int 35, .int 30, .int 50, .int 0, .int 0, .ref ml, .ref mi, .ref mr, .int 0, .int 0, .int 0, .int (-1), .int 0, .ref mm, .ref mu, .ref mk, .ref mx, .long 0, .long 0]))]) (is := [52]) (q0 := 52) rfl rfl ln_Lw_175 w_im_Mm_thrown w_se_Mm_thrown ok_Lw_law_Mm_thrown d_Lw_law_2890 (C_Mm_thrown g m mp mf mh mn mt mz mc_ mq mgr ml mi mr mm mu mk mx 1 4 80 35 30 50 0 0 0 0 0 (-1) 0 0 0) rfl rfl (Nat.le_of_ble_eq_true rfl) rfl (by decide) (by omega) (by omega) (fun E cs1 hx => ?_) (fun v cs1 hx => ?_)
      · exact absurd hx.1 (by simp)
      · obtain ⟨e1, rfl⟩ := hx
        cases e1
        refine ⟨rfl, ?_⟩
        refine r_st (st2 := [.int 1]) rfl ?_
        refine r_iload d_Lw_law_2893 1 rfl ?_
        refine r_icmp_eq (tgt := 2900) d_Lw_law_2895 (by decide) (fun c_2895 => ?_) (fun c_2895 => ?_)
        · refine r_iload d_Lw_law_2900 1 rfl ?_
          refine r_if_ne (tgt := 2938) d_Lw_law_2902 (by decide) (fun c_2902 => ?_) (fun c_2902 => ?_)
          · refine r_goto (tgt := 3019) d_Lw_law_2938 (by decide) ?_
            refine r_lv (lv' := [(5, .int 0), (0, .ref (g.2.2 40))]) [2, 7] rfl ?_
            exact LW_tail g _ hL _ _ w0 n
          · exact absurd c_2902 (by decide)
        · exact absurd c_2895 (by decide)
theorem d_Lw_law_2941 : decode code 2941 = .ok (.aload_n 1, 1) := by decide +kernel
theorem d_Lw_law_2942 : decode code 2942 = .ok (.aload 4, 2) := by decide +kernel
theorem d_Lw_law_2944 : decode code 2944 = .ok (.invokestatic 338, 3) := by decide +kernel
theorem ok_Lw_law_Lw_meanBar : z_okX M_Lw_law M_Lw_meanBar 2 := ⟨z_mem (i := 1566) (by decide +kernel) (by decide +kernel), by decide, ⟨by decide +kernel, by decide +kernel, by decide +kernel⟩, ⟨by decide, by decide⟩, z_mem (i := 57) (by decide +kernel) (by decide +kernel), rfl⟩
theorem ln_Lw_338 : Cond.methodLink "IronpourLaw" 338 M_Lw_meanBar.1 ∈ z_gw := z_mem (i := 1564) (by decide +kernel) (by decide +kernel)
theorem w_st_Lw_meanBar : Cond.static M_Lw_meanBar.1 ∈ z_gw := z_mem (i := 1565) (by decide +kernel) (by decide +kernel)
theorem d_Lw_law_2947 : decode code 2947 = .ok (.istore 6, 2) := by decide +kernel
theorem d_Lw_law_2949 : decode code 2949 = .ok (.aload_n 2, 1) := by decide +kernel
theorem d_Lw_law_2950 : decode code 2950 = .ok (.invokevirtual 340, 3) := by decide +kernel
theorem ok_Lw_law_Mm_meanBar : z_ok M_Lw_law M_Mm_meanBar 0 := ⟨z_mem (i := 2052) (by decide +kernel) (by decide +kernel), rfl, ⟨by decide +kernel, by decide +kernel, by decide +kernel⟩, ⟨by decide, by decide⟩, z_mem (i := 71) (by decide +kernel) (by decide +kernel), rfl⟩
theorem ln_Lw_340 : Cond.methodLink "IronpourLaw" 340 M_Mm_meanBar.1 ∈ z_gw := z_mem (i := 2049) (by decide +kernel) (by decide +kernel)
theorem w_im_Mm_meanBar : Cond.instanceMethod M_Mm_meanBar.1 ∈ z_gw := z_mem (i := 2050) (by decide +kernel) (by decide +kernel)
theorem w_se_Mm_meanBar : Cond.selects M_Mm_meanBar.1.cls M_Mm_meanBar.1 M_Mm_meanBar.1 ∈ z_gw := z_mem (i := 2051) (by decide +kernel) (by decide +kernel)
theorem d_Lw_law_2953 : decode code 2953 = .ok (.dstore 7, 2) := by decide +kernel
theorem d_Lw_law_2955 : decode code 2955 = .ok (.aload_n 2, 1) := by decide +kernel
theorem d_Lw_law_2956 : decode code 2956 = .ok (.invokevirtual 175, 3) := by decide +kernel
theorem d_Lw_law_2959 : decode code 2959 = .ok (.iload 6, 2) := by decide +kernel
theorem d_Lw_law_2961 : decode code 2961 = .ok (.if_icmp .eq 5, 3) := by decide +kernel
theorem d_Lw_law_2966 : decode code 2966 = .ok (.iload 6, 2) := by decide +kernel
theorem d_Lw_law_2968 : decode code 2968 = .ok (.ifCond .ne 35, 3) := by decide +kernel
theorem d_Lw_law_3003 : decode code 3003 = .ok (.goto 16, 3) := by decide +kernel
set_option maxHeartbeats 4000000 in
set_option maxRecDepth 100000 in
theorem LW_meanBar0 (g : zG) (a pa pa1 pa2 pa3 ta ta1 ta2 taz taz1 taz2 taz3 taz4 taz5 taz6 ta4 ta5 ta6 sa sa1 sa2 saz saz1 saz2 saz3 saz4 saz5 saz6 sa4 sa5 sa6 gs co co1 co2 co3 fu fub fubg fut1 fut2 fut3 la lab labg gy gyg du dug re wm ac m mp mf mh mn mt mz mc_ mq mgr ml mi mr mm mu mk mx o1 o2 : Nat) (hL : g.2.2 41 = 7) (w0 : zW) (n : Nat) : DV g M_Lw_law (lwP) w0 n 2941 [(5, .int 0), (4, .ref o2), (3, .ref o1), (2, .ref m), (1, .ref a), (0, .ref (g.2.2 40))] [] (lwCS g a pa pa1 pa2 pa3 ta ta1 ta2 taz taz1 taz2 taz3 taz4 taz5 taz6 ta4 ta5 ta6 sa sa1 sa2 saz saz1 saz2 saz3 saz4 saz5 saz6 sa4 sa5 sa6 gs co co1 co2 co3 fu fub fubg fut1 fut2 fut3 la lab labg gy gyg du dug re wm ac m mp mf mh mn mt mz mc_ mq mgr ml mi mr mm mu mk mx o1 o2) 100 1000 := by
  refine r_aload_n d_Lw_law_2941 rfl 4 rfl ?_
  refine r_aload d_Lw_law_2942 1 rfl ?_
  refine r_callSX (As := [.ref a, .ref o2]) (rest := []) (csC := [(a, .inr (11, [.ref pa, .ref ta, .ref sa, .ref gs, .ref co, .ref fu, .ref la, .ref gy, .ref du, .ref re, .ref wm, .ref ac])), (ac, .inr (13, [.int 0, .ref (g.2.2 4), .int 0])), (o2, .inl (4, 1, .inr (.inr (.inr (.inl (fun _ => 0))))))]) (is := [0, 51, 70]) ln_Lw_338 w_st_Lw_meanBar ok_Lw_law_Lw_meanBar d_Lw_law_2944 (C_Lw_meanBar0 g a pa ta sa gs co fu la gy du re wm ac 0 (g.2.2 4) o2 (fun _ => 0)) rfl rfl (Nat.le_of_ble_eq_true rfl) rfl (by decide) (by omega) (by omega) (fun E cs1 hx => ?_) (fun v cs1 hx => ?_)
  · exact absurd hx.1 (by simp)
  · obtain ⟨e1, rfl⟩ := hx
    cases e1
    refine ⟨rfl, ?_⟩
    refine r_st (st2 := [.int 1]) rfl ?_
    refine r_istore (lv' := [(6, .int 1), (5, .int 0), (4, .ref o2), (3, .ref o1), (2, .ref m), (1, .ref a), (0, .ref (g.2.2 40))]) d_Lw_law_2947 (by decide) rfl ?_
    refine r_aload_n d_Lw_law_2949 rfl 4 rfl ?_
    refine r_callV (As := []) (rest := []) (csC := [(m, .inr (12, [.int 0, .ref mp, .int 4, .ref mf, .ref mh, .ref mn, .ref mt, .ref mz, .ref mc_, .ref mq, .ref mgr, .int 80, .int 35, .int 30, .int 50, .int 0, .int 0, .ref ml, .ref mi, .ref mr, .int 0, .int 0, .int 0, .int (-1), .int 0, .ref mm, .ref mu, .ref mk, .ref mx, .long 0, .long 0])), (mk, .inr (13, [.int 0, .ref (g.2.2 4), .int 0]))]) (is := [52, 67]) (q0 := 52) rfl rfl ln_Lw_340 w_im_Mm_meanBar w_se_Mm_meanBar ok_Lw_law_Mm_meanBar d_Lw_law_2950 (C_Mm_meanBar0 g m mp mf mh mn mt mz mc_ mq mgr ml mi mr mm mu mk mx 0 4 80 35 30 50 0 0 0 0 0 (-1) 0 0 0 0 (g.2.2 4)) rfl rfl (Nat.le_of_ble_eq_true rfl) rfl (by decide) (by omega) (by omega) (fun E cs1 hx => ?_) (fun v cs1 hx => ?_)
    · exact absurd hx.1 (by simp)
    · obtain ⟨e1, rfl⟩ := hx
      cases e1
      refine ⟨rfl, ?_⟩
      refine r_st (st2 := [.double FP.dconst0]) rfl ?_
      refine r_dstore (lv' := [(7, .double FP.dconst0), (6, .int 1), (5, .int 0), (4, .ref o2), (3, .ref o1), (2, .ref m), (1, .ref a), (0, .ref (g.2.2 40))]) d_Lw_law_2953 (by decide) rfl ?_
      refine r_aload_n d_Lw_law_2955 rfl 5 rfl ?_
      refine r_callV (As := []) (rest := []) (csC := [(m, .inr (12, [.int 1, .ref mp, .int 4, .ref mf, .ref mh, .ref mn, .ref mt, .ref mz, .ref mc_, .ref mq, .ref mgr, .int 80, .int 35, .int 30, .int 50, .int 0, .int 0, .ref ml, .ref mi, .ref mr, .int 0, .int 0, .int 0, .int (-1), .int 0, .ref mm, .ref mu, .ref mk, .ref mx, .long 0, .long 0]))]) (is := [52]) (q0 := 52) rfl rfl ln_Lw_175 w_im_Mm_thrown w_se_Mm_thrown ok_Lw_law_Mm_thrown d_Lw_law_2956 (C_Mm_thrown g m mp mf mh mn mt mz mc_ mq mgr ml mi mr mm mu mk mx 1 4 80 35 30 50 0 0 0 0 0 (-1) 0 0 0) rfl rfl (Nat.le_of_ble_eq_true rfl) rfl (by decide) (by omega) (by omega) (fun E cs1 hx => ?_) (fun v cs1 hx => ?_)
      · exact absurd hx.1 (by simp)
      · obtain ⟨e1, rfl⟩ := hx
        cases e1
        refine ⟨rfl, ?_⟩
        refine r_st (st2 := [.int 1]) rfl ?_
        refine r_iload d_Lw_law_2959 1 rfl ?_
        refine r_icmp_eq (tgt := 2966) d_Lw_law_2961 (by decide) (fun c_2961 => ?_) (fun c_2961 => ?_)
        · refine r_iload d_Lw_law_2966 1 rfl ?_
          refine r_if_ne (tgt := 3003) d_Lw_law_2968 (by decide) (fun c_2968 => ?_) (fun c_2968 => ?_)
          · refine r_goto (tgt := 3019) d_Lw_law_3003 (by decide) ?_
            refine r_lv (lv' := [(5, .int 0), (0, .ref (g.2.2 40))]) [2, 7] rfl ?_
            exact LW_tail g _ hL _ _ w0 n
          · exact absurd c_2968 (by decide)
        · exact absurd c_2961 (by decide)
theorem d_Lw_law_3006 : decode code 3006 = .ok (.aload_n 1, 1) := by decide +kernel
theorem d_Lw_law_3007 : decode code 3007 = .ok (.invokevirtual 341, 3) := by decide +kernel
theorem ok_Lw_law_Ip_isSound : z_ok M_Lw_law M_Ip_isSound 0 := ⟨z_mem (i := 492) (by decide +kernel) (by decide +kernel), rfl, ⟨by decide +kernel, by decide +kernel, by decide +kernel⟩, ⟨by decide, by decide⟩, z_mem (i := 58) (by decide +kernel) (by decide +kernel), rfl⟩
theorem ln_Lw_341 : Cond.methodLink "IronpourLaw" 341 M_Ip_isSound.1 ∈ z_gw := z_mem (i := 489) (by decide +kernel) (by decide +kernel)
theorem w_im_Ip_isSound : Cond.instanceMethod M_Ip_isSound.1 ∈ z_gw := z_mem (i := 490) (by decide +kernel) (by decide +kernel)
theorem w_se_Ip_isSound : Cond.selects M_Ip_isSound.1.cls M_Ip_isSound.1 M_Ip_isSound.1 ∈ z_gw := z_mem (i := 491) (by decide +kernel) (by decide +kernel)
theorem d_Lw_law_3010 : decode code 3010 = .ok (.aload_n 2, 1) := by decide +kernel
theorem d_Lw_law_3011 : decode code 3011 = .ok (.invokevirtual 345, 3) := by decide +kernel
theorem ok_Lw_law_Mm_isSound : z_ok M_Lw_law M_Mm_isSound 0 := ⟨z_mem (i := 2056) (by decide +kernel) (by decide +kernel), rfl, ⟨by decide +kernel, by decide +kernel, by decide +kernel⟩, ⟨by decide, by decide⟩, z_mem (i := 71) (by decide +kernel) (by decide +kernel), rfl⟩
theorem ln_Lw_345 : Cond.methodLink "IronpourLaw" 345 M_Mm_isSound.1 ∈ z_gw := z_mem (i := 2053) (by decide +kernel) (by decide +kernel)
theorem w_im_Mm_isSound : Cond.instanceMethod M_Mm_isSound.1 ∈ z_gw := z_mem (i := 2054) (by decide +kernel) (by decide +kernel)
theorem w_se_Mm_isSound : Cond.selects M_Mm_isSound.1.cls M_Mm_isSound.1 M_Mm_isSound.1 ∈ z_gw := z_mem (i := 2055) (by decide +kernel) (by decide +kernel)
theorem d_Lw_law_3014 : decode code 3014 = .ok (.if_icmp .eq 5, 3) := by decide +kernel
set_option maxHeartbeats 4000000 in
set_option maxRecDepth 100000 in
theorem LW_isSound (g : zG) (a pa pa1 pa2 pa3 ta ta1 ta2 taz taz1 taz2 taz3 taz4 taz5 taz6 ta4 ta5 ta6 sa sa1 sa2 saz saz1 saz2 saz3 saz4 saz5 saz6 sa4 sa5 sa6 gs co co1 co2 co3 fu fub fubg fut1 fut2 fut3 la lab labg gy gyg du dug re wm ac m mp mf mh mn mt mz mc_ mq mgr ml mi mr mm mu mk mx o1 o2 : Nat) (hL : g.2.2 41 = 7) (w0 : zW) (n : Nat) : DV g M_Lw_law (lwP) w0 n 3006 [(5, .int 0), (4, .ref o2), (3, .ref o1), (2, .ref m), (1, .ref a), (0, .ref (g.2.2 40))] [] (lwCS g a pa pa1 pa2 pa3 ta ta1 ta2 taz taz1 taz2 taz3 taz4 taz5 taz6 ta4 ta5 ta6 sa sa1 sa2 saz saz1 saz2 saz3 saz4 saz5 saz6 sa4 sa5 sa6 gs co co1 co2 co3 fu fub fubg fut1 fut2 fut3 la lab labg gy gyg du dug re wm ac m mp mf mh mn mt mz mc_ mq mgr ml mi mr mm mu mk mx o1 o2) 100 1000 := by
  refine r_aload_n d_Lw_law_3006 rfl 4 rfl ?_
  refine r_callV (As := []) (rest := []) (csC := [(a, .inr (11, [.ref pa, .ref ta, .ref sa, .ref gs, .ref co, .ref fu, .ref la, .ref gy, .ref du, .ref re, .ref wm, .ref ac])), (la, .inr (5, [.ref lab, .int 0, .int 0, .int 0])), (lab, .inr (6, [.ref labg, .int 0])), (labg, .inl (3, 4, .inr (.inl (fun _ => 0)))), (gy, .inr (6, [.ref gyg, .int 0])), (gyg, .inl (3, 4, .inr (.inl (fun _ => 0)))), (du, .inr (6, [.ref dug, .int 0])), (dug, .inl (3, 4, .inr (.inl (fun _ => 0)))), (fu, .inr (3, [.ref fub, .ref fut1, .ref fut2, .ref fut3, .long 0])), (fub, .inr (6, [.ref fubg, .int 0])), (fubg, .inl (3, 4, .inr (.inl (fun _ => 0)))), (fut1, .inl (3, 4, .inr (.inl (fun _ => 0)))), (fut2, .inl (3, 4, .inr (.inl (fun _ => 0)))), (fut3, .inl (3, 4, .inr (.inl (fun _ => 0)))), (ac, .inr (13, [.int 0, .ref (g.2.2 4), .int 0])), (ta, .inr (10, [.ref ta1, .ref ta2, .ref taz, .ref ta4, .ref ta5, .ref ta6, .int zX0.1.2.2.1, .int zX0.1.2.2.2])), (ta1, .inl (1, 108, .inl zX0.1.1)), (ta2, .inl (0, 108, .inl zX0.1.2.1)), (taz, .inr (2, [.ref taz1, .ref taz2, .ref taz3, .ref taz4, .ref taz5, .ref taz6, .int zX0.2.1.1.1.2.2.2])), (taz1, .inl (0, 108, .inl zX0.2.1.1.1.1)), (taz2, .inl (0, 108, .inl zX0.2.1.1.2)), (taz3, .inl (0, 108, .inl zX0.2.1.1.1.2.1)), (taz4, .inl (0, 108, .inl zX0.2.1.1.1.2.2.1)), (taz5, .inl (0, 108, .inl zX0.2.1.2.1)), (taz6, .inl (0, 108, .inl zX0.2.1.2.2)), (ta4, .inl (2, 108, .inl zX0.2.2.1)), (ta5, .inl (2, 108, .inl zX0.2.2.2.1)), (ta6, .inl (0, 108, .inl (fun k => nI (zX0.2.2.2.2 k))))]) (is := [0, 42, 43, 44, 45, 46, 47, 48, 36, 37, 38, 39, 40, 41, 51, 5, 6, 7, 8, 9, 10, 11, 12, 13, 14, 15, 16, 17]) (q0 := 0) rfl rfl ln_Lw_341 w_im_Ip_isSound w_se_Ip_isSound ok_Lw_law_Ip_isSound d_Lw_law_3007 (C_Ip_isSound0 g a pa ta sa gs co fu la gy du re wm ac lab labg gyg dug fub fubg fut1 fut2 fut3 0 (g.2.2 4) ta1 ta2 taz taz1 taz2 taz3 taz4 taz5 taz6 ta4 ta5 ta6 zX0 (sIO sX0 (by decide)) (sAF sX0 (by decide))) rfl rfl (Nat.le_of_ble_eq_true rfl) rfl (by decide) (by omega) (by omega) (fun E cs1 hx => ?_) (fun v cs1 hx => ?_)
  · exact absurd hx.1 (by simp)
  · obtain ⟨e1, rfl⟩ := hx
    cases e1
    refine ⟨rfl, ?_⟩
    refine r_st (st2 := [.int 1]) rfl ?_
    refine r_aload_n d_Lw_law_3010 rfl 3 rfl ?_
    refine r_callV (As := []) (rest := [.int 1]) (csC := [(m, .inr (12, [.int 0, .ref mp, .int 4, .ref mf, .ref mh, .ref mn, .ref mt, .ref mz, .ref mc_, .ref mq, .ref mgr, .int 80, .int 35, .int 30, .int 50, .int 0, .int 0, .ref ml, .ref mi, .ref mr, .int 0, .int 0, .int 0, .int (-1), .int 0, .ref mm, .ref mu, .ref mk, .ref mx, .long 0, .long 0]))]) (is := [52]) (q0 := 52) rfl rfl ln_Lw_345 w_im_Mm_isSound w_se_Mm_isSound ok_Lw_law_Mm_isSound d_Lw_law_3011 (C_Mm_isSound g m mp mf mh mn mt mz mc_ mq mgr ml mi mr mm mu mk mx 0 4 80 35 30 50 0 0 0 0 0 (-1) 0 0 0) rfl rfl (Nat.le_of_ble_eq_true rfl) rfl (by decide) (by omega) (by omega) (fun E cs1 hx => ?_) (fun v cs1 hx => ?_)
    · exact absurd hx.1 (by simp)
    · obtain ⟨e1, rfl⟩ := hx
      cases e1
      refine ⟨rfl, ?_⟩
      refine r_st (st2 := [.int 1, .int 1]) rfl ?_
      refine r_icmp_eq (tgt := 3019) d_Lw_law_3014 (by decide) (fun c_3014 => ?_) (fun c_3014 => ?_)
      · refine r_lv (lv' := [(5, .int 0), (0, .ref (g.2.2 40))]) [0, 5] rfl ?_
        exact LW_tail g _ hL _ _ w0 n
      · exact absurd c_3014 (by decide)
