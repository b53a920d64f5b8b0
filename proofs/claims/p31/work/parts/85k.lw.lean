theorem d_Lw_law_28 : decode code 28 = .ok (.iload 5, 2) := zo_21 (d := 5) (zd_b zq_code_0 28 rfl rfl rfl) (zd_b zq_code_0 29 rfl rfl rfl)
theorem d_Lw_law_30 : decode code 30 = .ok (.aload_n 0, 1) := zo_42 (zd_b zq_code_0 30 rfl rfl rfl)
theorem d_Lw_law_31 : decode code 31 = .ok (.arraylength, 1) := zo_190 (zd_b zq_code_0 31 rfl rfl rfl)
theorem d_Lw_law_32 : decode code 32 = .ok (.bipush 7, 2) := zo_16 (d := 7) (zd_b zq_code_1 0 rfl rfl rfl) (zd_b zq_code_1 1 rfl rfl rfl) (by decide +kernel)
theorem d_Lw_law_34 : decode code 34 = .ok (.isub, 1) := zo_100 (zd_b zq_code_1 2 rfl rfl rfl)
theorem d_Lw_law_35 : decode code 35 = .ok (.if_icmp .gt 1779, 3) := zo_163 (d := 6) (e := 243) (zd_b zq_code_1 3 rfl rfl rfl) (zd_b zq_code_1 4 rfl rfl rfl) (zd_b zq_code_1 5 rfl rfl rfl) (by decide +kernel)
theorem d_Lw_law_1814 : decode code 1814 = .ok (.iconst 1, 1) := zo_4 (zd_b zq_code_56 22 rfl rfl rfl)
theorem d_Lw_law_1815 : decode code 1815 = .ok (.ireturn, 1) := zo_172 (zd_b zq_code_56 23 rfl rfl rfl)
theorem d_Lw_law_38 : decode code 38 = .ok (.aload_n 0, 1) := zo_42 (zd_b zq_code_1 6 rfl rfl rfl)
theorem d_Lw_law_39 : decode code 39 = .ok (.iload 5, 2) := zo_21 (d := 5) (zd_b zq_code_1 7 rfl rfl rfl) (zd_b zq_code_1 8 rfl rfl rfl)
theorem d_Lw_law_41 : decode code 41 = .ok (.iaload, 1) := zo_46 (zd_b zq_code_1 9 rfl rfl rfl)
theorem d_Lw_law_42 : decode code 42 = .ok (.bipush 63, 2) := zo_16 (d := 63) (zd_b zq_code_1 10 rfl rfl rfl) (zd_b zq_code_1 11 rfl rfl rfl) (by decide +kernel)
theorem d_Lw_law_44 : decode code 44 = .ok (.iand, 1) := zo_126 (zd_b zq_code_1 12 rfl rfl rfl)
set_option maxHeartbeats 4000000 in
set_option maxRecDepth 100000 in
theorem LW_head {g : zG} {ad : Nat → Nat} {t : zTT} {u : zNN} {w : zW} (hI : IVm g ad t u w) {j kc ks : Nat} (hj : 7 * j ≤ g.2.2 41) (hL : g.2.2 41 ≤ 3584) (hk : 7 * j + 7 ≤ g.2.2 41 → DW g M_Lw_law lwQ w 45 [(5, .int (nI (7 * j))), (4, .ref (ad 70)), (3, .ref (ad 69)), (2, .ref (ad 52)), (1, .ref (ad 0)), (0, .ref (g.2.2 40))] [.int (zs g (7 * j) &&& 63)] kc ks) : DW g M_Lw_law lwQ w 28 [(5, .int (nI (7 * j))), (4, .ref (ad 70)), (3, .ref (ad 69)), (2, .ref (ad 52)), (1, .ref (ad 0)), (0, .ref (g.2.2 40))] [] kc ks := by
  refine y_base (cs := []) (z_I.nil w) ?_
  refine y_iload d_Lw_law_28 0 rfl ?_
  refine y_aload_n d_Lw_law_30 rfl 5 rfl ?_
  refine y_slen (v := nI (g.2.2 41)) d_Lw_law_31 rfl ?_
  refine y_bipush d_Lw_law_32 (v := 7) (by decide) ?_
  refine y_isub d_Lw_law_34 (v := nI (g.2.2 41) - 7) rfl ?_
  refine y_icmp_gt (tgt := 1814) d_Lw_law_35 (by decide) (fun c_35 => ?_) (fun c_35 => ?_)
  · refine y_iconst d_Lw_law_1814 (v := 1) (by decide) ?_
    refine y_iret d_Lw_law_1815 rfl rfl ?_
    exact fun w1 h1 => rfl
  · have hJ : 7 * j + 7 ≤ g.2.2 41 := Classical.byContradiction (fun q => c_35 (z_shl q (by omega) (by omega)))
    refine y_aload_n d_Lw_law_38 rfl 5 rfl ?_
    refine y_iload d_Lw_law_39 0 rfl ?_
    refine y_sld (v := zs g (7 * j)) d_Lw_law_41 (vp_in_nI (by omega) (by omega)) (by rw [nI_clamp (by omega)]; rfl) ?_
    refine y_bipush d_Lw_law_42 (v := 63) (by decide) ?_
    refine y_iand d_Lw_law_44 (v := zs g (7 * j) &&& 63) rfl ?_
    refine y_end (fun wC hC => ?_)
    obtain rfl := z_I.same (z_I.nil _) hC
    exact hk hJ
theorem LW_loop {g : zG} {ad : Nat → Nat} (hL : g.2.2 41 ≤ 3584) : ∀ (r j : Nat), g.2.2 41 < 7 * j + 7 * r + 7 → 7 * j ≤ g.2.2 41 → ∀ (t : zTT) (u : zNN) (w : zW), IVm g ad t u w → REL t u.1 (48 * j) → DW g M_Lw_law lwQ w 28 [(5, .int (nI (7 * j))), (4, .ref (ad 70)), (3, .ref (ad 69)), (2, .ref (ad 52)), (1, .ref (ad 0)), (0, .ref (g.2.2 40))] [] (100 * r) (1000 * r) := by
  intro r
  induction r with
  | zero => exact fun j h1 h2 t u w hI hR => LW_head hI h2 hL (fun hJ => absurd hJ (by omega))
  | succ r ih => exact fun j h1 h2 t u w hI hR => LW_head hI h2 hL (fun hJ => LW_sw hI hR hJ hL (ih (j + 1) (by omega) (by omega)))
theorem d_Lw_law_0 : decode code 0 = .ok (.new 8, 3) := zo_187 (d := 0) (e := 8) (zd_b zq_code_0 0 rfl rfl rfl) (zd_b zq_code_0 1 rfl rfl rfl) (zd_b zq_code_0 2 rfl rfl rfl)
theorem nc_Lw_8 : z_nc "IronpourLaw" 8 11 12 [.null, .null, .null, .null, .null, .null, .null, .null, .null, .null, .null, .null] := ⟨R_Ip, F_Ip, t_Ip, rfl, u_Ip, t_Ip_ok, z_mj1 (i := 38) rfl (by decide +kernel), z_mj1 (i := 39) rfl (by decide +kernel), z_mj1 (i := 1) rfl (by decide +kernel), by decide +kernel⟩
theorem d_Lw_law_3 : decode code 3 = .ok (.dup, 1) := zo_89 (zd_b zq_code_0 3 rfl rfl rfl)
theorem d_Lw_law_4 : decode code 4 = .ok (.invokespecial 165, 3) := zo_183 (d := 0) (e := 165) (zd_b zq_code_0 4 rfl rfl rfl) (zd_b zq_code_0 5 rfl rfl rfl) (zd_b zq_code_0 6 rfl rfl rfl)
theorem ok_Lw_law_Ip_init : z_ok M_Lw_law M_Ip_init 0 := ⟨z_mj1 (i := 42) rfl (by decide +kernel), rfl, ⟨by decide +kernel, by decide +kernel, by decide +kernel⟩, ⟨by decide, by decide⟩, z_mj1 (i := 1) rfl (by decide +kernel), rfl⟩
theorem ln_Lw_165 : Cond.methodLink "IronpourLaw" 165 M_Ip_init.1 ∈ z_gw := z_mj1 (i := 40) rfl (by decide +kernel)
theorem w_im_Ip_init : Cond.instanceMethod M_Ip_init.1 ∈ z_gw := z_mj1 (i := 41) rfl (by decide +kernel)
theorem d_Lw_law_7 : decode code 7 = .ok (.astore_n 1, 1) := zo_76 (zd_b zq_code_0 7 rfl rfl rfl)
theorem d_Lw_law_8 : decode code 8 = .ok (.new 166, 3) := zo_187 (d := 0) (e := 166) (zd_b zq_code_0 8 rfl rfl rfl) (zd_b zq_code_0 9 rfl rfl rfl) (zd_b zq_code_0 10 rfl rfl rfl)
theorem nc_Lw_166 : z_nc "IronpourLaw" 166 12 31 [.int 0, .null, .int 0, .null, .null, .null, .null, .null, .null, .null, .null, .int 0, .int 0, .int 0, .int 0, .int 0, .int 0, .null, .null, .null, .int 0, .int 0, .int 0, .int 0, .int 0, .null, .null, .null, .null, .long 0, .long 0] := ⟨R_Mm, F_Mm, t_Mm, rfl, u_Mm, t_Mm_ok, z_mj7 (i := 75) rfl (by decide +kernel), z_mj7 (i := 76) rfl (by decide +kernel), z_mj1 (i := 14) rfl (by decide +kernel), by decide +kernel⟩
theorem d_Lw_law_11 : decode code 11 = .ok (.dup, 1) := zo_89 (zd_b zq_code_0 11 rfl rfl rfl)
theorem d_Lw_law_12 : decode code 12 = .ok (.invokespecial 168, 3) := zo_183 (d := 0) (e := 168) (zd_b zq_code_0 12 rfl rfl rfl) (zd_b zq_code_0 13 rfl rfl rfl) (zd_b zq_code_0 14 rfl rfl rfl)
theorem ok_Lw_law_Mm_init : z_ok M_Lw_law M_Mm_init 0 := ⟨z_mj7 (i := 79) rfl (by decide +kernel), rfl, ⟨by decide +kernel, by decide +kernel, by decide +kernel⟩, ⟨by decide, by decide⟩, z_mj1 (i := 14) rfl (by decide +kernel), rfl⟩
theorem ln_Lw_168 : Cond.methodLink "IronpourLaw" 168 M_Mm_init.1 ∈ z_gw := z_mj7 (i := 77) rfl (by decide +kernel)
theorem w_im_Mm_init : Cond.instanceMethod M_Mm_init.1 ∈ z_gw := z_mj7 (i := 78) rfl (by decide +kernel)
theorem d_Lw_law_15 : decode code 15 = .ok (.astore_n 2, 1) := zo_77 (zd_b zq_code_0 15 rfl rfl rfl)
theorem d_Lw_law_16 : decode code 16 = .ok (.iconst 1, 1) := zo_4 (zd_b zq_code_0 16 rfl rfl rfl)
theorem d_Lw_law_17 : decode code 17 = .ok (.newarray .long, 2) := by decide +kernel
theorem d_Lw_law_19 : decode code 19 = .ok (.astore_n 3, 1) := zo_78 (zd_b zq_code_0 19 rfl rfl rfl)
theorem d_Lw_law_20 : decode code 20 = .ok (.iconst 1, 1) := zo_4 (zd_b zq_code_0 20 rfl rfl rfl)
theorem d_Lw_law_21 : decode code 21 = .ok (.newarray .double, 2) := by decide +kernel
theorem ac_double : Cond.arrayClass .double ∈ z_gw := z_mj9 (i := 80) rfl (by decide +kernel)
theorem d_Lw_law_23 : decode code 23 = .ok (.astore 4, 2) := zo_58 (d := 4) (zd_b zq_code_0 23 rfl rfl rfl) (zd_b zq_code_0 24 rfl rfl rfl)
theorem d_Lw_law_25 : decode code 25 = .ok (.iconst 0, 1) := zo_3 (zd_b zq_code_0 25 rfl rfl rfl)
theorem d_Lw_law_26 : decode code 26 = .ok (.istore 5, 2) := zo_54 (d := 5) (zd_b zq_code_0 26 rfl rfl rfl) (zd_b zq_code_0 27 rfl rfl rfl)
