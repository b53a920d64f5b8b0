theorem d_Lw_law_1214 : decode code 1214 = .ok (.aload_n 3, 1) := by decide +kernel
theorem d_Lw_law_1215 : decode code 1215 = .ok (.iconst 0, 1) := by decide +kernel
theorem d_Lw_law_1216 : decode code 1216 = .ok (.laload, 1) := by decide +kernel
theorem d_Lw_law_1217 : decode code 1217 = .ok (.iload 7, 2) := by decide +kernel
theorem d_Lw_law_1219 : decode code 1219 = .ok (.i2l, 1) := by decide +kernel
theorem d_Lw_law_1220 : decode code 1220 = .ok (.lcmp, 1) := by decide +kernel
theorem d_Lw_law_1221 : decode code 1221 = .ok (.ifCond .eq 5, 3) := by decide +kernel
set_option maxHeartbeats 4000000 in
set_option maxRecDepth 100000 in
theorem LW_millN (g : zG) (a pa pa1 pa2 pa3 ta ta1 ta2 taz taz1 taz2 taz3 taz4 taz5 taz6 ta4 ta5 ta6 sa sa1 sa2 saz saz1 saz2 saz3 saz4 saz5 saz6 sa4 sa5 sa6 gs co co1 co2 co3 fu fub fubg fut1 fut2 fut3 la lab labg gy gyg du dug re wm ac m mp mf mh mn mt mz mc_ mq mgr ml mi mr mm mu mk mx o1 o2 : Nat) (hL : g.2.2 41 = 7) (a1 a2 a3 : Nat) (ha1 : a1 ≤ 20) (ha2 : a2 ≤ 20) (ha3 : a3 ≤ 20) (e1 : zs g 1 = nI a1) (e2 : zs g 2 = nI a2) (e3 : zs g 3 = nI a3) (hw : ((0 ≤ nI a1 ∧ nI a1 ≤ 20) ∧ (0 ≤ nI a2 ∧ nI a2 ≤ 20) ∧ (0 ≤ nI a3 ∧ nI a3 ≤ 20) ∧ (0 ≤ (zs g 4) ∧ (zs g 4) ≤ 50))) (w0 : zW) (n : Nat) : DV g M_Lw_law (lwP) w0 n 1137 [(5, .int 0), (4, .ref o2), (3, .ref o1), (2, .ref m), (1, .ref a), (0, .ref (g.2.2 40))] [] (lwCS g a pa pa1 pa2 pa3 ta ta1 ta2 taz taz1 taz2 taz3 taz4 taz5 taz6 ta4 ta5 ta6 sa sa1 sa2 saz saz1 saz2 saz3 saz4 saz5 saz6 sa4 sa5 sa6 gs co co1 co2 co3 fu fub fubg fut1 fut2 fut3 la lab labg gy gyg du dug re wm ac m mp mf mh mn mt mz mc_ mq mgr ml mi mr mm mu mk mx o1 o2) 100 1000 := by
  refine r_aload_n d_Lw_law_1137 rfl 4 rfl ?_
  refine r_aload_n d_Lw_law_1138 rfl 5 rfl ?_
  refine r_iload d_Lw_law_1139 0 rfl ?_
  refine r_iconst d_Lw_law_1141 (v := 1) (by decide) ?_
  refine r_iadd d_Lw_law_1142 (v := 1) rfl ?_
  refine r_sld (v := nI a1) d_Lw_law_1143 (by rw [hL]; exact fun q => q.elim (by decide) (by decide)) e1 ?_
  refine r_aload_n d_Lw_law_1144 rfl 5 rfl ?_
  refine r_iload d_Lw_law_1145 0 rfl ?_
  refine r_iconst d_Lw_law_1147 (v := 2) (by decide) ?_
  refine r_iadd d_Lw_law_1148 (v := 2) rfl ?_
  refine r_sld (v := nI a2) d_Lw_law_1149 (by rw [hL]; exact fun q => q.elim (by decide) (by decide)) e2 ?_
  refine r_aload_n d_Lw_law_1150 rfl 5 rfl ?_
  refine r_iload d_Lw_law_1151 0 rfl ?_
  refine r_iconst d_Lw_law_1153 (v := 3) (by decide) ?_
  refine r_iadd d_Lw_law_1154 (v := 3) rfl ?_
  refine r_sld (v := nI a3) d_Lw_law_1155 (by rw [hL]; exact fun q => q.elim (by decide) (by decide)) e3 ?_
  refine r_aload_n d_Lw_law_1156 rfl 5 rfl ?_
  refine r_iload d_Lw_law_1157 0 rfl ?_
  refine r_iconst d_Lw_law_1159 (v := 4) (by decide) ?_
  refine r_iadd d_Lw_law_1160 (v := 4) rfl ?_
  refine r_sld (v := zs g 4) d_Lw_law_1161 (by rw [hL]; exact fun q => q.elim (by decide) (by decide)) rfl ?_
  refine r_aload_n d_Lw_law_1162 rfl 2 rfl ?_
  refine r_callSX (As := [.ref a, .int (nI a1), .int (nI a2), .int (nI a3), .int (zs g 4), .ref o1]) (rest := []) (csC := [(a, .inr (11, [.ref pa, .ref ta, .ref sa, .ref gs, .ref co, .ref fu, .ref la, .ref gy, .ref du, .ref re, .ref wm, .ref ac])), (gs, .inr (4, [.int 80, .int 35, .int 30, .int 50, .int 0])), (o1, .inl (3, 1, .inr (.inl (fun _ => 0))))]) (is := [0, 31, 69]) ln_Lw_232 w_st_Lw_mill ok_Lw_law_Lw_mill d_Lw_law_1163 (C_Lw_millN g a pa ta sa gs co fu la gy du re wm ac 80 35 30 50 0 (nI a1) (nI a2) (nI a3) (zs g 4) hw o1 (fun _ => 0)) rfl rfl (Nat.le_of_ble_eq_true rfl) rfl (by decide) (by omega) (by omega) (fun E cs1 hx => ?_) (fun v cs1 hx => ?_)
  · exact absurd hx.1 (by simp)
  · obtain ⟨e1, rfl⟩ := hx
    cases e1
    refine ⟨rfl, ?_⟩
    refine r_st (st2 := [.int 0]) rfl ?_
    refine r_istore (lv' := [(6, .int 0), (5, .int 0), (4, .ref o2), (3, .ref o1), (2, .ref m), (1, .ref a), (0, .ref (g.2.2 40))]) d_Lw_law_1166 (by decide) rfl ?_
    refine r_aload_n d_Lw_law_1168 rfl 4 rfl ?_
    refine r_aload_n d_Lw_law_1169 rfl 6 rfl ?_
    refine r_iload d_Lw_law_1170 1 rfl ?_
    refine r_iconst d_Lw_law_1172 (v := 1) (by decide) ?_
    refine r_iadd d_Lw_law_1173 (v := 1) rfl ?_
    refine r_sld (v := nI a1) d_Lw_law_1174 (by rw [hL]; exact fun q => q.elim (by decide) (by decide)) e1 ?_
    refine r_aload_n d_Lw_law_1175 rfl 6 rfl ?_
    refine r_iload d_Lw_law_1176 1 rfl ?_
    refine r_iconst d_Lw_law_1178 (v := 2) (by decide) ?_
    refine r_iadd d_Lw_law_1179 (v := 2) rfl ?_
    refine r_sld (v := nI a2) d_Lw_law_1180 (by rw [hL]; exact fun q => q.elim (by decide) (by decide)) e2 ?_
    refine r_aload_n d_Lw_law_1181 rfl 6 rfl ?_
    refine r_iload d_Lw_law_1182 1 rfl ?_
    refine r_iconst d_Lw_law_1184 (v := 3) (by decide) ?_
    refine r_iadd d_Lw_law_1185 (v := 3) rfl ?_
    refine r_sld (v := nI a3) d_Lw_law_1186 (by rw [hL]; exact fun q => q.elim (by decide) (by decide)) e3 ?_
    refine r_aload_n d_Lw_law_1187 rfl 6 rfl ?_
    refine r_iload d_Lw_law_1188 1 rfl ?_
    refine r_iconst d_Lw_law_1190 (v := 4) (by decide) ?_
    refine r_iadd d_Lw_law_1191 (v := 4) rfl ?_
    refine r_sld (v := zs g 4) d_Lw_law_1192 (by rw [hL]; exact fun q => q.elim (by decide) (by decide)) rfl ?_
    refine r_callV (As := [.int (nI a1), .int (nI a2), .int (nI a3), .int (zs g 4)]) (rest := []) (csC := [(m, .inr (12, [.int 0, .ref mp, .int 4, .ref mf, .ref mh, .ref mn, .ref mt, .ref mz, .ref mc_, .ref mq, .ref mgr, .int 80, .int 35, .int 30, .int 50, .int 0, .int 0, .ref ml, .ref mi, .ref mr, .int 0, .int 0, .int 0, .int (-1), .int 0, .ref mm, .ref mu, .ref mk, .ref mx, .long 0, .long 0]))]) (is := [52]) (q0 := 52) rfl rfl ln_Lw_234 w_im_Mm_mill w_se_Mm_mill ok_Lw_law_Mm_mill d_Lw_law_1193 (C_Mm_millN g m mp mf mh mn mt mz mc_ mq mgr ml mi mr mm mu mk mx 0 4 80 35 30 50 0 0 0 0 0 (-1) 0 0 0 (nI a1) (nI a2) (nI a3) (zs g 4) hw) rfl rfl (Nat.le_of_ble_eq_true rfl) rfl (by decide) (by omega) (by omega) (fun E cs1 hx => ?_) (fun v cs1 hx => ?_)
    · exact absurd hx.1 (by simp)
    · obtain ⟨e1, rfl⟩ := hx
      cases e1
      refine ⟨rfl, ?_⟩
      refine r_st (st2 := [.int (S_Mm_strength m mp mf mh mn mt mz mc_ mq mgr ml mi mr mm mu mk mx 0 4 (S_Mm_most (80 + (nI a1))) (S_Mm_most (35 + (nI a2))) (S_Mm_most (30 + (nI a3))) (50 - ((50 * (zs g 4)) / 100)) (0 - ((0 * (zs g 4)) / 100)) 0 0 0 0 (-1) 0 0 0)]) rfl ?_
      refine r_istore (lv' := [(7, .int (S_Mm_strength m mp mf mh mn mt mz mc_ mq mgr ml mi mr mm mu mk mx 0 4 (S_Mm_most (80 + (nI a1))) (S_Mm_most (35 + (nI a2))) (S_Mm_most (30 + (nI a3))) (50 - ((50 * (zs g 4)) / 100)) (0 - ((0 * (zs g 4)) / 100)) 0 0 0 0 (-1) 0 0 0)), (6, .int 0), (5, .int 0), (4, .ref o2), (3, .ref o1), (2, .ref m), (1, .ref a), (0, .ref (g.2.2 40))]) d_Lw_law_1196 (by decide) rfl ?_
      refine r_aload_n d_Lw_law_1198 rfl 5 rfl ?_
      refine r_callV (As := []) (rest := []) (csC := [(m, .inr (12, [.int 0, .ref mp, .int 4, .ref mf, .ref mh, .ref mn, .ref mt, .ref mz, .ref mc_, .ref mq, .ref mgr, .int (S_Mm_most (80 + (nI a1))), .int (S_Mm_most (35 + (nI a2))), .int (S_Mm_most (30 + (nI a3))), .int (50 - ((50 * (zs g 4)) / 100)), .int (0 - ((0 * (zs g 4)) / 100)), .int 0, .ref ml, .ref mi, .ref mr, .int 0, .int 0, .int 0, .int (-1), .int 0, .ref mm, .ref mu, .ref mk, .ref mx, .long 0, .long 0]))]) (is := [52]) (q0 := 52) rfl rfl ln_Lw_175 w_im_Mm_thrown w_se_Mm_thrown ok_Lw_law_Mm_thrown d_Lw_law_1199 (C_Mm_thrown g m mp mf mh mn mt mz mc_ mq mgr ml mi mr mm mu mk mx 0 4 (S_Mm_most (80 + (nI a1))) (S_Mm_most (35 + (nI a2))) (S_Mm_most (30 + (nI a3))) (50 - ((50 * (zs g 4)) / 100)) (0 - ((0 * (zs g 4)) / 100)) 0 0 0 0 (-1) 0 0 0) rfl rfl (Nat.le_of_ble_eq_true rfl) rfl (by decide) (by omega) (by omega) (fun E cs1 hx => ?_) (fun v cs1 hx => ?_)
      · exact absurd hx.1 (by simp)
      · obtain ⟨e1, rfl⟩ := hx
        cases e1
        refine ⟨rfl, ?_⟩
        refine r_st (st2 := [.int 0]) rfl ?_
        refine r_iload d_Lw_law_1202 1 rfl ?_
        refine r_icmp_eq (tgt := 1209) d_Lw_law_1204 (by decide) (fun c_1204 => ?_) (fun c_1204 => ?_)
        · refine r_iload d_Lw_law_1209 1 rfl ?_
          refine r_if_ne (tgt := 1226) d_Lw_law_1211 (by decide) (fun c_1211 => ?_) (fun c_1211 => ?_)
          · exact absurd c_1211 (by decide)
          · refine r_aload_n d_Lw_law_1214 rfl 4 rfl ?_
            refine r_iconst d_Lw_law_1215 (v := 0) (by decide) ?_
            refine r_lald d_Lw_law_1216 (q0 := 69) rfl (fun q => q.elim (by decide) (by decide)) (v := (vp_updL (fun _ => 0) 0 ((S_GS_strength gs (if 80 + (nI a1) < 300 then 80 + (nI a1) else 300) (if 35 + (nI a2) < 300 then 35 + (nI a2) else 300) (if 30 + (nI a3) < 300 then 30 + (nI a3) else 300) (50 - ((50 * (zs g 4)) / 100)) (0 - ((0 * (zs g 4)) / 100)))).toInt64) 0) rfl ?_
            refine r_iload d_Lw_law_1217 0 rfl ?_
            refine r_i2l d_Lw_law_1219 (v := (S_Mm_strength m mp mf mh mn mt mz mc_ mq mgr ml mi mr mm mu mk mx 0 4 (S_Mm_most (80 + (nI a1))) (S_Mm_most (35 + (nI a2))) (S_Mm_most (30 + (nI a3))) (50 - ((50 * (zs g 4)) / 100)) (0 - ((0 * (zs g 4)) / 100)) 0 0 0 0 (-1) 0 0 0).toInt64) rfl ?_
            refine r_lcmp d_Lw_law_1220 (v := 0) (zl_cmp (by rw [ms_80 a1 ha1, ms_35 a2 ha2, ms_30 a3 ha3]; rfl)) ?_
            refine r_if_eq (tgt := 1226) d_Lw_law_1221 (by decide) (fun c_1221 => ?_) (fun c_1221 => ?_)
            · refine r_goto (tgt := 3019) d_Lw_law_1226 (by decide) ?_
              refine r_lv (lv' := [(5, .int 0), (0, .ref (g.2.2 40))]) [2, 7] rfl ?_
              exact LW_tail g _ hL _ _ w0 n
            · exact absurd c_1221 (by decide)
        · exact absurd c_1204 (by decide)
theorem d_Lw_law_1229 : decode code 1229 = .ok (.aload_n 1, 1) := by decide +kernel
theorem d_Lw_law_1230 : decode code 1230 = .ok (.aload_n 0, 1) := by decide +kernel
theorem d_Lw_law_1231 : decode code 1231 = .ok (.iload 5, 2) := by decide +kernel
theorem d_Lw_law_1233 : decode code 1233 = .ok (.iconst 1, 1) := by decide +kernel
theorem d_Lw_law_1234 : decode code 1234 = .ok (.iadd, 1) := by decide +kernel
theorem d_Lw_law_1235 : decode code 1235 = .ok (.iaload, 1) := by decide +kernel
theorem d_Lw_law_1236 : decode code 1236 = .ok (.i2c, 1) := by decide +kernel
theorem d_Lw_law_1237 : decode code 1237 = .ok (.aload_n 3, 1) := by decide +kernel
theorem d_Lw_law_1238 : decode code 1238 = .ok (.invokestatic 235, 3) := by decide +kernel
theorem ok_Lw_law_Lw_sand : z_okX M_Lw_law M_Lw_sand 3 := ⟨z_mem (i := 968) (by decide +kernel) (by decide +kernel), by decide, ⟨by decide +kernel, by decide +kernel, by decide +kernel⟩, ⟨by decide, by decide⟩, z_mem (i := 57) (by decide +kernel) (by decide +kernel), rfl⟩
theorem ln_Lw_235 : Cond.methodLink "IronpourLaw" 235 M_Lw_sand.1 ∈ z_gw := z_mem (i := 966) (by decide +kernel) (by decide +kernel)
theorem w_st_Lw_sand : Cond.static M_Lw_sand.1 ∈ z_gw := z_mem (i := 967) (by decide +kernel) (by decide +kernel)
theorem d_Lw_law_1241 : decode code 1241 = .ok (.istore 6, 2) := by decide +kernel
theorem d_Lw_law_1243 : decode code 1243 = .ok (.aload_n 2, 1) := by decide +kernel
theorem d_Lw_law_1244 : decode code 1244 = .ok (.aload_n 0, 1) := by decide +kernel
theorem d_Lw_law_1245 : decode code 1245 = .ok (.iload 5, 2) := by decide +kernel
theorem d_Lw_law_1247 : decode code 1247 = .ok (.iconst 1, 1) := by decide +kernel
theorem d_Lw_law_1248 : decode code 1248 = .ok (.iadd, 1) := by decide +kernel
theorem d_Lw_law_1249 : decode code 1249 = .ok (.iaload, 1) := by decide +kernel
theorem d_Lw_law_1250 : decode code 1250 = .ok (.i2c, 1) := by decide +kernel
theorem d_Lw_law_1251 : decode code 1251 = .ok (.invokevirtual 238, 3) := by decide +kernel
theorem ok_Lw_law_Mm_sand : z_ok M_Lw_law M_Mm_sand 1 := ⟨z_mem (i := 1851) (by decide +kernel) (by decide +kernel), rfl, ⟨by decide +kernel, by decide +kernel, by decide +kernel⟩, ⟨by decide, by decide⟩, z_mem (i := 71) (by decide +kernel) (by decide +kernel), rfl⟩
theorem ln_Lw_238 : Cond.methodLink "IronpourLaw" 238 M_Mm_sand.1 ∈ z_gw := z_mem (i := 1848) (by decide +kernel) (by decide +kernel)
theorem w_im_Mm_sand : Cond.instanceMethod M_Mm_sand.1 ∈ z_gw := z_mem (i := 1849) (by decide +kernel) (by decide +kernel)
theorem w_se_Mm_sand : Cond.selects M_Mm_sand.1.cls M_Mm_sand.1 M_Mm_sand.1 ∈ z_gw := z_mem (i := 1850) (by decide +kernel) (by decide +kernel)
theorem d_Lw_law_1254 : decode code 1254 = .ok (.istore 7, 2) := by decide +kernel
theorem d_Lw_law_1256 : decode code 1256 = .ok (.aload_n 2, 1) := by decide +kernel
theorem d_Lw_law_1257 : decode code 1257 = .ok (.invokevirtual 175, 3) := by decide +kernel
theorem d_Lw_law_1260 : decode code 1260 = .ok (.iload 6, 2) := by decide +kernel
theorem d_Lw_law_1262 : decode code 1262 = .ok (.if_icmp .eq 5, 3) := by decide +kernel
theorem d_Lw_law_1267 : decode code 1267 = .ok (.iload 6, 2) := by decide +kernel
theorem d_Lw_law_1269 : decode code 1269 = .ok (.ifCond .ne 15, 3) := by decide +kernel
theorem d_Lw_law_1284 : decode code 1284 = .ok (.goto 1735, 3) := by decide +kernel
set_option maxHeartbeats 4000000 in
set_option maxRecDepth 100000 in
theorem LW_sandE (g : zG) (a pa pa1 pa2 pa3 ta ta1 ta2 taz taz1 taz2 taz3 taz4 taz5 taz6 ta4 ta5 ta6 sa sa1 sa2 saz saz1 saz2 saz3 saz4 saz5 saz6 sa4 sa5 sa6 gs co co1 co2 co3 fu fub fubg fut1 fut2 fut3 la lab labg gy gyg du dug re wm ac m mp mf mh mn mt mz mc_ mq mgr ml mi mr mm mu mk mx o1 o2 : Nat) (hL : g.2.2 41 = 7) (hn : ¬ ((zc g 1) = 99 ∨ (zc g 1) = 119 ∨ (zc g 1) = 107 ∨ (zc g 1) = 102 ∨ (zc g 1) = 98 ∨ (zc g 1) = 115 ∨ (zc g 1) = 100)) (hw : z_ix 5 (zc g 1) < 0) (w0 : zW) (n : Nat) : DV g M_Lw_law (lwP) w0 n 1229 [(5, .int 0), (4, .ref o2), (3, .ref o1), (2, .ref m), (1, .ref a), (0, .ref (g.2.2 40))] [] (lwCS g a pa pa1 pa2 pa3 ta ta1 ta2 taz taz1 taz2 taz3 taz4 taz5 taz6 ta4 ta5 ta6 sa sa1 sa2 saz saz1 saz2 saz3 saz4 saz5 saz6 sa4 sa5 sa6 gs co co1 co2 co3 fu fub fubg fut1 fut2 fut3 la lab labg gy gyg du dug re wm ac m mp mf mh mn mt mz mc_ mq mgr ml mi mr mm mu mk mx o1 o2) 100 1000 := by
  refine r_aload_n d_Lw_law_1229 rfl 4 rfl ?_
  refine r_aload_n d_Lw_law_1230 rfl 5 rfl ?_
  refine r_iload d_Lw_law_1231 0 rfl ?_
  refine r_iconst d_Lw_law_1233 (v := 1) (by decide) ?_
  refine r_iadd d_Lw_law_1234 (v := 1) rfl ?_
  refine r_sld (v := zs g 1) d_Lw_law_1235 (by rw [hL]; exact fun q => q.elim (by decide) (by decide)) rfl ?_
  refine r_i2c d_Lw_law_1236 (v := zc g 1) rfl ?_
  refine r_aload_n d_Lw_law_1237 rfl 2 rfl ?_
  refine r_callSX (As := [.ref a, .int (zc g 1), .ref o1]) (rest := []) (csC := [(a, .inr (11, [.ref pa, .ref ta, .ref sa, .ref gs, .ref co, .ref fu, .ref la, .ref gy, .ref du, .ref re, .ref wm, .ref ac])), (gs, .inr (4, [.int 80, .int 35, .int 30, .int 50, .int 0])), (o1, .inl (3, 1, .inr (.inl (fun _ => 0))))]) (is := [0, 31, 69]) ln_Lw_235 w_st_Lw_sand ok_Lw_law_Lw_sand d_Lw_law_1238 (C_Lw_sandE g a pa ta sa gs co fu la gy du re wm ac 80 35 30 50 0 (zc g 1) hn o1 (fun _ => 0)) rfl rfl (Nat.le_of_ble_eq_true rfl) rfl (by decide) (by omega) (by omega) (fun E cs1 hx => ?_) (fun v cs1 hx => ?_)
  · exact absurd hx.1 (by simp)
  · obtain ⟨e1, rfl⟩ := hx
    cases e1
    refine ⟨rfl, ?_⟩
    refine r_st (st2 := [.int 1]) rfl ?_
    refine r_istore (lv' := [(6, .int 1), (5, .int 0), (4, .ref o2), (3, .ref o1), (2, .ref m), (1, .ref a), (0, .ref (g.2.2 40))]) d_Lw_law_1241 (by decide) rfl ?_
    refine r_aload_n d_Lw_law_1243 rfl 4 rfl ?_
    refine r_aload_n d_Lw_law_1244 rfl 6 rfl ?_
    refine r_iload d_Lw_law_1245 1 rfl ?_
    refine r_iconst d_Lw_law_1247 (v := 1) (by decide) ?_
    refine r_iadd d_Lw_law_1248 (v := 1) rfl ?_
    refine r_sld (v := zs g 1) d_Lw_law_1249 (by rw [hL]; exact fun q => q.elim (by decide) (by decide)) rfl ?_
    refine r_i2c d_Lw_law_1250 (v := zc g 1) rfl ?_
    refine r_callV (As := [.int (zc g 1)]) (rest := []) (csC := [(m, .inr (12, [.int 0, .ref mp, .int 4, .ref mf, .ref mh, .ref mn, .ref mt, .ref mz, .ref mc_, .ref mq, .ref mgr, .int 80, .int 35, .int 30, .int 50, .int 0, .int 0, .ref ml, .ref mi, .ref mr, .int 0, .int 0, .int 0, .int (-1), .int 0, .ref mm, .ref mu, .ref mk, .ref mx, .long 0, .long 0]))]) (is := [52]) (q0 := 52) rfl rfl ln_Lw_238 w_im_Mm_sand w_se_Mm_sand ok_Lw_law_Mm_sand d_Lw_law_1251 (C_Mm_sandE g m mp mf mh mn mt mz mc_ mq mgr ml mi mr mm mu mk mx 0 4 80 35 30 50 0 0 0 0 0 (-1) 0 0 0 (zc g 1) hw) rfl rfl (Nat.le_of_ble_eq_true rfl) rfl (by decide) (by omega) (by omega) (fun E cs1 hx => ?_) (fun v cs1 hx => ?_)
    · exact absurd hx.1 (by simp)
    · obtain ⟨e1, rfl⟩ := hx
      cases e1
      refine ⟨rfl, ?_⟩
      refine r_st (st2 := [.int 0]) rfl ?_
      refine r_istore (lv' := [(7, .int 0), (6, .int 1), (5, .int 0), (4, .ref o2), (3, .ref o1), (2, .ref m), (1, .ref a), (0, .ref (g.2.2 40))]) d_Lw_law_1254 (by decide) rfl ?_
      refine r_aload_n d_Lw_law_1256 rfl 5 rfl ?_
      refine r_callV (As := []) (rest := []) (csC := [(m, .inr (12, [.int 1, .ref mp, .int 4, .ref mf, .ref mh, .ref mn, .ref mt, .ref mz, .ref mc_, .ref mq, .ref mgr, .int 80, .int 35, .int 30, .int 50, .int 0, .int 0, .ref ml, .ref mi, .ref mr, .int 0, .int 0, .int 0, .int (-1), .int 0, .ref mm, .ref mu, .ref mk, .ref mx, .long 0, .long 0]))]) (is := [52]) (q0 := 52) rfl rfl ln_Lw_175 w_im_Mm_thrown w_se_Mm_thrown ok_Lw_law_Mm_thrown d_Lw_law_1257 (C_Mm_thrown g m mp mf mh mn mt mz mc_ mq mgr ml mi mr mm mu mk mx 1 4 80 35 30 50 0 0 0 0 0 (-1) 0 0 0) rfl rfl (Nat.le_of_ble_eq_true rfl) rfl (by decide) (by omega) (by omega) (fun E cs1 hx => ?_) (fun v cs1 hx => ?_)
      · exact absurd hx.1 (by simp)
      · obtain ⟨e1, rfl⟩ := hx
        cases e1
        refine ⟨rfl, ?_⟩
        refine r_st (st2 := [.int 1]) rfl ?_
        refine r_iload d_Lw_law_1260 1 rfl ?_
        refine r_icmp_eq (tgt := 1267) d_Lw_law_1262 (by decide) (fun c_1262 => ?_) (fun c_1262 => ?_)
        · refine r_iload d_Lw_law_1267 1 rfl ?_
          refine r_if_ne (tgt := 1284) d_Lw_law_1269 (by decide) (fun c_1269 => ?_) (fun c_1269 => ?_)
          · refine r_goto (tgt := 3019) d_Lw_law_1284 (by decide) ?_
            refine r_lv (lv' := [(5, .int 0), (0, .ref (g.2.2 40))]) [2, 7] rfl ?_
            exact LW_tail g _ hL _ _ w0 n
          · exact absurd c_1269 (by decide)
        · exact absurd c_1262 (by decide)
theorem d_Lw_law_1272 : decode code 1272 = .ok (.aload_n 3, 1) := by decide +kernel
theorem d_Lw_law_1273 : decode code 1273 = .ok (.iconst 0, 1) := by decide +kernel
theorem d_Lw_law_1274 : decode code 1274 = .ok (.laload, 1) := by decide +kernel
theorem d_Lw_law_1275 : decode code 1275 = .ok (.iload 7, 2) := by decide +kernel
theorem d_Lw_law_1277 : decode code 1277 = .ok (.i2l, 1) := by decide +kernel
theorem d_Lw_law_1278 : decode code 1278 = .ok (.lcmp, 1) := by decide +kernel
theorem d_Lw_law_1279 : decode code 1279 = .ok (.ifCond .eq 5, 3) := by decide +kernel
set_option maxHeartbeats 4000000 in
set_option maxRecDepth 100000 in
theorem LW_sand99 (g : zG) (a pa pa1 pa2 pa3 ta ta1 ta2 taz taz1 taz2 taz3 taz4 taz5 taz6 ta4 ta5 ta6 sa sa1 sa2 saz saz1 saz2 saz3 saz4 saz5 saz6 sa4 sa5 sa6 gs co co1 co2 co3 fu fub fubg fut1 fut2 fut3 la lab labg gy gyg du dug re wm ac m mp mf mh mn mt mz mc_ mq mgr ml mi mr mm mu mk mx o1 o2 : Nat) (hL : g.2.2 41 = 7) (e1 : zc g 1 = 99) (w0 : zW) (n : Nat) : DV g M_Lw_law (lwP) w0 n 1229 [(5, .int 0), (4, .ref o2), (3, .ref o1), (2, .ref m), (1, .ref a), (0, .ref (g.2.2 40))] [] (lwCS g a pa pa1 pa2 pa3 ta ta1 ta2 taz taz1 taz2 taz3 taz4 taz5 taz6 ta4 ta5 ta6 sa sa1 sa2 saz saz1 saz2 saz3 saz4 saz5 saz6 sa4 sa5 sa6 gs co co1 co2 co3 fu fub fubg fut1 fut2 fut3 la lab labg gy gyg du dug re wm ac m mp mf mh mn mt mz mc_ mq mgr ml mi mr mm mu mk mx o1 o2) 100 1000 := by
  refine r_aload_n d_Lw_law_1229 rfl 4 rfl ?_
  refine r_aload_n d_Lw_law_1230 rfl 5 rfl ?_
  refine r_iload d_Lw_law_1231 0 rfl ?_
  refine r_iconst d_Lw_law_1233 (v := 1) (by decide) ?_
  refine r_iadd d_Lw_law_1234 (v := 1) rfl ?_
  refine r_sld (v := zs g 1) d_Lw_law_1235 (by rw [hL]; exact fun q => q.elim (by decide) (by decide)) rfl ?_
  refine r_i2c d_Lw_law_1236 (v := 99) e1 ?_
  refine r_aload_n d_Lw_law_1237 rfl 2 rfl ?_
  refine r_callSX (As := [.ref a, .int 99, .ref o1]) (rest := []) (csC := [(a, .inr (11, [.ref pa, .ref ta, .ref sa, .ref gs, .ref co, .ref fu, .ref la, .ref gy, .ref du, .ref re, .ref wm, .ref ac])), (gs, .inr (4, [.int 80, .int 35, .int 30, .int 50, .int 0])), (o1, .inl (3, 1, .inr (.inl (fun _ => 0))))]) (is := [0, 31, 69]) ln_Lw_235 w_st_Lw_sand ok_Lw_law_Lw_sand d_Lw_law_1238 (C_Lw_sand99 g a pa ta sa gs co fu la gy du re wm ac 80 35 30 50 0 o1 (fun _ => 0)) rfl rfl (Nat.le_of_ble_eq_true rfl) rfl (by decide) (by omega) (by omega) (fun E cs1 hx => ?_) (fun v cs1 hx => ?_)
  · exact absurd hx.1 (by simp)
  · obtain ⟨e1, rfl⟩ := hx
    cases e1
    refine ⟨rfl, ?_⟩
    refine r_st (st2 := [.int 0]) rfl ?_
    refine r_istore (lv' := [(6, .int 0), (5, .int 0), (4, .ref o2), (3, .ref o1), (2, .ref m), (1, .ref a), (0, .ref (g.2.2 40))]) d_Lw_law_1241 (by decide) rfl ?_
    refine r_aload_n d_Lw_law_1243 rfl 4 rfl ?_
    refine r_aload_n d_Lw_law_1244 rfl 6 rfl ?_
    refine r_iload d_Lw_law_1245 1 rfl ?_
    refine r_iconst d_Lw_law_1247 (v := 1) (by decide) ?_
    refine r_iadd d_Lw_law_1248 (v := 1) rfl ?_
    refine r_sld (v := zs g 1) d_Lw_law_1249 (by rw [hL]; exact fun q => q.elim (by decide) (by decide)) rfl ?_
    refine r_i2c d_Lw_law_1250 (v := 99) e1 ?_
    refine r_callV (As := [.int 99]) (rest := []) (csC := [(m, .inr (12, [.int 0, .ref mp, .int 4, .ref mf, .ref mh, .ref mn, .ref mt, .ref mz, .ref mc_, .ref mq, .ref mgr, .int 80, .int 35, .int 30, .int 50, .int 0, .int 0, .ref ml, .ref mi, .ref mr, .int 0, .int 0, .int 0, .int (-1), .int 0, .ref mm, .ref mu, .ref mk, .ref mx, .long 0, .long 0]))]) (is := [52]) (q0 := 52) rfl rfl ln_Lw_238 w_im_Mm_sand w_se_Mm_sand ok_Lw_law_Mm_sand d_Lw_law_1251 (C_Mm_sand99 g m mp mf mh mn mt mz mc_ mq mgr ml mi mr mm mu mk mx 0 4 80 35 30 50 0 0 0 0 0 (-1) 0 0 0) rfl rfl (Nat.le_of_ble_eq_true rfl) rfl (by decide) (by omega) (by omega) (fun E cs1 hx => ?_) (fun v cs1 hx => ?_)
    · exact absurd hx.1 (by simp)
    · obtain ⟨e1, rfl⟩ := hx
      cases e1
      refine ⟨rfl, ?_⟩
      refine r_st (st2 := [.int 80]) rfl ?_
      refine r_istore (lv' := [(7, .int 80), (6, .int 0), (5, .int 0), (4, .ref o2), (3, .ref o1), (2, .ref m), (1, .ref a), (0, .ref (g.2.2 40))]) d_Lw_law_1254 (by decide) rfl ?_
      refine r_aload_n d_Lw_law_1256 rfl 5 rfl ?_
      refine r_callV (As := []) (rest := []) (csC := [(m, .inr (12, [.int 0, .ref mp, .int 4, .ref mf, .ref mh, .ref mn, .ref mt, .ref mz, .ref mc_, .ref mq, .ref mgr, .int 80, .int 35, .int 30, .int 50, .int 0, .int 0, .ref ml, .ref mi, .ref mr, .int 0, .int 0, .int 0, .int (-1), .int 0, .ref mm, .ref mu, .ref mk, .ref mx, .long 0, .long 0]))]) (is := [52]) (q0 := 52) rfl rfl ln_Lw_175 w_im_Mm_thrown w_se_Mm_thrown ok_Lw_law_Mm_thrown d_Lw_law_1257 (C_Mm_thrown g m mp mf mh mn mt mz mc_ mq mgr ml mi mr mm mu mk mx 0 4 80 35 30 50 0 0 0 0 0 (-1) 0 0 0) rfl rfl (Nat.le_of_ble_eq_true rfl) rfl (by decide) (by omega) (by omega) (fun E cs1 hx => ?_) (fun v cs1 hx => ?_)
      · exact absurd hx.1 (by simp)
      · obtain ⟨e1, rfl⟩ := hx
        cases e1
        refine ⟨rfl, ?_⟩
        refine r_st (st2 := [.int 0]) rfl ?_
        refine r_iload d_Lw_law_1260 1 rfl ?_
        refine r_icmp_eq (tgt := 1267) d_Lw_law_1262 (by decide) (fun c_1262 => ?_) (fun c_1262 => ?_)
        · refine r_iload d_Lw_law_1267 1 rfl ?_
          refine r_if_ne (tgt := 1284) d_Lw_law_1269 (by decide) (fun c_1269 => ?_) (fun c_1269 => ?_)
          · exact absurd c_1269 (by decide)
          · refine r_aload_n d_Lw_law_1272 rfl 4 rfl ?_
            refine r_iconst d_Lw_law_1273 (v := 0) (by decide) ?_
            refine r_lald d_Lw_law_1274 (q0 := 69) rfl (fun q => q.elim (by decide) (by decide)) (v := (vp_updL (fun _ => 0) 0 (80).toInt64) 0) rfl ?_
            refine r_iload d_Lw_law_1275 0 rfl ?_
            refine r_i2l d_Lw_law_1277 (v := 80.toInt64) rfl ?_
            refine r_lcmp d_Lw_law_1278 (v := 0) (zl_cmp (rfl)) ?_
            refine r_if_eq (tgt := 1284) d_Lw_law_1279 (by decide) (fun c_1279 => ?_) (fun c_1279 => ?_)
            · refine r_goto (tgt := 3019) d_Lw_law_1284 (by decide) ?_
              refine r_lv (lv' := [(5, .int 0), (0, .ref (g.2.2 40))]) [2, 7] rfl ?_
              exact LW_tail g _ hL _ _ w0 n
            · exact absurd c_1279 (by decide)
        · exact absurd c_1262 (by decide)
set_option maxHeartbeats 4000000 in
set_option maxRecDepth 100000 in
theorem LW_sand119 (g : zG) (a pa pa1 pa2 pa3 ta ta1 ta2 taz taz1 taz2 taz3 taz4 taz5 taz6 ta4 ta5 ta6 sa sa1 sa2 saz saz1 saz2 saz3 saz4 saz5 saz6 sa4 sa5 sa6 gs co co1 co2 co3 fu fub fubg fut1 fut2 fut3 la lab labg gy gyg du dug re wm ac m mp mf mh mn mt mz mc_ mq mgr ml mi mr mm mu mk mx o1 o2 : Nat) (hL : g.2.2 41 = 7) (e1 : zc g 1 = 119) (w0 : zW) (n : Nat) : DV g M_Lw_law (lwP) w0 n 1229 [(5, .int 0), (4, .ref o2), (3, .ref o1), (2, .ref m), (1, .ref a), (0, .ref (g.2.2 40))] [] (lwCS g a pa pa1 pa2 pa3 ta ta1 ta2 taz taz1 taz2 taz3 taz4 taz5 taz6 ta4 ta5 ta6 sa sa1 sa2 saz saz1 saz2 saz3 saz4 saz5 saz6 sa4 sa5 sa6 gs co co1 co2 co3 fu fub fubg fut1 fut2 fut3 la lab labg gy gyg du dug re wm ac m mp mf mh mn mt mz mc_ mq mgr ml mi mr mm mu mk mx o1 o2) 100 1000 := by
  refine r_aload_n d_Lw_law_1229 rfl 4 rfl ?_
  refine r_aload_n d_Lw_law_1230 rfl 5 rfl ?_
  refine r_iload d_Lw_law_1231 0 rfl ?_
  refine r_iconst d_Lw_law_1233 (v := 1) (by decide) ?_
  refine r_iadd d_Lw_law_1234 (v := 1) rfl ?_
  refine r_sld (v := zs g 1) d_Lw_law_1235 (by rw [hL]; exact fun q => q.elim (by decide) (by decide)) rfl ?_
  refine r_i2c d_Lw_law_1236 (v := 119) e1 ?_
  refine r_aload_n d_Lw_law_1237 rfl 2 rfl ?_
  refine r_callSX (As := [.ref a, .int 119, .ref o1]) (rest := []) (csC := [(a, .inr (11, [.ref pa, .ref ta, .ref sa, .ref gs, .ref co, .ref fu, .ref la, .ref gy, .ref du, .ref re, .ref wm, .ref ac])), (gs, .inr (4, [.int 80, .int 35, .int 30, .int 50, .int 0])), (o1, .inl (3, 1, .inr (.inl (fun _ => 0))))]) (is := [0, 31, 69]) ln_Lw_235 w_st_Lw_sand ok_Lw_law_Lw_sand d_Lw_law_1238 (C_Lw_sand119 g a pa ta sa gs co fu la gy du re wm ac 80 35 30 50 0 o1 (fun _ => 0)) rfl rfl (Nat.le_of_ble_eq_true rfl) rfl (by decide) (by omega) (by omega) (fun E cs1 hx => ?_) (fun v cs1 hx => ?_)
  · exact absurd hx.1 (by simp)
  · obtain ⟨e1, rfl⟩ := hx
    cases e1
    refine ⟨rfl, ?_⟩
    refine r_st (st2 := [.int 0]) rfl ?_
    refine r_istore (lv' := [(6, .int 0), (5, .int 0), (4, .ref o2), (3, .ref o1), (2, .ref m), (1, .ref a), (0, .ref (g.2.2 40))]) d_Lw_law_1241 (by decide) rfl ?_
    refine r_aload_n d_Lw_law_1243 rfl 4 rfl ?_
    refine r_aload_n d_Lw_law_1244 rfl 6 rfl ?_
    refine r_iload d_Lw_law_1245 1 rfl ?_
    refine r_iconst d_Lw_law_1247 (v := 1) (by decide) ?_
    refine r_iadd d_Lw_law_1248 (v := 1) rfl ?_
    refine r_sld (v := zs g 1) d_Lw_law_1249 (by rw [hL]; exact fun q => q.elim (by decide) (by decide)) rfl ?_
    refine r_i2c d_Lw_law_1250 (v := 119) e1 ?_
    refine r_callV (As := [.int 119]) (rest := []) (csC := [(m, .inr (12, [.int 0, .ref mp, .int 4, .ref mf, .ref mh, .ref mn, .ref mt, .ref mz, .ref mc_, .ref mq, .ref mgr, .int 80, .int 35, .int 30, .int 50, .int 0, .int 0, .ref ml, .ref mi, .ref mr, .int 0, .int 0, .int 0, .int (-1), .int 0, .ref mm, .ref mu, .ref mk, .ref mx, .long 0, .long 0]))]) (is := [52]) (q0 := 52) rfl rfl ln_Lw_238 w_im_Mm_sand w_se_Mm_sand ok_Lw_law_Mm_sand d_Lw_law_1251 (C_Mm_sand119 g m mp mf mh mn mt mz mc_ mq mgr ml mi mr mm mu mk mx 0 4 80 35 30 50 0 0 0 0 0 (-1) 0 0 0) rfl rfl (Nat.le_of_ble_eq_true rfl) rfl (by decide) (by omega) (by omega) (fun E cs1 hx => ?_) (fun v cs1 hx => ?_)
    · exact absurd hx.1 (by simp)
    · obtain ⟨e1, rfl⟩ := hx
      cases e1
      refine ⟨rfl, ?_⟩
      refine r_st (st2 := [.int 35]) rfl ?_
      refine r_istore (lv' := [(7, .int 35), (6, .int 0), (5, .int 0), (4, .ref o2), (3, .ref o1), (2, .ref m), (1, .ref a), (0, .ref (g.2.2 40))]) d_Lw_law_1254 (by decide) rfl ?_
      refine r_aload_n d_Lw_law_1256 rfl 5 rfl ?_
      refine r_callV (As := []) (rest := []) (csC := [(m, .inr (12, [.int 0, .ref mp, .int 4, .ref mf, .ref mh, .ref mn, .ref mt, .ref mz, .ref mc_, .ref mq, .ref mgr, .int 80, .int 35, .int 30, .int 50, .int 0, .int 0, .ref ml, .ref mi, .ref mr, .int 0, .int 0, .int 0, .int (-1), .int 0, .ref mm, .ref mu, .ref mk, .ref mx, .long 0, .long 0]))]) (is := [52]) (q0 := 52) rfl rfl ln_Lw_175 w_im_Mm_thrown w_se_Mm_thrown ok_Lw_law_Mm_thrown d_Lw_law_1257 (C_Mm_thrown g m mp mf mh mn mt mz mc_ mq mgr ml mi mr mm mu mk mx 0 4 80 35 30 50 0 0 0 0 0 (-1) 0 0 0) rfl rfl (Nat.le_of_ble_eq_true rfl) rfl (by decide) (by omega) (by omega) (fun E cs1 hx => ?_) (fun v cs1 hx => ?_)
      · exact absurd hx.1 (by simp)
      · obtain ⟨e1, rfl⟩ := hx
        cases e1
        refine ⟨rfl, ?_⟩
        refine r_st (st2 := [.int 0]) rfl ?_
        refine r_iload d_Lw_law_1260 1 rfl ?_
        refine r_icmp_eq (tgt := 1267) d_Lw_law_1262 (by decide) (fun c_1262 => ?_) (fun c_1262 => ?_)
        · refine r_iload d_Lw_law_1267 1 rfl ?_
          refine r_if_ne (tgt := 1284) d_Lw_law_1269 (by decide) (fun c_1269 => ?_) (fun c_1269 => ?_)
          · exact absurd c_1269 (by decide)
          · refine r_aload_n d_Lw_law_1272 rfl 4 rfl ?_
            refine r_iconst d_Lw_law_1273 (v := 0) (by decide) ?_
            refine r_lald d_Lw_law_1274 (q0 := 69) rfl (fun q => q.elim (by decide) (by decide)) (v := (vp_updL (fun _ => 0) 0 (35).toInt64) 0) rfl ?_
            refine r_iload d_Lw_law_1275 0 rfl ?_
            refine r_i2l d_Lw_law_1277 (v := 35.toInt64) rfl ?_
            refine r_lcmp d_Lw_law_1278 (v := 0) (zl_cmp (rfl)) ?_
            refine r_if_eq (tgt := 1284) d_Lw_law_1279 (by decide) (fun c_1279 => ?_) (fun c_1279 => ?_)
            · refine r_goto (tgt := 3019) d_Lw_law_1284 (by decide) ?_
              refine r_lv (lv' := [(5, .int 0), (0, .ref (g.2.2 40))]) [2, 7] rfl ?_
              exact LW_tail g _ hL _ _ w0 n
            · exact absurd c_1279 (by decide)
        · exact absurd c_1262 (by decide)
set_option maxHeartbeats 4000000 in
set_option maxRecDepth 100000 in
theorem LW_sand107 (g : zG) (a pa pa1 pa2 pa3 ta ta1 ta2 taz taz1 taz2 taz3 taz4 taz5 taz6 ta4 ta5 ta6 sa sa1 sa2 saz saz1 saz2 saz3 saz4 saz5 saz6 sa4 sa5 sa6 gs co co1 co2 co3 fu fub fubg fut1 fut2 fut3 la lab labg gy gyg du dug re wm ac m mp mf mh mn mt mz mc_ mq mgr ml mi mr mm mu mk mx o1 o2 : Nat) (hL : g.2.2 41 = 7) (e1 : zc g 1 = 107) (w0 : zW) (n : Nat) : DV g M_Lw_law (lwP) w0 n 1229 [(5, .int 0), (4, .ref o2), (3, .ref o1), (2, .ref m), (1, .ref a), (0, .ref (g.2.2 40))] [] (lwCS g a pa pa1 pa2 pa3 ta ta1 ta2 taz taz1 taz2 taz3 taz4 taz5 taz6 ta4 ta5 ta6 sa sa1 sa2 saz saz1 saz2 saz3 saz4 saz5 saz6 sa4 sa5 sa6 gs co co1 co2 co3 fu fub fubg fut1 fut2 fut3 la lab labg gy gyg du dug re wm ac m mp mf mh mn mt mz mc_ mq mgr ml mi mr mm mu mk mx o1 o2) 100 1000 := by
  refine r_aload_n d_Lw_law_1229 rfl 4 rfl ?_
  refine r_aload_n d_Lw_law_1230 rfl 5 rfl ?_
  refine r_iload d_Lw_law_1231 0 rfl ?_
  refine r_iconst d_Lw_law_1233 (v := 1) (by decide) ?_
  refine r_iadd d_Lw_law_1234 (v := 1) rfl ?_
  refine r_sld (v := zs g 1) d_Lw_law_1235 (by rw [hL]; exact fun q => q.elim (by decide) (by decide)) rfl ?_
  refine r_i2c d_Lw_law_1236 (v := 107) e1 ?_
  refine r_aload_n d_Lw_law_1237 rfl 2 rfl ?_
  refine r_callSX (As := [.ref a, .int 107, .ref o1]) (rest := []) (csC := [(a, .inr (11, [.ref pa, .ref ta, .ref sa, .ref gs, .ref co, .ref fu, .ref la, .ref gy, .ref du, .ref re, .ref wm, .ref ac])), (gs, .inr (4, [.int 80, .int 35, .int 30, .int 50, .int 0])), (o1, .inl (3, 1, .inr (.inl (fun _ => 0))))]) (is := [0, 31, 69]) ln_Lw_235 w_st_Lw_sand ok_Lw_law_Lw_sand d_Lw_law_1238 (C_Lw_sand107 g a pa ta sa gs co fu la gy du re wm ac 80 35 30 50 0 o1 (fun _ => 0)) rfl rfl (Nat.le_of_ble_eq_true rfl) rfl (by decide) (by omega) (by omega) (fun E cs1 hx => ?_) (fun v cs1 hx => ?_)
  · exact absurd hx.1 (by simp)
  · obtain ⟨e1, rfl⟩ := hx
    cases e1
    refine ⟨rfl, ?_⟩
    refine r_st (st2 := [.int 0]) rfl ?_
    refine r_istore (lv' := [(6, .int 0), (5, .int 0), (4, .ref o2), (3, .ref o1), (2, .ref m), (1, .ref a), (0, .ref (g.2.2 40))]) d_Lw_law_1241 (by decide) rfl ?_
    refine r_aload_n d_Lw_law_1243 rfl 4 rfl ?_
    refine r_aload_n d_Lw_law_1244 rfl 6 rfl ?_
    refine r_iload d_Lw_law_1245 1 rfl ?_
    refine r_iconst d_Lw_law_1247 (v := 1) (by decide) ?_
    refine r_iadd d_Lw_law_1248 (v := 1) rfl ?_
    refine r_sld (v := zs g 1) d_Lw_law_1249 (by rw [hL]; exact fun q => q.elim (by decide) (by decide)) rfl ?_
    refine r_i2c d_Lw_law_1250 (v := 107) e1 ?_
    refine r_callV (As := [.int 107]) (rest := []) (csC := [(m, .inr (12, [.int 0, .ref mp, .int 4, .ref mf, .ref mh, .ref mn, .ref mt, .ref mz, .ref mc_, .ref mq, .ref mgr, .int 80, .int 35, .int 30, .int 50, .int 0, .int 0, .ref ml, .ref mi, .ref mr, .int 0, .int 0, .int 0, .int (-1), .int 0, .ref mm, .ref mu, .ref mk, .ref mx, .long 0, .long 0]))]) (is := [52]) (q0 := 52) rfl rfl ln_Lw_238 w_im_Mm_sand w_se_Mm_sand ok_Lw_law_Mm_sand d_Lw_law_1251 (C_Mm_sand107 g m mp mf mh mn mt mz mc_ mq mgr ml mi mr mm mu mk mx 0 4 80 35 30 50 0 0 0 0 0 (-1) 0 0 0) rfl rfl (Nat.le_of_ble_eq_true rfl) rfl (by decide) (by omega) (by omega) (fun E cs1 hx => ?_) (fun v cs1 hx => ?_)
    · exact absurd hx.1 (by simp)
    · obtain ⟨e1, rfl⟩ := hx
      cases e1
      refine ⟨rfl, ?_⟩
      refine r_st (st2 := [.int 30]) rfl ?_
      refine r_istore (lv' := [(7, .int 30), (6, .int 0), (5, .int 0), (4, .ref o2), (3, .ref o1), (2, .ref m), (1, .ref a), (0, .ref (g.2.2 40))]) d_Lw_law_1254 (by decide) rfl ?_
      refine r_aload_n d_Lw_law_1256 rfl 5 rfl ?_
      refine r_callV (As := []) (rest := []) (csC := [(m, .inr (12, [.int 0, .ref mp, .int 4, .ref mf, .ref mh, .ref mn, .ref mt, .ref mz, .ref mc_, .ref mq, .ref mgr, .int 80, .int 35, .int 30, .int 50, .int 0, .int 0, .ref ml, .ref mi, .ref mr, .int 0, .int 0, .int 0, .int (-1), .int 0, .ref mm, .ref mu, .ref mk, .ref mx, .long 0, .long 0]))]) (is := [52]) (q0 := 52) rfl rfl ln_Lw_175 w_im_Mm_thrown w_se_Mm_thrown ok_Lw_law_Mm_thrown d_Lw_law_1257 (C_Mm_thrown g m mp mf mh mn mt mz mc_ mq mgr ml mi mr mm mu mk mx 0 4 80 35 30 50 0 0 0 0 0 (-1) 0 0 0) rfl rfl (Nat.le_of_ble_eq_true rfl) rfl (by decide) (by omega) (by omega) (fun E cs1 hx => ?_) (fun v cs1 hx => ?_)
      · exact absurd hx.1 (by simp)
      · obtain ⟨e1, rfl⟩ := hx
        cases e1
        refine ⟨rfl, ?_⟩
        refine r_st (st2 := [.int 0]) rfl ?_
        refine r_iload d_Lw_law_1260 1 rfl ?_
        refine r_icmp_eq (tgt := 1267) d_Lw_law_1262 (by decide) (fun c_1262 => ?_) (fun c_1262 => ?_)
        · refine r_iload d_Lw_law_1267 1 rfl ?_
          refine r_if_ne (tgt := 1284) d_Lw_law_1269 (by decide) (fun c_1269 => ?_) (fun c_1269 => ?_)
          · exact absurd c_1269 (by decide)
          · refine r_aload_n d_Lw_law_1272 rfl 4 rfl ?_
            refine r_iconst d_Lw_law_1273 (v := 0) (by decide) ?_
            refine r_lald d_Lw_law_1274 (q0 := 69) rfl (fun q => q.elim (by decide) (by decide)) (v := (vp_updL (fun _ => 0) 0 (30).toInt64) 0) rfl ?_
            refine r_iload d_Lw_law_1275 0 rfl ?_
            refine r_i2l d_Lw_law_1277 (v := 30.toInt64) rfl ?_
            refine r_lcmp d_Lw_law_1278 (v := 0) (zl_cmp (rfl)) ?_
            refine r_if_eq (tgt := 1284) d_Lw_law_1279 (by decide) (fun c_1279 => ?_) (fun c_1279 => ?_)
            · refine r_goto (tgt := 3019) d_Lw_law_1284 (by decide) ?_
              refine r_lv (lv' := [(5, .int 0), (0, .ref (g.2.2 40))]) [2, 7] rfl ?_
              exact LW_tail g _ hL _ _ w0 n
            · exact absurd c_1279 (by decide)
        · exact absurd c_1262 (by decide)
set_option maxHeartbeats 4000000 in
set_option maxRecDepth 100000 in
theorem LW_sand102 (g : zG) (a pa pa1 pa2 pa3 ta ta1 ta2 taz taz1 taz2 taz3 taz4 taz5 taz6 ta4 ta5 ta6 sa sa1 sa2 saz saz1 saz2 saz3 saz4 saz5 saz6 sa4 sa5 sa6 gs co co1 co2 co3 fu fub fubg fut1 fut2 fut3 la lab labg gy gyg du dug re wm ac m mp mf mh mn mt mz mc_ mq mgr ml mi mr mm mu mk mx o1 o2 : Nat) (hL : g.2.2 41 = 7) (e1 : zc g 1 = 102) (w0 : zW) (n : Nat) : DV g M_Lw_law (lwP) w0 n 1229 [(5, .int 0), (4, .ref o2), (3, .ref o1), (2, .ref m), (1, .ref a), (0, .ref (g.2.2 40))] [] (lwCS g a pa pa1 pa2 pa3 ta ta1 ta2 taz taz1 taz2 taz3 taz4 taz5 taz6 ta4 ta5 ta6 sa sa1 sa2 saz saz1 saz2 saz3 saz4 saz5 saz6 sa4 sa5 sa6 gs co co1 co2 co3 fu fub fubg fut1 fut2 fut3 la lab labg gy gyg du dug re wm ac m mp mf mh mn mt mz mc_ mq mgr ml mi mr mm mu mk mx o1 o2) 100 1000 := by
  refine r_aload_n d_Lw_law_1229 rfl 4 rfl ?_
  refine r_aload_n d_Lw_law_1230 rfl 5 rfl ?_
  refine r_iload d_Lw_law_1231 0 rfl ?_
  refine r_iconst d_Lw_law_1233 (v := 1) (by decide) ?_
  refine r_iadd d_Lw_law_1234 (v := 1) rfl ?_
  refine r_sld (v := zs g 1) d_Lw_law_1235 (by rw [hL]; exact fun q => q.elim (by decide) (by decide)) rfl ?_
  refine r_i2c d_Lw_law_1236 (v := 102) e1 ?_
  refine r_aload_n d_Lw_law_1237 rfl 2 rfl ?_
  refine r_callSX (As := [.ref a, .int 102, .ref o1]) (rest := []) (csC := [(a, .inr (11, [.ref pa, .ref ta, .ref sa, .ref gs, .ref co, .ref fu, .ref la, .ref gy, .ref du, .ref re, .ref wm, .ref ac])), (gs, .inr (4, [.int 80, .int 35, .int 30, .int 50, .int 0])), (o1, .inl (3, 1, .inr (.inl (fun _ => 0))))]) (is := [0, 31, 69]) ln_Lw_235 w_st_Lw_sand ok_Lw_law_Lw_sand d_Lw_law_1238 (C_Lw_sand102 g a pa ta sa gs co fu la gy du re wm ac 80 35 30 50 0 o1 (fun _ => 0)) rfl rfl (Nat.le_of_ble_eq_true rfl) rfl (by decide) (by omega) (by omega) (fun E cs1 hx => ?_) (fun v cs1 hx => ?_)
  · exact absurd hx.1 (by simp)
  · obtain ⟨e1, rfl⟩ := hx
    cases e1
    refine ⟨rfl, ?_⟩
    refine r_st (st2 := [.int 0]) rfl ?_
    refine r_istore (lv' := [(6, .int 0), (5, .int 0), (4, .ref o2), (3, .ref o1), (2, .ref m), (1, .ref a), (0, .ref (g.2.2 40))]) d_Lw_law_1241 (by decide) rfl ?_
    refine r_aload_n d_Lw_law_1243 rfl 4 rfl ?_
    refine r_aload_n d_Lw_law_1244 rfl 6 rfl ?_
    refine r_iload d_Lw_law_1245 1 rfl ?_
    refine r_iconst d_Lw_law_1247 (v := 1) (by decide) ?_
    refine r_iadd d_Lw_law_1248 (v := 1) rfl ?_
    refine r_sld (v := zs g 1) d_Lw_law_1249 (by rw [hL]; exact fun q => q.elim (by decide) (by decide)) rfl ?_
    refine r_i2c d_Lw_law_1250 (v := 102) e1 ?_
    refine r_callV (As := [.int 102]) (rest := []) (csC := [(m, .inr (12, [.int 0, .ref mp, .int 4, .ref mf, .ref mh, .ref mn, .ref mt, .ref mz, .ref mc_, .ref mq, .ref mgr, .int 80, .int 35, .int 30, .int 50, .int 0, .int 0, .ref ml, .ref mi, .ref mr, .int 0, .int 0, .int 0, .int (-1), .int 0, .ref mm, .ref mu, .ref mk, .ref mx, .long 0, .long 0]))]) (is := [52]) (q0 := 52) rfl rfl ln_Lw_238 w_im_Mm_sand w_se_Mm_sand ok_Lw_law_Mm_sand d_Lw_law_1251 (C_Mm_sand102 g m mp mf mh mn mt mz mc_ mq mgr ml mi mr mm mu mk mx 0 4 80 35 30 50 0 0 0 0 0 (-1) 0 0 0) rfl rfl (Nat.le_of_ble_eq_true rfl) rfl (by decide) (by omega) (by omega) (fun E cs1 hx => ?_) (fun v cs1 hx => ?_)
    · exact absurd hx.1 (by simp)
    · obtain ⟨e1, rfl⟩ := hx
      cases e1
      refine ⟨rfl, ?_⟩
      refine r_st (st2 := [.int 50]) rfl ?_
      refine r_istore (lv' := [(7, .int 50), (6, .int 0), (5, .int 0), (4, .ref o2), (3, .ref o1), (2, .ref m), (1, .ref a), (0, .ref (g.2.2 40))]) d_Lw_law_1254 (by decide) rfl ?_
      refine r_aload_n d_Lw_law_1256 rfl 5 rfl ?_
      refine r_callV (As := []) (rest := []) (csC := [(m, .inr (12, [.int 0, .ref mp, .int 4, .ref mf, .ref mh, .ref mn, .ref mt, .ref mz, .ref mc_, .ref mq, .ref mgr, .int 80, .int 35, .int 30, .int 50, .int 0, .int 0, .ref ml, .ref mi, .ref mr, .int 0, .int 0, .int 0, .int (-1), .int 0, .ref mm, .ref mu, .ref mk, .ref mx, .long 0, .long 0]))]) (is := [52]) (q0 := 52) rfl rfl ln_Lw_175 w_im_Mm_thrown w_se_Mm_thrown ok_Lw_law_Mm_thrown d_Lw_law_1257 (C_Mm_thrown g m mp mf mh mn mt mz mc_ mq mgr ml mi mr mm mu mk mx 0 4 80 35 30 50 0 0 0 0 0 (-1) 0 0 0) rfl rfl (Nat.le_of_ble_eq_true rfl) rfl (by decide) (by omega) (by omega) (fun E cs1 hx => ?_) (fun v cs1 hx => ?_)
      · exact absurd hx.1 (by simp)
      · obtain ⟨e1, rfl⟩ := hx
        cases e1
        refine ⟨rfl, ?_⟩
        refine r_st (st2 := [.int 0]) rfl ?_
        refine r_iload d_Lw_law_1260 1 rfl ?_
        refine r_icmp_eq (tgt := 1267) d_Lw_law_1262 (by decide) (fun c_1262 => ?_) (fun c_1262 => ?_)
        · refine r_iload d_Lw_law_1267 1 rfl ?_
          refine r_if_ne (tgt := 1284) d_Lw_law_1269 (by decide) (fun c_1269 => ?_) (fun c_1269 => ?_)
          · exact absurd c_1269 (by decide)
          · refine r_aload_n d_Lw_law_1272 rfl 4 rfl ?_
            refine r_iconst d_Lw_law_1273 (v := 0) (by decide) ?_
            refine r_lald d_Lw_law_1274 (q0 := 69) rfl (fun q => q.elim (by decide) (by decide)) (v := (vp_updL (fun _ => 0) 0 (50).toInt64) 0) rfl ?_
            refine r_iload d_Lw_law_1275 0 rfl ?_
            refine r_i2l d_Lw_law_1277 (v := 50.toInt64) rfl ?_
            refine r_lcmp d_Lw_law_1278 (v := 0) (zl_cmp (rfl)) ?_
            refine r_if_eq (tgt := 1284) d_Lw_law_1279 (by decide) (fun c_1279 => ?_) (fun c_1279 => ?_)
            · refine r_goto (tgt := 3019) d_Lw_law_1284 (by decide) ?_
              refine r_lv (lv' := [(5, .int 0), (0, .ref (g.2.2 40))]) [2, 7] rfl ?_
              exact LW_tail g _ hL _ _ w0 n
            · exact absurd c_1279 (by decide)
        · exact absurd c_1262 (by decide)
set_option maxHeartbeats 4000000 in
set_option maxRecDepth 100000 in
theorem LW_sand98 (g : zG) (a pa pa1 pa2 pa3 ta ta1 ta2 taz taz1 taz2 taz3 taz4 taz5 taz6 ta4 ta5 ta6 sa sa1 sa2 saz saz1 saz2 saz3 saz4 saz5 saz6 sa4 sa5 sa6 gs co co1 co2 co3 fu fub fubg fut1 fut2 fut3 la lab labg gy gyg du dug re wm ac m mp mf mh mn mt mz mc_ mq mgr ml mi mr mm mu mk mx o1 o2 : Nat) (hL : g.2.2 41 = 7) (e1 : zc g 1 = 98) (w0 : zW) (n : Nat) : DV g M_Lw_law (lwP) w0 n 1229 [(5, .int 0), (4, .ref o2), (3, .ref o1), (2, .ref m), (1, .ref a), (0, .ref (g.2.2 40))] [] (lwCS g a pa pa1 pa2 pa3 ta ta1 ta2 taz taz1 taz2 taz3 taz4 taz5 taz6 ta4 ta5 ta6 sa sa1 sa2 saz saz1 saz2 saz3 saz4 saz5 saz6 sa4 sa5 sa6 gs co co1 co2 co3 fu fub fubg fut1 fut2 fut3 la lab labg gy gyg du dug re wm ac m mp mf mh mn mt mz mc_ mq mgr ml mi mr mm mu mk mx o1 o2) 100 1000 := by
  refine r_aload_n d_Lw_law_1229 rfl 4 rfl ?_
  refine r_aload_n d_Lw_law_1230 rfl 5 rfl ?_
  refine r_iload d_Lw_law_1231 0 rfl ?_
  refine r_iconst d_Lw_law_1233 (v := 1) (by decide) ?_
  refine r_iadd d_Lw_law_1234 (v := 1) rfl ?_
  refine r_sld (v := zs g 1) d_Lw_law_1235 (by rw [hL]; exact fun q => q.elim (by decide) (by decide)) rfl ?_
  refine r_i2c d_Lw_law_1236 (v := 98) e1 ?_
  refine r_aload_n d_Lw_law_1237 rfl 2 rfl ?_
  refine r_callSX (As := [.ref a, .int 98, .ref o1]) (rest := []) (csC := [(a, .inr (11, [.ref pa, .ref ta, .ref sa, .ref gs, .ref co, .ref fu, .ref la, .ref gy, .ref du, .ref re, .ref wm, .ref ac])), (gs, .inr (4, [.int 80, .int 35, .int 30, .int 50, .int 0])), (o1, .inl (3, 1, .inr (.inl (fun _ => 0))))]) (is := [0, 31, 69]) ln_Lw_235 w_st_Lw_sand ok_Lw_law_Lw_sand d_Lw_law_1238 (C_Lw_sand98 g a pa ta sa gs co fu la gy du re wm ac 80 35 30 50 0 o1 (fun _ => 0)) rfl rfl (Nat.le_of_ble_eq_true rfl) rfl (by decide) (by omega) (by omega) (fun E cs1 hx => ?_) (fun v cs1 hx => ?_)
  · exact absurd hx.1 (by simp)
  · obtain ⟨e1, rfl⟩ := hx
    cases e1
    refine ⟨rfl, ?_⟩
    refine r_st (st2 := [.int 0]) rfl ?_
    refine r_istore (lv' := [(6, .int 0), (5, .int 0), (4, .ref o2), (3, .ref o1), (2, .ref m), (1, .ref a), (0, .ref (g.2.2 40))]) d_Lw_law_1241 (by decide) rfl ?_
    refine r_aload_n d_Lw_law_1243 rfl 4 rfl ?_
    refine r_aload_n d_Lw_law_1244 rfl 6 rfl ?_
    refine r_iload d_Lw_law_1245 1 rfl ?_
    refine r_iconst d_Lw_law_1247 (v := 1) (by decide) ?_
    refine r_iadd d_Lw_law_1248 (v := 1) rfl ?_
    refine r_sld (v := zs g 1) d_Lw_law_1249 (by rw [hL]; exact fun q => q.elim (by decide) (by decide)) rfl ?_
    refine r_i2c d_Lw_law_1250 (v := 98) e1 ?_
    refine r_callV (As := [.int 98]) (rest := []) (csC := [(m, .inr (12, [.int 0, .ref mp, .int 4, .ref mf, .ref mh, .ref mn, .ref mt, .ref mz, .ref mc_, .ref mq, .ref mgr, .int 80, .int 35, .int 30, .int 50, .int 0, .int 0, .ref ml, .ref mi, .ref mr, .int 0, .int 0, .int 0, .int (-1), .int 0, .ref mm, .ref mu, .ref mk, .ref mx, .long 0, .long 0]))]) (is := [52]) (q0 := 52) rfl rfl ln_Lw_238 w_im_Mm_sand w_se_Mm_sand ok_Lw_law_Mm_sand d_Lw_law_1251 (C_Mm_sand98 g m mp mf mh mn mt mz mc_ mq mgr ml mi mr mm mu mk mx 0 4 80 35 30 50 0 0 0 0 0 (-1) 0 0 0) rfl rfl (Nat.le_of_ble_eq_true rfl) rfl (by decide) (by omega) (by omega) (fun E cs1 hx => ?_) (fun v cs1 hx => ?_)
    · exact absurd hx.1 (by simp)
    · obtain ⟨e1, rfl⟩ := hx
      cases e1
      refine ⟨rfl, ?_⟩
      refine r_st (st2 := [.int 0]) rfl ?_
      refine r_istore (lv' := [(7, .int 0), (6, .int 0), (5, .int 0), (4, .ref o2), (3, .ref o1), (2, .ref m), (1, .ref a), (0, .ref (g.2.2 40))]) d_Lw_law_1254 (by decide) rfl ?_
      refine r_aload_n d_Lw_law_1256 rfl 5 rfl ?_
      refine r_callV (As := []) (rest := []) (csC := [(m, .inr (12, [.int 0, .ref mp, .int 4, .ref mf, .ref mh, .ref mn, .ref mt, .ref mz, .ref mc_, .ref mq, .ref mgr, .int 80, .int 35, .int 30, .int 50, .int 0, .int 0, .ref ml, .ref mi, .ref mr, .int 0, .int 0, .int 0, .int (-1), .int 0, .ref mm, .ref mu, .ref mk, .ref mx, .long 0, .long 0]))]) (is := [52]) (q0 := 52) rfl rfl ln_Lw_175 w_im_Mm_thrown w_se_Mm_thrown ok_Lw_law_Mm_thrown d_Lw_law_1257 (C_Mm_thrown g m mp mf mh mn mt mz mc_ mq mgr ml mi mr mm mu mk mx 0 4 80 35 30 50 0 0 0 0 0 (-1) 0 0 0) rfl rfl (Nat.le_of_ble_eq_true rfl) rfl (by decide) (by omega) (by omega) (fun E cs1 hx => ?_) (fun v cs1 hx => ?_)
      · exact absurd hx.1 (by simp)
      · obtain ⟨e1, rfl⟩ := hx
        cases e1
        refine ⟨rfl, ?_⟩
        refine r_st (st2 := [.int 0]) rfl ?_
        refine r_iload d_Lw_law_1260 1 rfl ?_
        refine r_icmp_eq (tgt := 1267) d_Lw_law_1262 (by decide) (fun c_1262 => ?_) (fun c_1262 => ?_)
        · refine r_iload d_Lw_law_1267 1 rfl ?_
          refine r_if_ne (tgt := 1284) d_Lw_law_1269 (by decide) (fun c_1269 => ?_) (fun c_1269 => ?_)
          · exact absurd c_1269 (by decide)
          · refine r_aload_n d_Lw_law_1272 rfl 4 rfl ?_
            refine r_iconst d_Lw_law_1273 (v := 0) (by decide) ?_
            refine r_lald d_Lw_law_1274 (q0 := 69) rfl (fun q => q.elim (by decide) (by decide)) (v := (vp_updL (fun _ => 0) 0 (0).toInt64) 0) rfl ?_
            refine r_iload d_Lw_law_1275 0 rfl ?_
            refine r_i2l d_Lw_law_1277 (v := 0.toInt64) rfl ?_
            refine r_lcmp d_Lw_law_1278 (v := 0) (zl_cmp (rfl)) ?_
            refine r_if_eq (tgt := 1284) d_Lw_law_1279 (by decide) (fun c_1279 => ?_) (fun c_1279 => ?_)
            · refine r_goto (tgt := 3019) d_Lw_law_1284 (by decide) ?_
              refine r_lv (lv' := [(5, .int 0), (0, .ref (g.2.2 40))]) [2, 7] rfl ?_
              exact LW_tail g _ hL _ _ w0 n
            · exact absurd c_1279 (by decide)
        · exact absurd c_1262 (by decide)
set_option maxHeartbeats 4000000 in
set_option maxRecDepth 100000 in
theorem LW_sand115 (g : zG) (a pa pa1 pa2 pa3 ta ta1 ta2 taz taz1 taz2 taz3 taz4 taz5 taz6 ta4 ta5 ta6 sa sa1 sa2 saz saz1 saz2 saz3 saz4 saz5 saz6 sa4 sa5 sa6 gs co co1 co2 co3 fu fub fubg fut1 fut2 fut3 la lab labg gy gyg du dug re wm ac m mp mf mh mn mt mz mc_ mq mgr ml mi mr mm mu mk mx o1 o2 : Nat) (hL : g.2.2 41 = 7) (e1 : zc g 1 = 115) (w0 : zW) (n : Nat) : DV g M_Lw_law (lwP) w0 n 1229 [(5, .int 0), (4, .ref o2), (3, .ref o1), (2, .ref m), (1, .ref a), (0, .ref (g.2.2 40))] [] (lwCS g a pa pa1 pa2 pa3 ta ta1 ta2 taz taz1 taz2 taz3 taz4 taz5 taz6 ta4 ta5 ta6 sa sa1 sa2 saz saz1 saz2 saz3 saz4 saz5 saz6 sa4 sa5 sa6 gs co co1 co2 co3 fu fub fubg fut1 fut2 fut3 la lab labg gy gyg du dug re wm ac m mp mf mh mn mt mz mc_ mq mgr ml mi mr mm mu mk mx o1 o2) 100 1000 := by
  refine r_aload_n d_Lw_law_1229 rfl 4 rfl ?_
  refine r_aload_n d_Lw_law_1230 rfl 5 rfl ?_
  refine r_iload d_Lw_law_1231 0 rfl ?_
  refine r_iconst d_Lw_law_1233 (v := 1) (by decide) ?_
  refine r_iadd d_Lw_law_1234 (v := 1) rfl ?_
  refine r_sld (v := zs g 1) d_Lw_law_1235 (by rw [hL]; exact fun q => q.elim (by decide) (by decide)) rfl ?_
  refine r_i2c d_Lw_law_1236 (v := 115) e1 ?_
  refine r_aload_n d_Lw_law_1237 rfl 2 rfl ?_
  refine r_callSX (As := [.ref a, .int 115, .ref o1]) (rest := []) (csC := [(a, .inr (11, [.ref pa, .ref ta, .ref sa, .ref gs, .ref co, .ref fu, .ref la, .ref gy, .ref du, .ref re, .ref wm, .ref ac])), (gs, .inr (4, [.int 80, .int 35, .int 30, .int 50, .int 0])), (o1, .inl (3, 1, .inr (.inl (fun _ => 0))))]) (is := [0, 31, 69]) ln_Lw_235 w_st_Lw_sand ok_Lw_law_Lw_sand d_Lw_law_1238 (C_Lw_sand115 g a pa ta sa gs co fu la gy du re wm ac 80 35 30 50 0 o1 (fun _ => 0)) rfl rfl (Nat.le_of_ble_eq_true rfl) rfl (by decide) (by omega) (by omega) (fun E cs1 hx => ?_) (fun v cs1 hx => ?_)
  · exact absurd hx.1 (by simp)
  · obtain ⟨e1, rfl⟩ := hx
    cases e1
    refine ⟨rfl, ?_⟩
    refine r_st (st2 := [.int 0]) rfl ?_
    refine r_istore (lv' := [(6, .int 0), (5, .int 0), (4, .ref o2), (3, .ref o1), (2, .ref m), (1, .ref a), (0, .ref (g.2.2 40))]) d_Lw_law_1241 (by decide) rfl ?_
    refine r_aload_n d_Lw_law_1243 rfl 4 rfl ?_
    refine r_aload_n d_Lw_law_1244 rfl 6 rfl ?_
    refine r_iload d_Lw_law_1245 1 rfl ?_
    refine r_iconst d_Lw_law_1247 (v := 1) (by decide) ?_
    refine r_iadd d_Lw_law_1248 (v := 1) rfl ?_
    refine r_sld (v := zs g 1) d_Lw_law_1249 (by rw [hL]; exact fun q => q.elim (by decide) (by decide)) rfl ?_
    refine r_i2c d_Lw_law_1250 (v := 115) e1 ?_
    refine r_callV (As := [.int 115]) (rest := []) (csC := [(m, .inr (12, [.int 0, .ref mp, .int 4, .ref mf, .ref mh, .ref mn, .ref mt, .ref mz, .ref mc_, .ref mq, .ref mgr, .int 80, .int 35, .int 30, .int 50, .int 0, .int 0, .ref ml, .ref mi, .ref mr, .int 0, .int 0, .int 0, .int (-1), .int 0, .ref mm, .ref mu, .ref mk, .ref mx, .long 0, .long 0]))]) (is := [52]) (q0 := 52) rfl rfl ln_Lw_238 w_im_Mm_sand w_se_Mm_sand ok_Lw_law_Mm_sand d_Lw_law_1251 (C_Mm_sand115 g m mp mf mh mn mt mz mc_ mq mgr ml mi mr mm mu mk mx 0 4 80 35 30 50 0 0 0 0 0 (-1) 0 0 0) rfl rfl (Nat.le_of_ble_eq_true rfl) rfl (by decide) (by omega) (by omega) (fun E cs1 hx => ?_) (fun v cs1 hx => ?_)
    · exact absurd hx.1 (by simp)
    · obtain ⟨e1, rfl⟩ := hx
      cases e1
      refine ⟨rfl, ?_⟩
      refine r_st (st2 := [.int (S_Mm_strength m mp mf mh mn mt mz mc_ mq mgr ml mi mr mm mu mk mx 0 4 80 35 30 50 0 0 0 0 0 (-1) 0 0 0)]) rfl ?_
      refine r_istore (lv' := [(7, .int (S_Mm_strength m mp mf mh mn mt mz mc_ mq mgr ml mi mr mm mu mk mx 0 4 80 35 30 50 0 0 0 0 0 (-1) 0 0 0)), (6, .int 0), (5, .int 0), (4, .ref o2), (3, .ref o1), (2, .ref m), (1, .ref a), (0, .ref (g.2.2 40))]) d_Lw_law_1254 (by decide) rfl ?_
      refine r_aload_n d_Lw_law_1256 rfl 5 rfl ?_
      refine r_callV (As := []) (rest := []) (csC := [(m, .inr (12, [.int 0, .ref mp, .int 4, .ref mf, .ref mh, .ref mn, .ref mt, .ref mz, .ref mc_, .ref mq, .ref mgr, .int 80, .int 35, .int 30, .int 50, .int 0, .int 0, .ref ml, .ref mi, .ref mr, .int 0, .int 0, .int 0, .int (-1), .int 0, .ref mm, .ref mu, .ref mk, .ref mx, .long 0, .long 0]))]) (is := [52]) (q0 := 52) rfl rfl ln_Lw_175 w_im_Mm_thrown w_se_Mm_thrown ok_Lw_law_Mm_thrown d_Lw_law_1257 (C_Mm_thrown g m mp mf mh mn mt mz mc_ mq mgr ml mi mr mm mu mk mx 0 4 80 35 30 50 0 0 0 0 0 (-1) 0 0 0) rfl rfl (Nat.le_of_ble_eq_true rfl) rfl (by decide) (by omega) (by omega) (fun E cs1 hx => ?_) (fun v cs1 hx => ?_)
      · exact absurd hx.1 (by simp)
      · obtain ⟨e1, rfl⟩ := hx
        cases e1
        refine ⟨rfl, ?_⟩
        refine r_st (st2 := [.int 0]) rfl ?_
        refine r_iload d_Lw_law_1260 1 rfl ?_
        refine r_icmp_eq (tgt := 1267) d_Lw_law_1262 (by decide) (fun c_1262 => ?_) (fun c_1262 => ?_)
        · refine r_iload d_Lw_law_1267 1 rfl ?_
          refine r_if_ne (tgt := 1284) d_Lw_law_1269 (by decide) (fun c_1269 => ?_) (fun c_1269 => ?_)
          · exact absurd c_1269 (by decide)
          · refine r_aload_n d_Lw_law_1272 rfl 4 rfl ?_
            refine r_iconst d_Lw_law_1273 (v := 0) (by decide) ?_
            refine r_lald d_Lw_law_1274 (q0 := 69) rfl (fun q => q.elim (by decide) (by decide)) (v := (vp_updL (fun _ => 0) 0 ((S_GS_strength gs 80 35 30 50 0)).toInt64) 0) rfl ?_
            refine r_iload d_Lw_law_1275 0 rfl ?_
            refine r_i2l d_Lw_law_1277 (v := (S_Mm_strength m mp mf mh mn mt mz mc_ mq mgr ml mi mr mm mu mk mx 0 4 80 35 30 50 0 0 0 0 0 (-1) 0 0 0).toInt64) rfl ?_
            refine r_lcmp d_Lw_law_1278 (v := 0) (zl_cmp (rfl)) ?_
            refine r_if_eq (tgt := 1284) d_Lw_law_1279 (by decide) (fun c_1279 => ?_) (fun c_1279 => ?_)
            · refine r_goto (tgt := 3019) d_Lw_law_1284 (by decide) ?_
              refine r_lv (lv' := [(5, .int 0), (0, .ref (g.2.2 40))]) [2, 7] rfl ?_
              exact LW_tail g _ hL _ _ w0 n
            · exact absurd c_1279 (by decide)
        · exact absurd c_1262 (by decide)
set_option maxHeartbeats 4000000 in
set_option maxRecDepth 100000 in
theorem LW_sand100 (g : zG) (a pa pa1 pa2 pa3 ta ta1 ta2 taz taz1 taz2 taz3 taz4 taz5 taz6 ta4 ta5 ta6 sa sa1 sa2 saz saz1 saz2 saz3 saz4 saz5 saz6 sa4 sa5 sa6 gs co co1 co2 co3 fu fub fubg fut1 fut2 fut3 la lab labg gy gyg du dug re wm ac m mp mf mh mn mt mz mc_ mq mgr ml mi mr mm mu mk mx o1 o2 : Nat) (hL : g.2.2 41 = 7) (e1 : zc g 1 = 100) (w0 : zW) (n : Nat) : DV g M_Lw_law (lwP) w0 n 1229 [(5, .int 0), (4, .ref o2), (3, .ref o1), (2, .ref m), (1, .ref a), (0, .ref (g.2.2 40))] [] (lwCS g a pa pa1 pa2 pa3 ta ta1 ta2 taz taz1 taz2 taz3 taz4 taz5 taz6 ta4 ta5 ta6 sa sa1 sa2 saz saz1 saz2 saz3 saz4 saz5 saz6 sa4 sa5 sa6 gs co co1 co2 co3 fu fub fubg fut1 fut2 fut3 la lab labg gy gyg du dug re wm ac m mp mf mh mn mt mz mc_ mq mgr ml mi mr mm mu mk mx o1 o2) 100 1000 := by
  refine r_aload_n d_Lw_law_1229 rfl 4 rfl ?_
  refine r_aload_n d_Lw_law_1230 rfl 5 rfl ?_
  refine r_iload d_Lw_law_1231 0 rfl ?_
  refine r_iconst d_Lw_law_1233 (v := 1) (by decide) ?_
  refine r_iadd d_Lw_law_1234 (v := 1) rfl ?_
  refine r_sld (v := zs g 1) d_Lw_law_1235 (by rw [hL]; exact fun q => q.elim (by decide) (by decide)) rfl ?_
  refine r_i2c d_Lw_law_1236 (v := 100) e1 ?_
  refine r_aload_n d_Lw_law_1237 rfl 2 rfl ?_
  refine r_callSX (As := [.ref a, .int 100, .ref o1]) (rest := []) (csC := [(a, .inr (11, [.ref pa, .ref ta, .ref sa, .ref gs, .ref co, .ref fu, .ref la, .ref gy, .ref du, .ref re, .ref wm, .ref ac])), (gs, .inr (4, [.int 80, .int 35, .int 30, .int 50, .int 0])), (o1, .inl (3, 1, .inr (.inl (fun _ => 0))))]) (is := [0, 31, 69]) ln_Lw_235 w_st_Lw_sand ok_Lw_law_Lw_sand d_Lw_law_1238 (C_Lw_sand100 g a pa ta sa gs co fu la gy du re wm ac 80 35 30 50 0 o1 (fun _ => 0)) rfl rfl (Nat.le_of_ble_eq_true rfl) rfl (by decide) (by omega) (by omega) (fun E cs1 hx => ?_) (fun v cs1 hx => ?_)
  · exact absurd hx.1 (by simp)
  · obtain ⟨e1, rfl⟩ := hx
    cases e1
    refine ⟨rfl, ?_⟩
    refine r_st (st2 := [.int 0]) rfl ?_
    refine r_istore (lv' := [(6, .int 0), (5, .int 0), (4, .ref o2), (3, .ref o1), (2, .ref m), (1, .ref a), (0, .ref (g.2.2 40))]) d_Lw_law_1241 (by decide) rfl ?_
    refine r_aload_n d_Lw_law_1243 rfl 4 rfl ?_
    refine r_aload_n d_Lw_law_1244 rfl 6 rfl ?_
    refine r_iload d_Lw_law_1245 1 rfl ?_
    refine r_iconst d_Lw_law_1247 (v := 1) (by decide) ?_
    refine r_iadd d_Lw_law_1248 (v := 1) rfl ?_
    refine r_sld (v := zs g 1) d_Lw_law_1249 (by rw [hL]; exact fun q => q.elim (by decide) (by decide)) rfl ?_
    refine r_i2c d_Lw_law_1250 (v := 100) e1 ?_
    refine r_callV (As := [.int 100]) (rest := []) (csC := [(m, .inr (12, [.int 0, .ref mp, .int 4, .ref mf, .ref mh, .ref mn, .ref mt, .ref mz, .ref mc_, .ref mq, .ref mgr, .int 80, .int 35, .int 30, .int 50, .int 0, .int 0, .ref ml, .ref mi, .ref mr, .int 0, .int 0, .int 0, .int (-1), .int 0, .ref mm, .ref mu, .ref mk, .ref mx, .long 0, .long 0]))]) (is := [52]) (q0 := 52) rfl rfl ln_Lw_238 w_im_Mm_sand w_se_Mm_sand ok_Lw_law_Mm_sand d_Lw_law_1251 (C_Mm_sand100 g m mp mf mh mn mt mz mc_ mq mgr ml mi mr mm mu mk mx 0 4 80 35 30 50 0 0 0 0 0 (-1) 0 0 0) rfl rfl (Nat.le_of_ble_eq_true rfl) rfl (by decide) (by omega) (by omega) (fun E cs1 hx => ?_) (fun v cs1 hx => ?_)
    · exact absurd hx.1 (by simp)
    · obtain ⟨e1, rfl⟩ := hx
      cases e1
      refine ⟨rfl, ?_⟩
      refine r_st (st2 := [.int (S_Mm_draught m mp mf mh mn mt mz mc_ mq mgr ml mi mr mm mu mk mx 0 4 80 35 30 50 0 0 0 0 0 (-1) 0 0 0)]) rfl ?_
      refine r_istore (lv' := [(7, .int (S_Mm_draught m mp mf mh mn mt mz mc_ mq mgr ml mi mr mm mu mk mx 0 4 80 35 30 50 0 0 0 0 0 (-1) 0 0 0)), (6, .int 0), (5, .int 0), (4, .ref o2), (3, .ref o1), (2, .ref m), (1, .ref a), (0, .ref (g.2.2 40))]) d_Lw_law_1254 (by decide) rfl ?_
      refine r_aload_n d_Lw_law_1256 rfl 5 rfl ?_
      refine r_callV (As := []) (rest := []) (csC := [(m, .inr (12, [.int 0, .ref mp, .int 4, .ref mf, .ref mh, .ref mn, .ref mt, .ref mz, .ref mc_, .ref mq, .ref mgr, .int 80, .int 35, .int 30, .int 50, .int 0, .int 0, .ref ml, .ref mi, .ref mr, .int 0, .int 0, .int 0, .int (-1), .int 0, .ref mm, .ref mu, .ref mk, .ref mx, .long 0, .long 0]))]) (is := [52]) (q0 := 52) rfl rfl ln_Lw_175 w_im_Mm_thrown w_se_Mm_thrown ok_Lw_law_Mm_thrown d_Lw_law_1257 (C_Mm_thrown g m mp mf mh mn mt mz mc_ mq mgr ml mi mr mm mu mk mx 0 4 80 35 30 50 0 0 0 0 0 (-1) 0 0 0) rfl rfl (Nat.le_of_ble_eq_true rfl) rfl (by decide) (by omega) (by omega) (fun E cs1 hx => ?_) (fun v cs1 hx => ?_)
      · exact absurd hx.1 (by simp)
      · obtain ⟨e1, rfl⟩ := hx
        cases e1
        refine ⟨rfl, ?_⟩
        refine r_st (st2 := [.int 0]) rfl ?_
        refine r_iload d_Lw_law_1260 1 rfl ?_
        refine r_icmp_eq (tgt := 1267) d_Lw_law_1262 (by decide) (fun c_1262 => ?_) (fun c_1262 => ?_)
        · refine r_iload d_Lw_law_1267 1 rfl ?_
          refine r_if_ne (tgt := 1284) d_Lw_law_1269 (by decide) (fun c_1269 => ?_) (fun c_1269 => ?_)
          · exact absurd c_1269 (by decide)
          · refine r_aload_n d_Lw_law_1272 rfl 4 rfl ?_
            refine r_iconst d_Lw_law_1273 (v := 0) (by decide) ?_
            refine r_lald d_Lw_law_1274 (q0 := 69) rfl (fun q => q.elim (by decide) (by decide)) (v := (vp_updL (fun _ => 0) 0 ((S_GS_draught gs 80 35 30 50 0)).toInt64) 0) rfl ?_
            refine r_iload d_Lw_law_1275 0 rfl ?_
            refine r_i2l d_Lw_law_1277 (v := (S_Mm_draught m mp mf mh mn mt mz mc_ mq mgr ml mi mr mm mu mk mx 0 4 80 35 30 50 0 0 0 0 0 (-1) 0 0 0).toInt64) rfl ?_
            refine r_lcmp d_Lw_law_1278 (v := 0) (zl_cmp (rfl)) ?_
            refine r_if_eq (tgt := 1284) d_Lw_law_1279 (by decide) (fun c_1279 => ?_) (fun c_1279 => ?_)
            · refine r_goto (tgt := 3019) d_Lw_law_1284 (by decide) ?_
              refine r_lv (lv' := [(5, .int 0), (0, .ref (g.2.2 40))]) [2, 7] rfl ?_
              exact LW_tail g _ hL _ _ w0 n
            · exact absurd c_1279 (by decide)
        · exact absurd c_1262 (by decide)
theorem d_Lw_law_1287 : decode code 1287 = .ok (.aload_n 1, 1) := by decide +kernel
theorem d_Lw_law_1288 : decode code 1288 = .ok (.aload_n 0, 1) := by decide +kernel
theorem d_Lw_law_1289 : decode code 1289 = .ok (.iload 5, 2) := by decide +kernel
theorem d_Lw_law_1291 : decode code 1291 = .ok (.iconst 1, 1) := by decide +kernel
theorem d_Lw_law_1292 : decode code 1292 = .ok (.iadd, 1) := by decide +kernel
theorem d_Lw_law_1293 : decode code 1293 = .ok (.iaload, 1) := by decide +kernel
theorem d_Lw_law_1294 : decode code 1294 = .ok (.aload_n 0, 1) := by decide +kernel
theorem d_Lw_law_1295 : decode code 1295 = .ok (.iload 5, 2) := by decide +kernel
theorem d_Lw_law_1297 : decode code 1297 = .ok (.iconst 2, 1) := by decide +kernel
theorem d_Lw_law_1298 : decode code 1298 = .ok (.iadd, 1) := by decide +kernel
theorem d_Lw_law_1299 : decode code 1299 = .ok (.iaload, 1) := by decide +kernel
theorem d_Lw_law_1300 : decode code 1300 = .ok (.aload_n 3, 1) := by decide +kernel
theorem d_Lw_law_1301 : decode code 1301 = .ok (.invokestatic 239, 3) := by decide +kernel
theorem ok_Lw_law_Lw_makeCores : z_okX M_Lw_law M_Lw_makeCores 4 := ⟨z_mem (i := 980) (by decide +kernel) (by decide +kernel), by decide, ⟨by decide +kernel, by decide +kernel, by decide +kernel⟩, ⟨by decide, by decide⟩, z_mem (i := 57) (by decide +kernel) (by decide +kernel), rfl⟩
theorem ln_Lw_239 : Cond.methodLink "IronpourLaw" 239 M_Lw_makeCores.1 ∈ z_gw := z_mem (i := 978) (by decide +kernel) (by decide +kernel)
theorem w_st_Lw_makeCores : Cond.static M_Lw_makeCores.1 ∈ z_gw := z_mem (i := 979) (by decide +kernel) (by decide +kernel)
theorem d_Lw_law_1304 : decode code 1304 = .ok (.istore 6, 2) := by decide +kernel
theorem d_Lw_law_1306 : decode code 1306 = .ok (.aload_n 2, 1) := by decide +kernel
theorem d_Lw_law_1307 : decode code 1307 = .ok (.aload_n 0, 1) := by decide +kernel
theorem d_Lw_law_1308 : decode code 1308 = .ok (.iload 5, 2) := by decide +kernel
theorem d_Lw_law_1310 : decode code 1310 = .ok (.iconst 1, 1) := by decide +kernel
theorem d_Lw_law_1311 : decode code 1311 = .ok (.iadd, 1) := by decide +kernel
theorem d_Lw_law_1312 : decode code 1312 = .ok (.iaload, 1) := by decide +kernel
theorem d_Lw_law_1313 : decode code 1313 = .ok (.aload_n 0, 1) := by decide +kernel
theorem d_Lw_law_1314 : decode code 1314 = .ok (.iload 5, 2) := by decide +kernel
theorem d_Lw_law_1316 : decode code 1316 = .ok (.iconst 2, 1) := by decide +kernel
theorem d_Lw_law_1317 : decode code 1317 = .ok (.iadd, 1) := by decide +kernel
theorem d_Lw_law_1318 : decode code 1318 = .ok (.iaload, 1) := by decide +kernel
theorem d_Lw_law_1319 : decode code 1319 = .ok (.invokevirtual 241, 3) := by decide +kernel
theorem ok_Lw_law_Mm_makeCores : z_ok M_Lw_law M_Mm_makeCores 2 := ⟨z_mem (i := 1860) (by decide +kernel) (by decide +kernel), rfl, ⟨by decide +kernel, by decide +kernel, by decide +kernel⟩, ⟨by decide, by decide⟩, z_mem (i := 71) (by decide +kernel) (by decide +kernel), rfl⟩
theorem ln_Lw_241 : Cond.methodLink "IronpourLaw" 241 M_Mm_makeCores.1 ∈ z_gw := z_mem (i := 1857) (by decide +kernel) (by decide +kernel)
theorem w_im_Mm_makeCores : Cond.instanceMethod M_Mm_makeCores.1 ∈ z_gw := z_mem (i := 1858) (by decide +kernel) (by decide +kernel)
theorem w_se_Mm_makeCores : Cond.selects M_Mm_makeCores.1.cls M_Mm_makeCores.1 M_Mm_makeCores.1 ∈ z_gw := z_mem (i := 1859) (by decide +kernel) (by decide +kernel)
theorem d_Lw_law_1322 : decode code 1322 = .ok (.istore 7, 2) := by decide +kernel
theorem d_Lw_law_1324 : decode code 1324 = .ok (.aload_n 2, 1) := by decide +kernel
theorem d_Lw_law_1325 : decode code 1325 = .ok (.invokevirtual 175, 3) := by decide +kernel
theorem d_Lw_law_1328 : decode code 1328 = .ok (.iload 6, 2) := by decide +kernel
theorem d_Lw_law_1330 : decode code 1330 = .ok (.if_icmp .eq 5, 3) := by decide +kernel
theorem d_Lw_law_1335 : decode code 1335 = .ok (.iload 6, 2) := by decide +kernel
theorem d_Lw_law_1337 : decode code 1337 = .ok (.ifCond .ne 15, 3) := by decide +kernel
theorem d_Lw_law_1352 : decode code 1352 = .ok (.goto 1667, 3) := by decide +kernel
set_option maxHeartbeats 4000000 in
set_option maxRecDepth 100000 in
theorem LW_makeCoresE (g : zG) (a pa pa1 pa2 pa3 ta ta1 ta2 taz taz1 taz2 taz3 taz4 taz5 taz6 ta4 ta5 ta6 sa sa1 sa2 saz saz1 saz2 saz3 saz4 saz5 saz6 sa4 sa5 sa6 gs co co1 co2 co3 fu fub fubg fut1 fut2 fut3 la lab labg gy gyg du dug re wm ac m mp mf mh mn mt mz mc_ mq mgr ml mi mr mm mu mk mx o1 o2 : Nat) (hL : g.2.2 41 = 7) (hw : ¬ ((1 ≤ (zs g 1) ∧ (zs g 1) ≤ 10) ∧ (1 ≤ (zs g 2) ∧ (zs g 2) ≤ 24))) (w0 : zW) (n : Nat) : DV g M_Lw_law (lwP) w0 n 1287 [(5, .int 0), (4, .ref o2), (3, .ref o1), (2, .ref m), (1, .ref a), (0, .ref (g.2.2 40))] [] (lwCS g a pa pa1 pa2 pa3 ta ta1 ta2 taz taz1 taz2 taz3 taz4 taz5 taz6 ta4 ta5 ta6 sa sa1 sa2 saz saz1 saz2 saz3 saz4 saz5 saz6 sa4 sa5 sa6 gs co co1 co2 co3 fu fub fubg fut1 fut2 fut3 la lab labg gy gyg du dug re wm ac m mp mf mh mn mt mz mc_ mq mgr ml mi mr mm mu mk mx o1 o2) 100 1000 := by
  refine r_aload_n d_Lw_law_1287 rfl 4 rfl ?_
  refine r_aload_n d_Lw_law_1288 rfl 5 rfl ?_
  refine r_iload d_Lw_law_1289 0 rfl ?_
  refine r_iconst d_Lw_law_1291 (v := 1) (by decide) ?_
  refine r_iadd d_Lw_law_1292 (v := 1) rfl ?_
  refine r_sld (v := zs g 1) d_Lw_law_1293 (by rw [hL]; exact fun q => q.elim (by decide) (by decide)) rfl ?_
  refine r_aload_n d_Lw_law_1294 rfl 5 rfl ?_
  refine r_iload d_Lw_law_1295 0 rfl ?_
  refine r_iconst d_Lw_law_1297 (v := 2) (by decide) ?_
  refine r_iadd d_Lw_law_1298 (v := 2) rfl ?_
  refine r_sld (v := zs g 2) d_Lw_law_1299 (by rw [hL]; exact fun q => q.elim (by decide) (by decide)) rfl ?_
  refine r_aload_n d_Lw_law_1300 rfl 2 rfl ?_
  refine r_callSX (As := [.ref a, .int (zs g 1), .int (zs g 2), .ref o1]) (rest := []) (csC := [(a, .inr (11, [.ref pa, .ref ta, .ref sa, .ref gs, .ref co, .ref fu, .ref la, .ref gy, .ref du, .ref re, .ref wm, .ref ac])), (co, .inr (1, [.ref co1, .ref co2, .ref co3, .int (nI 0)])), (co1, .inl (0, 20, .inl (fun _ => 0))), (co2, .inl (0, 20, .inl (fun _ => 0))), (co3, .inl (0, 20, .inl (fun _ => 0))), (o1, .inl (3, 1, .inr (.inl (fun _ => 0))))]) (is := [0, 32, 33, 34, 35, 69]) ln_Lw_239 w_st_Lw_makeCores ok_Lw_law_Lw_makeCores d_Lw_law_1301 (C_Lw_makeCoresE g a pa ta sa gs co fu la gy du re wm ac co1 co2 co3 (fun _ => 0) (fun _ => 0) (fun _ => 0) 0 (by decide) (zs g 1) (zs g 2) hw o1 (fun _ => 0)) rfl rfl (Nat.le_of_ble_eq_true rfl) rfl (by decide) (by omega) (by omega) (fun E cs1 hx => ?_) (fun v cs1 hx => ?_)
  · exact absurd hx.1 (by simp)
  · obtain ⟨e1, rfl⟩ := hx
    cases e1
    refine ⟨rfl, ?_⟩
    refine r_st (st2 := [.int 1]) rfl ?_
    refine r_istore (lv' := [(6, .int 1), (5, .int 0), (4, .ref o2), (3, .ref o1), (2, .ref m), (1, .ref a), (0, .ref (g.2.2 40))]) d_Lw_law_1304 (by decide) rfl ?_
    refine r_aload_n d_Lw_law_1306 rfl 4 rfl ?_
    refine r_aload_n d_Lw_law_1307 rfl 6 rfl ?_
    refine r_iload d_Lw_law_1308 1 rfl ?_
    refine r_iconst d_Lw_law_1310 (v := 1) (by decide) ?_
    refine r_iadd d_Lw_law_1311 (v := 1) rfl ?_
    refine r_sld (v := zs g 1) d_Lw_law_1312 (by rw [hL]; exact fun q => q.elim (by decide) (by decide)) rfl ?_
    refine r_aload_n d_Lw_law_1313 rfl 6 rfl ?_
    refine r_iload d_Lw_law_1314 1 rfl ?_
    refine r_iconst d_Lw_law_1316 (v := 2) (by decide) ?_
    refine r_iadd d_Lw_law_1317 (v := 2) rfl ?_
    refine r_sld (v := zs g 2) d_Lw_law_1318 (by rw [hL]; exact fun q => q.elim (by decide) (by decide)) rfl ?_
    refine r_callV (As := [.int (zs g 1), .int (zs g 2)]) (rest := []) (csC := [(m, .inr (12, [.int 0, .ref mp, .int 4, .ref mf, .ref mh, .ref mn, .ref mt, .ref mz, .ref mc_, .ref mq, .ref mgr, .int 80, .int 35, .int 30, .int 50, .int 0, .int 0, .ref ml, .ref mi, .ref mr, .int 0, .int 0, .int 0, .int (-1), .int 0, .ref mm, .ref mu, .ref mk, .ref mx, .long 0, .long 0]))]) (is := [52]) (q0 := 52) rfl rfl ln_Lw_241 w_im_Mm_makeCores w_se_Mm_makeCores ok_Lw_law_Mm_makeCores d_Lw_law_1319 (C_Mm_makeCoresE g m mp mf mh mn mt mz mc_ mq mgr ml mi mr mm mu mk mx 0 4 80 35 30 50 0 0 0 0 0 (-1) 0 0 0 (zs g 1) (zs g 2) hw) rfl rfl (Nat.le_of_ble_eq_true rfl) rfl (by decide) (by omega) (by omega) (fun E cs1 hx => ?_) (fun v cs1 hx => ?_)
    · exact absurd hx.1 (by simp)
    · obtain ⟨e1, rfl⟩ := hx
      cases e1
      refine ⟨rfl, ?_⟩
      refine r_st (st2 := [.int 0]) rfl ?_
      refine r_istore (lv' := [(7, .int 0), (6, .int 1), (5, .int 0), (4, .ref o2), (3, .ref o1), (2, .ref m), (1, .ref a), (0, .ref (g.2.2 40))]) d_Lw_law_1322 (by decide) rfl ?_
      refine r_aload_n d_Lw_law_1324 rfl 5 rfl ?_
      refine r_callV (As := []) (rest := []) (csC := [(m, .inr (12, [.int 1, .ref mp, .int 4, .ref mf, .ref mh, .ref mn, .ref mt, .ref mz, .ref mc_, .ref mq, .ref mgr, .int 80, .int 35, .int 30, .int 50, .int 0, .int 0, .ref ml, .ref mi, .ref mr, .int 0, .int 0, .int 0, .int (-1), .int 0, .ref mm, .ref mu, .ref mk, .ref mx, .long 0, .long 0]))]) (is := [52]) (q0 := 52) rfl rfl ln_Lw_175 w_im_Mm_thrown w_se_Mm_thrown ok_Lw_law_Mm_thrown d_Lw_law_1325 (C_Mm_thrown g m mp mf mh mn mt mz mc_ mq mgr ml mi mr mm mu mk mx 1 4 80 35 30 50 0 0 0 0 0 (-1) 0 0 0) rfl rfl (Nat.le_of_ble_eq_true rfl) rfl (by decide) (by omega) (by omega) (fun E cs1 hx => ?_) (fun v cs1 hx => ?_)
      · exact absurd hx.1 (by simp)
      · obtain ⟨e1, rfl⟩ := hx
        cases e1
        refine ⟨rfl, ?_⟩
        refine r_st (st2 := [.int 1]) rfl ?_
        refine r_iload d_Lw_law_1328 1 rfl ?_
        refine r_icmp_eq (tgt := 1335) d_Lw_law_1330 (by decide) (fun c_1330 => ?_) (fun c_1330 => ?_)
        · refine r_iload d_Lw_law_1335 1 rfl ?_
          refine r_if_ne (tgt := 1352) d_Lw_law_1337 (by decide) (fun c_1337 => ?_) (fun c_1337 => ?_)
          · refine r_goto (tgt := 3019) d_Lw_law_1352 (by decide) ?_
            refine r_lv (lv' := [(5, .int 0), (0, .ref (g.2.2 40))]) [2, 7] rfl ?_
            exact LW_tail g _ hL _ _ w0 n
          · exact absurd c_1337 (by decide)
        · exact absurd c_1330 (by decide)
theorem d_Lw_law_1340 : decode code 1340 = .ok (.aload_n 3, 1) := by decide +kernel
theorem d_Lw_law_1341 : decode code 1341 = .ok (.iconst 0, 1) := by decide +kernel
theorem d_Lw_law_1342 : decode code 1342 = .ok (.laload, 1) := by decide +kernel
theorem d_Lw_law_1343 : decode code 1343 = .ok (.iload 7, 2) := by decide +kernel
theorem d_Lw_law_1345 : decode code 1345 = .ok (.i2l, 1) := by decide +kernel
theorem d_Lw_law_1346 : decode code 1346 = .ok (.lcmp, 1) := by decide +kernel
theorem d_Lw_law_1347 : decode code 1347 = .ok (.ifCond .eq 5, 3) := by decide +kernel
set_option maxHeartbeats 4000000 in
set_option maxRecDepth 100000 in
theorem LW_makeCoresN (g : zG) (a pa pa1 pa2 pa3 ta ta1 ta2 taz taz1 taz2 taz3 taz4 taz5 taz6 ta4 ta5 ta6 sa sa1 sa2 saz saz1 saz2 saz3 saz4 saz5 saz6 sa4 sa5 sa6 gs co co1 co2 co3 fu fub fubg fut1 fut2 fut3 la lab labg gy gyg du dug re wm ac m mp mf mh mn mt mz mc_ mq mgr ml mi mr mm mu mk mx o1 o2 : Nat) (hL : g.2.2 41 = 7) (hw : ((1 ≤ (zs g 1) ∧ (zs g 1) ≤ 10) ∧ (1 ≤ (zs g 2) ∧ (zs g 2) ≤ 24))) (w0 : zW) (n : Nat) : DV g M_Lw_law (lwP) w0 n 1287 [(5, .int 0), (4, .ref o2), (3, .ref o1), (2, .ref m), (1, .ref a), (0, .ref (g.2.2 40))] [] (lwCS g a pa pa1 pa2 pa3 ta ta1 ta2 taz taz1 taz2 taz3 taz4 taz5 taz6 ta4 ta5 ta6 sa sa1 sa2 saz saz1 saz2 saz3 saz4 saz5 saz6 sa4 sa5 sa6 gs co co1 co2 co3 fu fub fubg fut1 fut2 fut3 la lab labg gy gyg du dug re wm ac m mp mf mh mn mt mz mc_ mq mgr ml mi mr mm mu mk mx o1 o2) 100 1000 := by
  refine r_aload_n d_Lw_law_1287 rfl 4 rfl ?_
  refine r_aload_n d_Lw_law_1288 rfl 5 rfl ?_
  refine r_iload d_Lw_law_1289 0 rfl ?_
  refine r_iconst d_Lw_law_1291 (v := 1) (by decide) ?_
  refine r_iadd d_Lw_law_1292 (v := 1) rfl ?_
  refine r_sld (v := zs g 1) d_Lw_law_1293 (by rw [hL]; exact fun q => q.elim (by decide) (by decide)) rfl ?_
  refine r_aload_n d_Lw_law_1294 rfl 5 rfl ?_
  refine r_iload d_Lw_law_1295 0 rfl ?_
  refine r_iconst d_Lw_law_1297 (v := 2) (by decide) ?_
  refine r_iadd d_Lw_law_1298 (v := 2) rfl ?_
  refine r_sld (v := zs g 2) d_Lw_law_1299 (by rw [hL]; exact fun q => q.elim (by decide) (by decide)) rfl ?_
  refine r_aload_n d_Lw_law_1300 rfl 2 rfl ?_
  refine r_callSX (As := [.ref a, .int (zs g 1), .int (zs g 2), .ref o1]) (rest := []) (csC := [(a, .inr (11, [.ref pa, .ref ta, .ref sa, .ref gs, .ref co, .ref fu, .ref la, .ref gy, .ref du, .ref re, .ref wm, .ref ac])), (co, .inr (1, [.ref co1, .ref co2, .ref co3, .int (nI 0)])), (co1, .inl (0, 20, .inl (fun _ => 0))), (co2, .inl (0, 20, .inl (fun _ => 0))), (co3, .inl (0, 20, .inl (fun _ => 0))), (o1, .inl (3, 1, .inr (.inl (fun _ => 0))))]) (is := [0, 32, 33, 34, 35, 69]) ln_Lw_239 w_st_Lw_makeCores ok_Lw_law_Lw_makeCores d_Lw_law_1301 (C_Lw_makeCoresN g a pa ta sa gs co fu la gy du re wm ac co1 co2 co3 (fun _ => 0) (fun _ => 0) (fun _ => 0) 0 (by decide) (zs g 1) (zs g 2) hw (by decide) o1 (fun _ => 0)) rfl rfl (Nat.le_of_ble_eq_true rfl) rfl (by decide) (by omega) (by omega) (fun E cs1 hx => ?_) (fun v cs1 hx => ?_)
  · exact absurd hx.1 (by simp)
  · obtain ⟨e1, rfl⟩ := hx
    cases e1
    refine ⟨rfl, ?_⟩
    refine r_st (st2 := [.int 0]) rfl ?_
    refine r_istore (lv' := [(6, .int 0), (5, .int 0), (4, .ref o2), (3, .ref o1), (2, .ref m), (1, .ref a), (0, .ref (g.2.2 40))]) d_Lw_law_1304 (by decide) rfl ?_
    refine r_aload_n d_Lw_law_1306 rfl 4 rfl ?_
    refine r_aload_n d_Lw_law_1307 rfl 6 rfl ?_
    refine r_iload d_Lw_law_1308 1 rfl ?_
    refine r_iconst d_Lw_law_1310 (v := 1) (by decide) ?_
    refine r_iadd d_Lw_law_1311 (v := 1) rfl ?_
    refine r_sld (v := zs g 1) d_Lw_law_1312 (by rw [hL]; exact fun q => q.elim (by decide) (by decide)) rfl ?_
    refine r_aload_n d_Lw_law_1313 rfl 6 rfl ?_
    refine r_iload d_Lw_law_1314 1 rfl ?_
    refine r_iconst d_Lw_law_1316 (v := 2) (by decide) ?_
    refine r_iadd d_Lw_law_1317 (v := 2) rfl ?_
    refine r_sld (v := zs g 2) d_Lw_law_1318 (by rw [hL]; exact fun q => q.elim (by decide) (by decide)) rfl ?_
    refine r_callV (As := [.int (zs g 1), .int (zs g 2)]) (rest := []) (csC := [(m, .inr (12, [.int 0, .ref mp, .int 4, .ref mf, .ref mh, .ref mn, .ref mt, .ref mz, .ref mc_, .ref mq, .ref mgr, .int 80, .int 35, .int 30, .int 50, .int 0, .int 0, .ref ml, .ref mi, .ref mr, .int 0, .int 0, .int 0, .int (-1), .int 0, .ref mm, .ref mu, .ref mk, .ref mx, .long 0, .long 0])), (ml, .inr (13, [.int 0, .ref (g.2.2 4), .int 0]))]) (is := [52, 62]) (q0 := 52) rfl rfl ln_Lw_241 w_im_Mm_makeCores w_se_Mm_makeCores ok_Lw_law_Mm_makeCores d_Lw_law_1319 (C_Mm_makeCores0 g m mp mf mh mn mt mz mc_ mq mgr ml mi mr mm mu mk mx 0 4 80 35 30 50 0 0 0 0 0 (-1) 0 0 0 (zs g 1) (zs g 2) 0 hw) rfl rfl (Nat.le_of_ble_eq_true rfl) rfl (by decide) (by omega) (by omega) (fun E cs1 hx => ?_) (fun v cs1 hx => ?_)
    · obtain ⟨lo, q, e1, -⟩ := hx
      cases e1
    · obtain ⟨lo, q, e1, rfl⟩ := hx
      cases e1
      refine ⟨rfl, ?_⟩
      refine r_st (st2 := [.int (zs g 1)]) rfl ?_
      refine r_istore (lv' := [(7, .int (zs g 1)), (6, .int 0), (5, .int 0), (4, .ref o2), (3, .ref o1), (2, .ref m), (1, .ref a), (0, .ref (g.2.2 40))]) d_Lw_law_1322 (by decide) rfl ?_
      refine r_aload_n d_Lw_law_1324 rfl 5 rfl ?_
      refine r_callV (As := []) (rest := []) (csC := [(m, .inr (12, [.int 0, .ref mp, .int 4, .ref mf, .ref mh, .ref mn, .ref mt, .ref mz, .ref mc_, .ref mq, .ref mgr, .int 80, .int 35, .int 30, .int 50, .int 0, .int 0, .ref ml, .ref mi, .ref mr, .int 0, .int 0, .int 0, .int (-1), .int 0, .ref mm, .ref mu, .ref mk, .ref mx, .long 0, .long 0]))]) (is := [52]) (q0 := 52) rfl rfl ln_Lw_175 w_im_Mm_thrown w_se_Mm_thrown ok_Lw_law_Mm_thrown d_Lw_law_1325 (C_Mm_thrown g m mp mf mh mn mt mz mc_ mq mgr ml mi mr mm mu mk mx 0 4 80 35 30 50 0 0 0 0 0 (-1) 0 0 0) rfl rfl (Nat.le_of_ble_eq_true rfl) rfl (by decide) (by omega) (by omega) (fun E cs1 hx => ?_) (fun v cs1 hx => ?_)
      · exact absurd hx.1 (by simp)
      · obtain ⟨e1, rfl⟩ := hx
        cases e1
        refine ⟨rfl, ?_⟩
        refine r_st (st2 := [.int 0]) rfl ?_
        refine r_iload d_Lw_law_1328 1 rfl ?_
        refine r_icmp_eq (tgt := 1335) d_Lw_law_1330 (by decide) (fun c_1330 => ?_) (fun c_1330 => ?_)
        · refine r_iload d_Lw_law_1335 1 rfl ?_
          refine r_if_ne (tgt := 1352) d_Lw_law_1337 (by decide) (fun c_1337 => ?_) (fun c_1337 => ?_)
          · exact absurd c_1337 (by decide)
          · refine r_aload_n d_Lw_law_1340 rfl 4 rfl ?_
            refine r_iconst d_Lw_law_1341 (v := 0) (by decide) ?_
            refine r_lald d_Lw_law_1342 (q0 := 69) rfl (fun q => q.elim (by decide) (by decide)) (v := (vp_updL (fun _ => 0) 0 ((bx_sum (upd (fun _ => 0) 0 (zs g 1)) (0 + 1))).toInt64) 0) rfl ?_
            refine r_iload d_Lw_law_1343 0 rfl ?_
            refine r_i2l d_Lw_law_1345 (v := (zs g 1).toInt64) rfl ?_
            refine r_lcmp d_Lw_law_1346 (v := 0) (zl_cmp (by show (0 : Int32) + zs g 1 = zs g 1; exact Int32.zero_add _)) ?_
            refine r_if_eq (tgt := 1352) d_Lw_law_1347 (by decide) (fun c_1347 => ?_) (fun c_1347 => ?_)
            · refine r_goto (tgt := 3019) d_Lw_law_1352 (by decide) ?_
              refine r_lv (lv' := [(5, .int 0), (0, .ref (g.2.2 40))]) [2, 7] rfl ?_
              exact LW_tail g _ hL _ _ w0 n
            · exact absurd c_1347 (by decide)
        · exact absurd c_1330 (by decide)
theorem d_Lw_law_1355 : decode code 1355 = .ok (.aload_n 1, 1) := by decide +kernel
theorem d_Lw_law_1356 : decode code 1356 = .ok (.invokevirtual 242, 3) := by decide +kernel
theorem ok_Lw_law_Ip_goodCores : z_ok M_Lw_law M_Ip_goodCores 0 := ⟨z_mem (i := 453) (by decide +kernel) (by decide +kernel), rfl, ⟨by decide +kernel, by decide +kernel, by decide +kernel⟩, ⟨by decide, by decide⟩, z_mem (i := 58) (by decide +kernel) (by decide +kernel), rfl⟩
theorem ln_Lw_242 : Cond.methodLink "IronpourLaw" 242 M_Ip_goodCores.1 ∈ z_gw := z_mem (i := 450) (by decide +kernel) (by decide +kernel)
theorem w_im_Ip_goodCores : Cond.instanceMethod M_Ip_goodCores.1 ∈ z_gw := z_mem (i := 451) (by decide +kernel) (by decide +kernel)
theorem w_se_Ip_goodCores : Cond.selects M_Ip_goodCores.1.cls M_Ip_goodCores.1 M_Ip_goodCores.1 ∈ z_gw := z_mem (i := 452) (by decide +kernel) (by decide +kernel)
theorem d_Lw_law_1359 : decode code 1359 = .ok (.aload_n 2, 1) := by decide +kernel
theorem d_Lw_law_1360 : decode code 1360 = .ok (.invokevirtual 245, 3) := by decide +kernel
theorem ok_Lw_law_Mm_goodCores : z_ok M_Lw_law M_Mm_goodCores 0 := ⟨z_mem (i := 1872) (by decide +kernel) (by decide +kernel), rfl, ⟨by decide +kernel, by decide +kernel, by decide +kernel⟩, ⟨by decide, by decide⟩, z_mem (i := 71) (by decide +kernel) (by decide +kernel), rfl⟩
theorem ln_Lw_245 : Cond.methodLink "IronpourLaw" 245 M_Mm_goodCores.1 ∈ z_gw := z_mem (i := 1869) (by decide +kernel) (by decide +kernel)
theorem w_im_Mm_goodCores : Cond.instanceMethod M_Mm_goodCores.1 ∈ z_gw := z_mem (i := 1870) (by decide +kernel) (by decide +kernel)
theorem w_se_Mm_goodCores : Cond.selects M_Mm_goodCores.1.cls M_Mm_goodCores.1 M_Mm_goodCores.1 ∈ z_gw := z_mem (i := 1871) (by decide +kernel) (by decide +kernel)
theorem d_Lw_law_1363 : decode code 1363 = .ok (.if_icmp .eq 1656, 3) := by decide +kernel
set_option maxHeartbeats 4000000 in
set_option maxRecDepth 100000 in
theorem LW_goodCores (g : zG) (a pa pa1 pa2 pa3 ta ta1 ta2 taz taz1 taz2 taz3 taz4 taz5 taz6 ta4 ta5 ta6 sa sa1 sa2 saz saz1 saz2 saz3 saz4 saz5 saz6 sa4 sa5 sa6 gs co co1 co2 co3 fu fub fubg fut1 fut2 fut3 la lab labg gy gyg du dug re wm ac m mp mf mh mn mt mz mc_ mq mgr ml mi mr mm mu mk mx o1 o2 : Nat) (hL : g.2.2 41 = 7) (w0 : zW) (n : Nat) : DV g M_Lw_law (lwP) w0 n 1355 [(5, .int 0), (4, .ref o2), (3, .ref o1), (2, .ref m), (1, .ref a), (0, .ref (g.2.2 40))] [] (lwCS g a pa pa1 pa2 pa3 ta ta1 ta2 taz taz1 taz2 taz3 taz4 taz5 taz6 ta4 ta5 ta6 sa sa1 sa2 saz saz1 saz2 saz3 saz4 saz5 saz6 sa4 sa5 sa6 gs co co1 co2 co3 fu fub fubg fut1 fut2 fut3 la lab labg gy gyg du dug re wm ac m mp mf mh mn mt mz mc_ mq mgr ml mi mr mm mu mk mx o1 o2) 100 1000 := by
  refine r_aload_n d_Lw_law_1355 rfl 4 rfl ?_
  refine r_callV (As := []) (rest := []) (csC := [(a, .inr (11, [.ref pa, .ref ta, .ref sa, .ref gs, .ref co, .ref fu, .ref la, .ref gy, .ref du, .ref re, .ref wm, .ref ac])), (co, .inr (1, [.ref co1, .ref co2, .ref co3, .int (nI 0)])), (co1, .inl (0, 20, .inl (fun _ => 0))), (co2, .inl (0, 20, .inl (fun _ => 0))), (co3, .inl (0, 20, .inl (fun _ => 0)))]) (is := [0, 32, 33, 34, 35]) (q0 := 0) rfl rfl ln_Lw_242 w_im_Ip_goodCores w_se_Ip_goodCores ok_Lw_law_Ip_goodCores d_Lw_law_1356 (C_Ip_goodCores g a pa ta sa gs co fu la gy du re wm ac co1 co2 co3 (fun _ => 0) (fun _ => 0) (fun _ => 0) 0 (by decide)) rfl rfl (Nat.le_of_ble_eq_true rfl) rfl (by decide) (by omega) (by omega) (fun E cs1 hx => ?_) (fun v cs1 hx => ?_)
  · exact absurd hx.1 (by simp)
  · obtain ⟨e1, rfl⟩ := hx
    cases e1
    refine ⟨rfl, ?_⟩
    refine r_st (st2 := [.int (bx_sum (fun k => if gdB (fun _ => 0) (fun _ => 0) k then (fun _ => 0) k else 0) 0)]) rfl ?_
    refine r_aload_n d_Lw_law_1359 rfl 3 rfl ?_
    refine r_callV (As := []) (rest := [.int (bx_sum (fun k => if gdB (fun _ => 0) (fun _ => 0) k then (fun _ => 0) k else 0) 0)]) (csC := [(m, .inr (12, [.int 0, .ref mp, .int 4, .ref mf, .ref mh, .ref mn, .ref mt, .ref mz, .ref mc_, .ref mq, .ref mgr, .int 80, .int 35, .int 30, .int 50, .int 0, .int 0, .ref ml, .ref mi, .ref mr, .int 0, .int 0, .int 0, .int (-1), .int 0, .ref mm, .ref mu, .ref mk, .ref mx, .long 0, .long 0])), (ml, .inr (13, [.int 0, .ref (g.2.2 4), .int 0]))]) (is := [52, 62]) (q0 := 52) rfl rfl ln_Lw_245 w_im_Mm_goodCores w_se_Mm_goodCores ok_Lw_law_Mm_goodCores d_Lw_law_1360 (C_Mm_goodCores0 g m mp mf mh mn mt mz mc_ mq mgr ml mi mr mm mu mk mx 0 4 80 35 30 50 0 0 0 0 0 (-1) 0 0 0 0 (g.2.2 4)) rfl rfl (Nat.le_of_ble_eq_true rfl) rfl (by decide) (by omega) (by omega) (fun E cs1 hx => ?_) (fun v cs1 hx => ?_)
    · exact absurd hx.1 (by simp)
    · obtain ⟨e1, rfl⟩ := hx
      cases e1
      refine ⟨rfl, ?_⟩
      refine r_st (st2 := [.int 0, .int (bx_sum (fun k => if gdB (fun _ => 0) (fun _ => 0) k then (fun _ => 0) k else 0) 0)]) rfl ?_
      refine r_icmp_eq (tgt := 3019) d_Lw_law_1363 (by decide) (fun c_1363 => ?_) (fun c_1363 => ?_)
      · refine r_lv (lv' := [(5, .int 0), (0, .ref (g.2.2 40))]) [0, 5] rfl ?_
        exact LW_tail g _ hL _ _ w0 n
      · exact absurd (rfl) c_1363
theorem d_Lw_law_1368 : decode code 1368 = .ok (.aload_n 1, 1) := by decide +kernel
theorem d_Lw_law_1369 : decode code 1369 = .ok (.aload_n 0, 1) := by decide +kernel
theorem d_Lw_law_1370 : decode code 1370 = .ok (.iload 5, 2) := by decide +kernel
theorem d_Lw_law_1372 : decode code 1372 = .ok (.iconst 1, 1) := by decide +kernel
theorem d_Lw_law_1373 : decode code 1373 = .ok (.iadd, 1) := by decide +kernel
theorem d_Lw_law_1374 : decode code 1374 = .ok (.iaload, 1) := by decide +kernel
theorem d_Lw_law_1375 : decode code 1375 = .ok (.aload_n 3, 1) := by decide +kernel
theorem d_Lw_law_1376 : decode code 1376 = .ok (.invokestatic 246, 3) := by decide +kernel
theorem ok_Lw_law_Lw_hours : z_okX M_Lw_law M_Lw_hours 3 := ⟨z_mem (i := 1017) (by decide +kernel) (by decide +kernel), by decide, ⟨by decide +kernel, by decide +kernel, by decide +kernel⟩, ⟨by decide, by decide⟩, z_mem (i := 57) (by decide +kernel) (by decide +kernel), rfl⟩
theorem ln_Lw_246 : Cond.methodLink "IronpourLaw" 246 M_Lw_hours.1 ∈ z_gw := z_mem (i := 1015) (by decide +kernel) (by decide +kernel)
theorem w_st_Lw_hours : Cond.static M_Lw_hours.1 ∈ z_gw := z_mem (i := 1016) (by decide +kernel) (by decide +kernel)
theorem d_Lw_law_1379 : decode code 1379 = .ok (.istore 6, 2) := by decide +kernel
theorem d_Lw_law_1381 : decode code 1381 = .ok (.aload_n 2, 1) := by decide +kernel
theorem d_Lw_law_1382 : decode code 1382 = .ok (.aload_n 0, 1) := by decide +kernel
theorem d_Lw_law_1383 : decode code 1383 = .ok (.iload 5, 2) := by decide +kernel
theorem d_Lw_law_1385 : decode code 1385 = .ok (.iconst 1, 1) := by decide +kernel
theorem d_Lw_law_1386 : decode code 1386 = .ok (.iadd, 1) := by decide +kernel
theorem d_Lw_law_1387 : decode code 1387 = .ok (.iaload, 1) := by decide +kernel
theorem d_Lw_law_1388 : decode code 1388 = .ok (.invokevirtual 248, 3) := by decide +kernel
theorem ok_Lw_law_Mm_hours : z_ok M_Lw_law M_Mm_hours 1 := ⟨z_mem (i := 1880) (by decide +kernel) (by decide +kernel), rfl, ⟨by decide +kernel, by decide +kernel, by decide +kernel⟩, ⟨by decide, by decide⟩, z_mem (i := 71) (by decide +kernel) (by decide +kernel), rfl⟩
theorem ln_Lw_248 : Cond.methodLink "IronpourLaw" 248 M_Mm_hours.1 ∈ z_gw := z_mem (i := 1877) (by decide +kernel) (by decide +kernel)
theorem w_im_Mm_hours : Cond.instanceMethod M_Mm_hours.1 ∈ z_gw := z_mem (i := 1878) (by decide +kernel) (by decide +kernel)
theorem w_se_Mm_hours : Cond.selects M_Mm_hours.1.cls M_Mm_hours.1 M_Mm_hours.1 ∈ z_gw := z_mem (i := 1879) (by decide +kernel) (by decide +kernel)
theorem d_Lw_law_1391 : decode code 1391 = .ok (.istore 7, 2) := by decide +kernel
theorem d_Lw_law_1393 : decode code 1393 = .ok (.aload_n 2, 1) := by decide +kernel
theorem d_Lw_law_1394 : decode code 1394 = .ok (.invokevirtual 175, 3) := by decide +kernel
theorem d_Lw_law_1397 : decode code 1397 = .ok (.iload 6, 2) := by decide +kernel
theorem d_Lw_law_1399 : decode code 1399 = .ok (.if_icmp .eq 5, 3) := by decide +kernel
theorem d_Lw_law_1404 : decode code 1404 = .ok (.iload 6, 2) := by decide +kernel
theorem d_Lw_law_1406 : decode code 1406 = .ok (.ifCond .ne 15, 3) := by decide +kernel
theorem d_Lw_law_1421 : decode code 1421 = .ok (.goto 1598, 3) := by decide +kernel
set_option maxHeartbeats 4000000 in
set_option maxRecDepth 100000 in
theorem LW_hoursE (g : zG) (a pa pa1 pa2 pa3 ta ta1 ta2 taz taz1 taz2 taz3 taz4 taz5 taz6 ta4 ta5 ta6 sa sa1 sa2 saz saz1 saz2 saz3 saz4 saz5 saz6 sa4 sa5 sa6 gs co co1 co2 co3 fu fub fubg fut1 fut2 fut3 la lab labg gy gyg du dug re wm ac m mp mf mh mn mt mz mc_ mq mgr ml mi mr mm mu mk mx o1 o2 : Nat) (hL : g.2.2 41 = 7) (hw : ¬ (1 ≤ (zs g 1) ∧ (zs g 1) ≤ 48)) (w0 : zW) (n : Nat) : DV g M_Lw_law (lwP) w0 n 1368 [(5, .int 0), (4, .ref o2), (3, .ref o1), (2, .ref m), (1, .ref a), (0, .ref (g.2.2 40))] [] (lwCS g a pa pa1 pa2 pa3 ta ta1 ta2 taz taz1 taz2 taz3 taz4 taz5 taz6 ta4 ta5 ta6 sa sa1 sa2 saz saz1 saz2 saz3 saz4 saz5 saz6 sa4 sa5 sa6 gs co co1 co2 co3 fu fub fubg fut1 fut2 fut3 la lab labg gy gyg du dug re wm ac m mp mf mh mn mt mz mc_ mq mgr ml mi mr mm mu mk mx o1 o2) 100 1000 := by
  refine r_aload_n d_Lw_law_1368 rfl 4 rfl ?_
  refine r_aload_n d_Lw_law_1369 rfl 5 rfl ?_
  refine r_iload d_Lw_law_1370 0 rfl ?_
  refine r_iconst d_Lw_law_1372 (v := 1) (by decide) ?_
  refine r_iadd d_Lw_law_1373 (v := 1) rfl ?_
  refine r_sld (v := zs g 1) d_Lw_law_1374 (by rw [hL]; exact fun q => q.elim (by decide) (by decide)) rfl ?_
  refine r_aload_n d_Lw_law_1375 rfl 2 rfl ?_
  refine r_callSX (As := [.ref a, .int (zs g 1), .ref o1]) (rest := []) (csC := [(a, .inr (11, [.ref pa, .ref ta, .ref sa, .ref gs, .ref co, .ref fu, .ref la, .ref gy, .ref du, .ref re, .ref wm, .ref ac])), (co, .inr (1, [.ref co1, .ref co2, .ref co3, .int (nI 0)])), (co1, .inl (0, 20, .inl (fun _ => 0))), (co2, .inl (0, 20, .inl (fun _ => 0))), (co3, .inl (0, 20, .inl (fun _ => 0))), (o1, .inl (3, 1, .inr (.inl (fun _ => 0))))]) (is := [0, 32, 33, 34, 35, 69]) ln_Lw_246 w_st_Lw_hours ok_Lw_law_Lw_hours d_Lw_law_1376 (C_Lw_hoursE g a pa ta sa gs co fu la gy du re wm ac co1 co2 co3 (fun _ => 0) (fun _ => 0) (fun _ => 0) 0 (by decide) (zs g 1) hw o1 (fun _ => 0)) rfl rfl (Nat.le_of_ble_eq_true rfl) rfl (by decide) (by omega) (by omega) (fun E cs1 hx => ?_) (fun v cs1 hx => ?_)
  · exact absurd hx.1 (by simp)
  · obtain ⟨e1, rfl⟩ := hx
    cases e1
    refine ⟨rfl, ?_⟩
    refine r_st (st2 := [.int 1]) rfl ?_
    refine r_istore (lv' := [(6, .int 1), (5, .int 0), (4, .ref o2), (3, .ref o1), (2, .ref m), (1, .ref a), (0, .ref (g.2.2 40))]) d_Lw_law_1379 (by decide) rfl ?_
    refine r_aload_n d_Lw_law_1381 rfl 4 rfl ?_
    refine r_aload_n d_Lw_law_1382 rfl 6 rfl ?_
    refine r_iload d_Lw_law_1383 1 rfl ?_
    refine r_iconst d_Lw_law_1385 (v := 1) (by decide) ?_
    refine r_iadd d_Lw_law_1386 (v := 1) rfl ?_
    refine r_sld (v := zs g 1) d_Lw_law_1387 (by rw [hL]; exact fun q => q.elim (by decide) (by decide)) rfl ?_
    refine r_callV (As := [.int (zs g 1)]) (rest := []) (csC := [(m, .inr (12, [.int 0, .ref mp, .int 4, .ref mf, .ref mh, .ref mn, .ref mt, .ref mz, .ref mc_, .ref mq, .ref mgr, .int 80, .int 35, .int 30, .int 50, .int 0, .int 0, .ref ml, .ref mi, .ref mr, .int 0, .int 0, .int 0, .int (-1), .int 0, .ref mm, .ref mu, .ref mk, .ref mx, .long 0, .long 0]))]) (is := [52]) (q0 := 52) rfl rfl ln_Lw_248 w_im_Mm_hours w_se_Mm_hours ok_Lw_law_Mm_hours d_Lw_law_1388 (C_Mm_hoursE g m mp mf mh mn mt mz mc_ mq mgr ml mi mr mm mu mk mx 0 4 80 35 30 50 0 0 0 0 0 (-1) 0 0 0 (zs g 1) hw) rfl rfl (Nat.le_of_ble_eq_true rfl) rfl (by decide) (by omega) (by omega) (fun E cs1 hx => ?_) (fun v cs1 hx => ?_)
    · exact absurd hx.1 (by simp)
    · obtain ⟨e1, rfl⟩ := hx
      cases e1
      refine ⟨rfl, ?_⟩
      refine r_st (st2 := [.int 0]) rfl ?_
      refine r_istore (lv' := [(7, .int 0), (6, .int 1), (5, .int 0), (4, .ref o2), (3, .ref o1), (2, .ref m), (1, .ref a), (0, .ref (g.2.2 40))]) d_Lw_law_1391 (by decide) rfl ?_
      refine r_aload_n d_Lw_law_1393 rfl 5 rfl ?_
      refine r_callV (As := []) (rest := []) (csC := [(m, .inr (12, [.int 1, .ref mp, .int 4, .ref mf, .ref mh, .ref mn, .ref mt, .ref mz, .ref mc_, .ref mq, .ref mgr, .int 80, .int 35, .int 30, .int 50, .int 0, .int 0, .ref ml, .ref mi, .ref mr, .int 0, .int 0, .int 0, .int (-1), .int 0, .ref mm, .ref mu, .ref mk, .ref mx, .long 0, .long 0]))]) (is := [52]) (q0 := 52) rfl rfl ln_Lw_175 w_im_Mm_thrown w_se_Mm_thrown ok_Lw_law_Mm_thrown d_Lw_law_1394 (C_Mm_thrown g m mp mf mh mn mt mz mc_ mq mgr ml mi mr mm mu mk mx 1 4 80 35 30 50 0 0 0 0 0 (-1) 0 0 0) rfl rfl (Nat.le_of_ble_eq_true rfl) rfl (by decide) (by omega) (by omega) (fun E cs1 hx => ?_) (fun v cs1 hx => ?_)
      · exact absurd hx.1 (by simp)
      · obtain ⟨e1, rfl⟩ := hx
        cases e1
        refine ⟨rfl, ?_⟩
        refine r_st (st2 := [.int 1]) rfl ?_
        refine r_iload d_Lw_law_1397 1 rfl ?_
        refine r_icmp_eq (tgt := 1404) d_Lw_law_1399 (by decide) (fun c_1399 => ?_) (fun c_1399 => ?_)
        · refine r_iload d_Lw_law_1404 1 rfl ?_
          refine r_if_ne (tgt := 1421) d_Lw_law_1406 (by decide) (fun c_1406 => ?_) (fun c_1406 => ?_)
          · refine r_goto (tgt := 3019) d_Lw_law_1421 (by decide) ?_
            refine r_lv (lv' := [(5, .int 0), (0, .ref (g.2.2 40))]) [2, 7] rfl ?_
            exact LW_tail g _ hL _ _ w0 n
          · exact absurd c_1406 (by decide)
        · exact absurd c_1399 (by decide)
theorem d_Lw_law_1409 : decode code 1409 = .ok (.aload_n 3, 1) := by decide +kernel
theorem d_Lw_law_1410 : decode code 1410 = .ok (.iconst 0, 1) := by decide +kernel
theorem d_Lw_law_1411 : decode code 1411 = .ok (.laload, 1) := by decide +kernel
theorem d_Lw_law_1412 : decode code 1412 = .ok (.iload 7, 2) := by decide +kernel
theorem d_Lw_law_1414 : decode code 1414 = .ok (.i2l, 1) := by decide +kernel
theorem d_Lw_law_1415 : decode code 1415 = .ok (.lcmp, 1) := by decide +kernel
theorem d_Lw_law_1416 : decode code 1416 = .ok (.ifCond .eq 5, 3) := by decide +kernel
set_option maxHeartbeats 4000000 in
set_option maxRecDepth 100000 in
theorem LW_hoursN (g : zG) (a pa pa1 pa2 pa3 ta ta1 ta2 taz taz1 taz2 taz3 taz4 taz5 taz6 ta4 ta5 ta6 sa sa1 sa2 saz saz1 saz2 saz3 saz4 saz5 saz6 sa4 sa5 sa6 gs co co1 co2 co3 fu fub fubg fut1 fut2 fut3 la lab labg gy gyg du dug re wm ac m mp mf mh mn mt mz mc_ mq mgr ml mi mr mm mu mk mx o1 o2 : Nat) (hL : g.2.2 41 = 7) (hw : (1 ≤ (zs g 1) ∧ (zs g 1) ≤ 48)) (w0 : zW) (n : Nat) : DV g M_Lw_law (lwP) w0 n 1368 [(5, .int 0), (4, .ref o2), (3, .ref o1), (2, .ref m), (1, .ref a), (0, .ref (g.2.2 40))] [] (lwCS g a pa pa1 pa2 pa3 ta ta1 ta2 taz taz1 taz2 taz3 taz4 taz5 taz6 ta4 ta5 ta6 sa sa1 sa2 saz saz1 saz2 saz3 saz4 saz5 saz6 sa4 sa5 sa6 gs co co1 co2 co3 fu fub fubg fut1 fut2 fut3 la lab labg gy gyg du dug re wm ac m mp mf mh mn mt mz mc_ mq mgr ml mi mr mm mu mk mx o1 o2) 100 1000 := by
  refine r_aload_n d_Lw_law_1368 rfl 4 rfl ?_
  refine r_aload_n d_Lw_law_1369 rfl 5 rfl ?_
  refine r_iload d_Lw_law_1370 0 rfl ?_
  refine r_iconst d_Lw_law_1372 (v := 1) (by decide) ?_
  refine r_iadd d_Lw_law_1373 (v := 1) rfl ?_
  refine r_sld (v := zs g 1) d_Lw_law_1374 (by rw [hL]; exact fun q => q.elim (by decide) (by decide)) rfl ?_
  refine r_aload_n d_Lw_law_1375 rfl 2 rfl ?_
  refine r_callSX (As := [.ref a, .int (zs g 1), .ref o1]) (rest := []) (csC := [(a, .inr (11, [.ref pa, .ref ta, .ref sa, .ref gs, .ref co, .ref fu, .ref la, .ref gy, .ref du, .ref re, .ref wm, .ref ac])), (co, .inr (1, [.ref co1, .ref co2, .ref co3, .int (nI 0)])), (co1, .inl (0, 20, .inl (fun _ => 0))), (co2, .inl (0, 20, .inl (fun _ => 0))), (co3, .inl (0, 20, .inl (fun _ => 0))), (o1, .inl (3, 1, .inr (.inl (fun _ => 0))))]) (is := [0, 32, 33, 34, 35, 69]) ln_Lw_246 w_st_Lw_hours ok_Lw_law_Lw_hours d_Lw_law_1376 (C_Lw_hoursN g a pa ta sa gs co fu la gy du re wm ac co1 co2 co3 (fun _ => 0) (fun _ => 0) (fun _ => 0) 0 (by decide) (zs g 1) hw o1 (fun _ => 0)) rfl rfl (Nat.le_of_ble_eq_true rfl) rfl (by decide) (by omega) (by omega) (fun E cs1 hx => ?_) (fun v cs1 hx => ?_)
  · exact absurd hx.1 (by simp)
  · obtain ⟨e1, rfl⟩ := hx
    cases e1
    refine ⟨rfl, ?_⟩
    refine r_st (st2 := [.int 0]) rfl ?_
    refine r_istore (lv' := [(6, .int 0), (5, .int 0), (4, .ref o2), (3, .ref o1), (2, .ref m), (1, .ref a), (0, .ref (g.2.2 40))]) d_Lw_law_1379 (by decide) rfl ?_
    refine r_aload_n d_Lw_law_1381 rfl 4 rfl ?_
    refine r_aload_n d_Lw_law_1382 rfl 6 rfl ?_
    refine r_iload d_Lw_law_1383 1 rfl ?_
    refine r_iconst d_Lw_law_1385 (v := 1) (by decide) ?_
    refine r_iadd d_Lw_law_1386 (v := 1) rfl ?_
    refine r_sld (v := zs g 1) d_Lw_law_1387 (by rw [hL]; exact fun q => q.elim (by decide) (by decide)) rfl ?_
    refine r_callV (As := [.int (zs g 1)]) (rest := []) (csC := [(m, .inr (12, [.int 0, .ref mp, .int 4, .ref mf, .ref mh, .ref mn, .ref mt, .ref mz, .ref mc_, .ref mq, .ref mgr, .int 80, .int 35, .int 30, .int 50, .int 0, .int 0, .ref ml, .ref mi, .ref mr, .int 0, .int 0, .int 0, .int (-1), .int 0, .ref mm, .ref mu, .ref mk, .ref mx, .long 0, .long 0])), (ml, .inr (13, [.int 0, .ref (g.2.2 4), .int 0]))]) (is := [52, 62]) (q0 := 52) rfl rfl ln_Lw_248 w_im_Mm_hours w_se_Mm_hours ok_Lw_law_Mm_hours d_Lw_law_1388 (C_Mm_hours0 g m mp mf mh mn mt mz mc_ mq mgr ml mi mr mm mu mk mx 0 4 80 35 30 50 0 0 0 0 0 (-1) 0 0 0 0 (g.2.2 4) (zs g 1) hw) rfl rfl (Nat.le_of_ble_eq_true rfl) rfl (by decide) (by omega) (by omega) (fun E cs1 hx => ?_) (fun v cs1 hx => ?_)
    · exact absurd hx.1 (by simp)
    · obtain ⟨e1, rfl⟩ := hx
      cases e1
      refine ⟨rfl, ?_⟩
      refine r_st (st2 := [.int 0]) rfl ?_
      refine r_istore (lv' := [(7, .int 0), (6, .int 0), (5, .int 0), (4, .ref o2), (3, .ref o1), (2, .ref m), (1, .ref a), (0, .ref (g.2.2 40))]) d_Lw_law_1391 (by decide) rfl ?_
      refine r_aload_n d_Lw_law_1393 rfl 5 rfl ?_
      refine r_callV (As := []) (rest := []) (csC := [(m, .inr (12, [.int 0, .ref mp, .int 4, .ref mf, .ref mh, .ref mn, .ref mt, .ref mz, .ref mc_, .ref mq, .ref mgr, .int 80, .int 35, .int 30, .int 50, .int 0, .int (0 + (zs g 1)), .ref ml, .ref mi, .ref mr, .int 0, .int 0, .int 0, .int (-1), .int 0, .ref mm, .ref mu, .ref mk, .ref mx, .long 0, .long 0]))]) (is := [52]) (q0 := 52) rfl rfl ln_Lw_175 w_im_Mm_thrown w_se_Mm_thrown ok_Lw_law_Mm_thrown d_Lw_law_1394 (C_Mm_thrown g m mp mf mh mn mt mz mc_ mq mgr ml mi mr mm mu mk mx 0 4 80 35 30 50 0 (0 + (zs g 1)) 0 0 0 (-1) 0 0 0) rfl rfl (Nat.le_of_ble_eq_true rfl) rfl (by decide) (by omega) (by omega) (fun E cs1 hx => ?_) (fun v cs1 hx => ?_)
      · exact absurd hx.1 (by simp)
      · obtain ⟨e1, rfl⟩ := hx
        cases e1
        refine ⟨rfl, ?_⟩
        refine r_st (st2 := [.int 0]) rfl ?_
        refine r_iload d_Lw_law_1397 1 rfl ?_
        refine r_icmp_eq (tgt := 1404) d_Lw_law_1399 (by decide) (fun c_1399 => ?_) (fun c_1399 => ?_)
        · refine r_iload d_Lw_law_1404 1 rfl ?_
          refine r_if_ne (tgt := 1421) d_Lw_law_1406 (by decide) (fun c_1406 => ?_) (fun c_1406 => ?_)
          · exact absurd c_1406 (by decide)
          · refine r_aload_n d_Lw_law_1409 rfl 4 rfl ?_
            refine r_iconst d_Lw_law_1410 (v := 0) (by decide) ?_
            refine r_lald d_Lw_law_1411 (q0 := 69) rfl (fun q => q.elim (by decide) (by decide)) (v := (vp_updL (fun _ => 0) 0 (((gwS (fun _ => 0) (fun _ => 0) (fun _ => 0) (zs g 1) 0).2.2)).toInt64) 0) rfl ?_
            refine r_iload d_Lw_law_1412 0 rfl ?_
            refine r_i2l d_Lw_law_1414 (v := 0.toInt64) rfl ?_
            refine r_lcmp d_Lw_law_1415 (v := 0) (zl_cmp (rfl)) ?_
            refine r_if_eq (tgt := 1421) d_Lw_law_1416 (by decide) (fun c_1416 => ?_) (fun c_1416 => ?_)
            · refine r_goto (tgt := 3019) d_Lw_law_1421 (by decide) ?_
              refine r_lv (lv' := [(5, .int 0), (0, .ref (g.2.2 40))]) [2, 7] rfl ?_
              exact LW_tail g _ hL _ _ w0 n
            · exact absurd c_1416 (by decide)
        · exact absurd c_1399 (by decide)
theorem d_Lw_law_1424 : decode code 1424 = .ok (.aload_n 1, 1) := by decide +kernel
theorem d_Lw_law_1425 : decode code 1425 = .ok (.aload_n 0, 1) := by decide +kernel
theorem d_Lw_law_1426 : decode code 1426 = .ok (.iload 5, 2) := by decide +kernel
theorem d_Lw_law_1428 : decode code 1428 = .ok (.iconst 1, 1) := by decide +kernel
theorem d_Lw_law_1429 : decode code 1429 = .ok (.iadd, 1) := by decide +kernel
theorem d_Lw_law_1430 : decode code 1430 = .ok (.iaload, 1) := by decide +kernel
theorem d_Lw_law_1431 : decode code 1431 = .ok (.i2c, 1) := by decide +kernel
theorem d_Lw_law_1432 : decode code 1432 = .ok (.aload_n 0, 1) := by decide +kernel
theorem d_Lw_law_1433 : decode code 1433 = .ok (.iload 5, 2) := by decide +kernel
theorem d_Lw_law_1435 : decode code 1435 = .ok (.iconst 2, 1) := by decide +kernel
theorem d_Lw_law_1436 : decode code 1436 = .ok (.iadd, 1) := by decide +kernel
theorem d_Lw_law_1437 : decode code 1437 = .ok (.iaload, 1) := by decide +kernel
theorem d_Lw_law_1438 : decode code 1438 = .ok (.aload_n 3, 1) := by decide +kernel
theorem d_Lw_law_1439 : decode code 1439 = .ok (.invokestatic 249, 3) := by decide +kernel
theorem ok_Lw_law_Lw_charge : z_okX M_Lw_law M_Lw_charge 4 := ⟨z_mem (i := 1033) (by decide +kernel) (by decide +kernel), by decide, ⟨by decide +kernel, by decide +kernel, by decide +kernel⟩, ⟨by decide, by decide⟩, z_mem (i := 57) (by decide +kernel) (by decide +kernel), rfl⟩
theorem ln_Lw_249 : Cond.methodLink "IronpourLaw" 249 M_Lw_charge.1 ∈ z_gw := z_mem (i := 1031) (by decide +kernel) (by decide +kernel)
theorem w_st_Lw_charge : Cond.static M_Lw_charge.1 ∈ z_gw := z_mem (i := 1032) (by decide +kernel) (by decide +kernel)
theorem d_Lw_law_1442 : decode code 1442 = .ok (.istore 6, 2) := by decide +kernel
theorem d_Lw_law_1444 : decode code 1444 = .ok (.aload_n 2, 1) := by decide +kernel
theorem d_Lw_law_1445 : decode code 1445 = .ok (.aload_n 0, 1) := by decide +kernel
theorem d_Lw_law_1446 : decode code 1446 = .ok (.iload 5, 2) := by decide +kernel
theorem d_Lw_law_1448 : decode code 1448 = .ok (.iconst 1, 1) := by decide +kernel
theorem d_Lw_law_1449 : decode code 1449 = .ok (.iadd, 1) := by decide +kernel
theorem d_Lw_law_1450 : decode code 1450 = .ok (.iaload, 1) := by decide +kernel
theorem d_Lw_law_1451 : decode code 1451 = .ok (.i2c, 1) := by decide +kernel
theorem d_Lw_law_1452 : decode code 1452 = .ok (.aload_n 0, 1) := by decide +kernel
theorem d_Lw_law_1453 : decode code 1453 = .ok (.iload 5, 2) := by decide +kernel
theorem d_Lw_law_1455 : decode code 1455 = .ok (.iconst 2, 1) := by decide +kernel
theorem d_Lw_law_1456 : decode code 1456 = .ok (.iadd, 1) := by decide +kernel
theorem d_Lw_law_1457 : decode code 1457 = .ok (.iaload, 1) := by decide +kernel
theorem d_Lw_law_1458 : decode code 1458 = .ok (.invokevirtual 252, 3) := by decide +kernel
theorem ok_Lw_law_Mm_charge : z_ok M_Lw_law M_Mm_charge 2 := ⟨z_mem (i := 1885) (by decide +kernel) (by decide +kernel), rfl, ⟨by decide +kernel, by decide +kernel, by decide +kernel⟩, ⟨by decide, by decide⟩, z_mem (i := 71) (by decide +kernel) (by decide +kernel), rfl⟩
theorem ln_Lw_252 : Cond.methodLink "IronpourLaw" 252 M_Mm_charge.1 ∈ z_gw := z_mem (i := 1882) (by decide +kernel) (by decide +kernel)
theorem w_im_Mm_charge : Cond.instanceMethod M_Mm_charge.1 ∈ z_gw := z_mem (i := 1883) (by decide +kernel) (by decide +kernel)
theorem w_se_Mm_charge : Cond.selects M_Mm_charge.1.cls M_Mm_charge.1 M_Mm_charge.1 ∈ z_gw := z_mem (i := 1884) (by decide +kernel) (by decide +kernel)
theorem d_Lw_law_1461 : decode code 1461 = .ok (.istore 7, 2) := by decide +kernel
theorem d_Lw_law_1463 : decode code 1463 = .ok (.aload_n 2, 1) := by decide +kernel
theorem d_Lw_law_1464 : decode code 1464 = .ok (.invokevirtual 175, 3) := by decide +kernel
theorem d_Lw_law_1467 : decode code 1467 = .ok (.iload 6, 2) := by decide +kernel
theorem d_Lw_law_1469 : decode code 1469 = .ok (.if_icmp .eq 5, 3) := by decide +kernel
theorem d_Lw_law_1474 : decode code 1474 = .ok (.iload 6, 2) := by decide +kernel
theorem d_Lw_law_1476 : decode code 1476 = .ok (.ifCond .ne 15, 3) := by decide +kernel
theorem d_Lw_law_1491 : decode code 1491 = .ok (.goto 1528, 3) := by decide +kernel
set_option maxHeartbeats 4000000 in
set_option maxRecDepth 100000 in
theorem LW_chargeE (g : zG) (a pa pa1 pa2 pa3 ta ta1 ta2 taz taz1 taz2 taz3 taz4 taz5 taz6 ta4 ta5 ta6 sa sa1 sa2 saz saz1 saz2 saz3 saz4 saz5 saz6 sa4 sa5 sa6 gs co co1 co2 co3 fu fub fubg fut1 fut2 fut3 la lab labg gy gyg du dug re wm ac m mp mf mh mn mt mz mc_ mq mgr ml mi mr mm mu mk mx o1 o2 : Nat) (hL : g.2.2 41 = 7) (hw : ¬ (0 ≤ z_ix 1 (zc g 1) ∧ (1 ≤ (zs g 2) ∧ (zs g 2) ≤ 1000))) (w0 : zW) (n : Nat) : DV g M_Lw_law (lwP) w0 n 1424 [(5, .int 0), (4, .ref o2), (3, .ref o1), (2, .ref m), (1, .ref a), (0, .ref (g.2.2 40))] [] (lwCS g a pa pa1 pa2 pa3 ta ta1 ta2 taz taz1 taz2 taz3 taz4 taz5 taz6 ta4 ta5 ta6 sa sa1 sa2 saz saz1 saz2 saz3 saz4 saz5 saz6 sa4 sa5 sa6 gs co co1 co2 co3 fu fub fubg fut1 fut2 fut3 la lab labg gy gyg du dug re wm ac m mp mf mh mn mt mz mc_ mq mgr ml mi mr mm mu mk mx o1 o2) 100 1000 := by
  refine r_aload_n d_Lw_law_1424 rfl 4 rfl ?_
  refine r_aload_n d_Lw_law_1425 rfl 5 rfl ?_
  refine r_iload d_Lw_law_1426 0 rfl ?_
  refine r_iconst d_Lw_law_1428 (v := 1) (by decide) ?_
  refine r_iadd d_Lw_law_1429 (v := 1) rfl ?_
  refine r_sld (v := zs g 1) d_Lw_law_1430 (by rw [hL]; exact fun q => q.elim (by decide) (by decide)) rfl ?_
  refine r_i2c d_Lw_law_1431 (v := zc g 1) rfl ?_
  refine r_aload_n d_Lw_law_1432 rfl 5 rfl ?_
  refine r_iload d_Lw_law_1433 0 rfl ?_
  refine r_iconst d_Lw_law_1435 (v := 2) (by decide) ?_
  refine r_iadd d_Lw_law_1436 (v := 2) rfl ?_
  refine r_sld (v := zs g 2) d_Lw_law_1437 (by rw [hL]; exact fun q => q.elim (by decide) (by decide)) rfl ?_
  refine r_aload_n d_Lw_law_1438 rfl 2 rfl ?_
  refine r_callSX (As := [.ref a, .int (zc g 1), .int (zs g 2), .ref o1]) (rest := []) (csC := [(a, .inr (11, [.ref pa, .ref ta, .ref sa, .ref gs, .ref co, .ref fu, .ref la, .ref gy, .ref du, .ref re, .ref wm, .ref ac])), (fu, .inr (3, [.ref fub, .ref fut1, .ref fut2, .ref fut3, .long 0])), (fub, .inr (6, [.ref fubg, .int 0])), (fubg, .inl (3, 4, .inr (.inl (fun _ => 0)))), (fut1, .inl (3, 4, .inr (.inl (fun _ => 0)))), (fut2, .inl (3, 4, .inr (.inl (fun _ => 0)))), (fut3, .inl (3, 4, .inr (.inl (fun _ => 0)))), (gy, .inr (6, [.ref gyg, .int 0])), (gyg, .inl (3, 4, .inr (.inl (fun _ => 0)))), (du, .inr (6, [.ref dug, .int 0])), (dug, .inl (3, 4, .inr (.inl (fun _ => 0)))), (o1, .inl (3, 1, .inr (.inl (fun _ => 0))))]) (is := [0, 36, 37, 38, 39, 40, 41, 45, 46, 47, 48, 69]) ln_Lw_249 w_st_Lw_charge ok_Lw_law_Lw_charge d_Lw_law_1439 (C_Lw_chargeE g a pa ta sa gs co fu la gy du re wm ac lab labg gyg dug fub fubg fut1 fut2 fut3 (fun _ => 0) (fun _ => 0) (fun _ => 0) (fun _ => 0) (fun _ => 0) (fun _ => 0) 0 0 0 0 (zs g 2) (zc g 1) hw o1 (fun _ => 0)) rfl rfl (Nat.le_of_ble_eq_true rfl) rfl (by decide) (by omega) (by omega) (fun E cs1 hx => ?_) (fun v cs1 hx => ?_)
  · exact absurd hx.1 (by simp)
  · obtain ⟨e1, rfl⟩ := hx
    cases e1
    refine ⟨rfl, ?_⟩
    refine r_st (st2 := [.int 1]) rfl ?_
    refine r_istore (lv' := [(6, .int 1), (5, .int 0), (4, .ref o2), (3, .ref o1), (2, .ref m), (1, .ref a), (0, .ref (g.2.2 40))]) d_Lw_law_1442 (by decide) rfl ?_
    refine r_aload_n d_Lw_law_1444 rfl 4 rfl ?_
    refine r_aload_n d_Lw_law_1445 rfl 6 rfl ?_
    refine r_iload d_Lw_law_1446 1 rfl ?_
    refine r_iconst d_Lw_law_1448 (v := 1) (by decide) ?_
    refine r_iadd d_Lw_law_1449 (v := 1) rfl ?_
    refine r_sld (v := zs g 1) d_Lw_law_1450 (by rw [hL]; exact fun q => q.elim (by decide) (by decide)) rfl ?_
    refine r_i2c d_Lw_law_1451 (v := zc g 1) rfl ?_
    refine r_aload_n d_Lw_law_1452 rfl 6 rfl ?_
    refine r_iload d_Lw_law_1453 1 rfl ?_
    refine r_iconst d_Lw_law_1455 (v := 2) (by decide) ?_
    refine r_iadd d_Lw_law_1456 (v := 2) rfl ?_
    refine r_sld (v := zs g 2) d_Lw_law_1457 (by rw [hL]; exact fun q => q.elim (by decide) (by decide)) rfl ?_
    refine r_callV (As := [.int (zc g 1), .int (zs g 2)]) (rest := []) (csC := [(m, .inr (12, [.int 0, .ref mp, .int 4, .ref mf, .ref mh, .ref mn, .ref mt, .ref mz, .ref mc_, .ref mq, .ref mgr, .int 80, .int 35, .int 30, .int 50, .int 0, .int 0, .ref ml, .ref mi, .ref mr, .int 0, .int 0, .int 0, .int (-1), .int 0, .ref mm, .ref mu, .ref mk, .ref mx, .long 0, .long 0]))]) (is := [52]) (q0 := 52) rfl rfl ln_Lw_252 w_im_Mm_charge w_se_Mm_charge ok_Lw_law_Mm_charge d_Lw_law_1458 (C_Mm_chargeE g m mp mf mh mn mt mz mc_ mq mgr ml mi mr mm mu mk mx 0 4 80 35 30 50 0 0 0 0 0 (-1) 0 0 0 (zc g 1) (zs g 2) hw) rfl rfl (Nat.le_of_ble_eq_true rfl) rfl (by decide) (by omega) (by omega) (fun E cs1 hx => ?_) (fun v cs1 hx => ?_)
    · exact absurd hx.1 (by simp)
    · obtain ⟨e1, rfl⟩ := hx
      cases e1
      refine ⟨rfl, ?_⟩
      refine r_st (st2 := [.int 0]) rfl ?_
      refine r_istore (lv' := [(7, .int 0), (6, .int 1), (5, .int 0), (4, .ref o2), (3, .ref o1), (2, .ref m), (1, .ref a), (0, .ref (g.2.2 40))]) d_Lw_law_1461 (by decide) rfl ?_
      refine r_aload_n d_Lw_law_1463 rfl 5 rfl ?_
      refine r_callV (As := []) (rest := []) (csC := [(m, .inr (12, [.int 1, .ref mp, .int 4, .ref mf, .ref mh, .ref mn, .ref mt, .ref mz, .ref mc_, .ref mq, .ref mgr, .int 80, .int 35, .int 30, .int 50, .int 0, .int 0, .ref ml, .ref mi, .ref mr, .int 0, .int 0, .int 0, .int (-1), .int 0, .ref mm, .ref mu, .ref mk, .ref mx, .long 0, .long 0]))]) (is := [52]) (q0 := 52) rfl rfl ln_Lw_175 w_im_Mm_thrown w_se_Mm_thrown ok_Lw_law_Mm_thrown d_Lw_law_1464 (C_Mm_thrown g m mp mf mh mn mt mz mc_ mq mgr ml mi mr mm mu mk mx 1 4 80 35 30 50 0 0 0 0 0 (-1) 0 0 0) rfl rfl (Nat.le_of_ble_eq_true rfl) rfl (by decide) (by omega) (by omega) (fun E cs1 hx => ?_) (fun v cs1 hx => ?_)
      · exact absurd hx.1 (by simp)
      · obtain ⟨e1, rfl⟩ := hx
        cases e1
        refine ⟨rfl, ?_⟩
        refine r_st (st2 := [.int 1]) rfl ?_
        refine r_iload d_Lw_law_1467 1 rfl ?_
        refine r_icmp_eq (tgt := 1474) d_Lw_law_1469 (by decide) (fun c_1469 => ?_) (fun c_1469 => ?_)
        · refine r_iload d_Lw_law_1474 1 rfl ?_
          refine r_if_ne (tgt := 1491) d_Lw_law_1476 (by decide) (fun c_1476 => ?_) (fun c_1476 => ?_)
          · refine r_goto (tgt := 3019) d_Lw_law_1491 (by decide) ?_
            refine r_lv (lv' := [(5, .int 0), (0, .ref (g.2.2 40))]) [2, 7] rfl ?_
            exact LW_tail g _ hL _ _ w0 n
          · exact absurd c_1476 (by decide)
        · exact absurd c_1469 (by decide)
set_option maxHeartbeats 4000000 in
set_option maxRecDepth 100000 in
theorem LW_charge103F (g : zG) (a pa pa1 pa2 pa3 ta ta1 ta2 taz taz1 taz2 taz3 taz4 taz5 taz6 ta4 ta5 ta6 sa sa1 sa2 saz saz1 saz2 saz3 saz4 saz5 saz6 sa4 sa5 sa6 gs co co1 co2 co3 fu fub fubg fut1 fut2 fut3 la lab labg gy gyg du dug re wm ac m mp mf mh mn mt mz mc_ mq mgr ml mi mr mm mu mk mx o1 o2 : Nat) (hL : g.2.2 41 = 7) (e1 : zc g 1 = 103) (hw : (1 ≤ (zs g 2) ∧ (zs g 2) ≤ 1000)) (hf9 : 0 < (zs g 2)) (w0 : zW) (n : Nat) : DV g M_Lw_law (lwP) w0 n 1424 [(5, .int 0), (4, .ref o2), (3, .ref o1), (2, .ref m), (1, .ref a), (0, .ref (g.2.2 40))] [] (lwCS g a pa pa1 pa2 pa3 ta ta1 ta2 taz taz1 taz2 taz3 taz4 taz5 taz6 ta4 ta5 ta6 sa sa1 sa2 saz saz1 saz2 saz3 saz4 saz5 saz6 sa4 sa5 sa6 gs co co1 co2 co3 fu fub fubg fut1 fut2 fut3 la lab labg gy gyg du dug re wm ac m mp mf mh mn mt mz mc_ mq mgr ml mi mr mm mu mk mx o1 o2) 100 1000 := by
  refine r_aload_n d_Lw_law_1424 rfl 4 rfl ?_
  refine r_aload_n d_Lw_law_1425 rfl 5 rfl ?_
  refine r_iload d_Lw_law_1426 0 rfl ?_
  refine r_iconst d_Lw_law_1428 (v := 1) (by decide) ?_
  refine r_iadd d_Lw_law_1429 (v := 1) rfl ?_
  refine r_sld (v := zs g 1) d_Lw_law_1430 (by rw [hL]; exact fun q => q.elim (by decide) (by decide)) rfl ?_
  refine r_i2c d_Lw_law_1431 (v := 103) e1 ?_
  refine r_aload_n d_Lw_law_1432 rfl 5 rfl ?_
  refine r_iload d_Lw_law_1433 0 rfl ?_
  refine r_iconst d_Lw_law_1435 (v := 2) (by decide) ?_
  refine r_iadd d_Lw_law_1436 (v := 2) rfl ?_
  refine r_sld (v := zs g 2) d_Lw_law_1437 (by rw [hL]; exact fun q => q.elim (by decide) (by decide)) rfl ?_
  refine r_aload_n d_Lw_law_1438 rfl 2 rfl ?_
  refine r_callSX (As := [.ref a, .int 103, .int (zs g 2), .ref o1]) (rest := []) (csC := [(a, .inr (11, [.ref pa, .ref ta, .ref sa, .ref gs, .ref co, .ref fu, .ref la, .ref gy, .ref du, .ref re, .ref wm, .ref ac])), (fu, .inr (3, [.ref fub, .ref fut1, .ref fut2, .ref fut3, .long 0])), (fub, .inr (6, [.ref fubg, .int 0])), (fubg, .inl (3, 4, .inr (.inl (fun _ => 0)))), (fut1, .inl (3, 4, .inr (.inl (fun _ => 0)))), (fut2, .inl (3, 4, .inr (.inl (fun _ => 0)))), (fut3, .inl (3, 4, .inr (.inl (fun _ => 0)))), (gy, .inr (6, [.ref gyg, .int 0])), (gyg, .inl (3, 4, .inr (.inl (fun _ => 0)))), (du, .inr (6, [.ref dug, .int 0])), (dug, .inl (3, 4, .inr (.inl (fun _ => 0)))), (o1, .inl (3, 1, .inr (.inl (fun _ => 0))))]) (is := [0, 36, 37, 38, 39, 40, 41, 45, 46, 47, 48, 69]) ln_Lw_249 w_st_Lw_charge ok_Lw_law_Lw_charge d_Lw_law_1439 (C_Lw_charge103F g a pa ta sa gs co fu la gy du re wm ac lab labg gyg dug fub fubg fut1 fut2 fut3 (fun _ => 0) (fun _ => 0) (fun _ => 0) (fun _ => 0) (fun _ => 0) (fun _ => 0) 0 0 0 0 (zs g 2) hw hf9 o1 (fun _ => 0)) rfl rfl (Nat.le_of_ble_eq_true rfl) rfl (by decide) (by omega) (by omega) (fun E cs1 hx => ?_) (fun v cs1 hx => ?_)
  · exact absurd hx.1 (by simp)
  · obtain ⟨e1, rfl⟩ := hx
    cases e1
    refine ⟨rfl, ?_⟩
    refine r_st (st2 := [.int 2]) rfl ?_
    refine r_istore (lv' := [(6, .int 2), (5, .int 0), (4, .ref o2), (3, .ref o1), (2, .ref m), (1, .ref a), (0, .ref (g.2.2 40))]) d_Lw_law_1442 (by decide) rfl ?_
    refine r_aload_n d_Lw_law_1444 rfl 4 rfl ?_
    refine r_aload_n d_Lw_law_1445 rfl 6 rfl ?_
    refine r_iload d_Lw_law_1446 1 rfl ?_
    refine r_iconst d_Lw_law_1448 (v := 1) (by decide) ?_
    refine r_iadd d_Lw_law_1449 (v := 1) rfl ?_
    refine r_sld (v := zs g 1) d_Lw_law_1450 (by rw [hL]; exact fun q => q.elim (by decide) (by decide)) rfl ?_
    refine r_i2c d_Lw_law_1451 (v := 103) e1 ?_
    refine r_aload_n d_Lw_law_1452 rfl 6 rfl ?_
    refine r_iload d_Lw_law_1453 1 rfl ?_
    refine r_iconst d_Lw_law_1455 (v := 2) (by decide) ?_
    refine r_iadd d_Lw_law_1456 (v := 2) rfl ?_
    refine r_sld (v := zs g 2) d_Lw_law_1457 (by rw [hL]; exact fun q => q.elim (by decide) (by decide)) rfl ?_
    refine r_callV (As := [.int 103, .int (zs g 2)]) (rest := []) (csC := [(m, .inr (12, [.int 0, .ref mp, .int 4, .ref mf, .ref mh, .ref mn, .ref mt, .ref mz, .ref mc_, .ref mq, .ref mgr, .int 80, .int 35, .int 30, .int 50, .int 0, .int 0, .ref ml, .ref mi, .ref mr, .int 0, .int 0, .int 0, .int (-1), .int 0, .ref mm, .ref mu, .ref mk, .ref mx, .long 0, .long 0])), (mi, .inl (0, 4, .inl (fun _ => 0)))]) (is := [52, 63]) (q0 := 52) rfl rfl ln_Lw_252 w_im_Mm_charge w_se_Mm_charge ok_Lw_law_Mm_charge d_Lw_law_1458 (C_Mm_charge103F g m mp mf mh mn mt mz mc_ mq mgr ml mi mr mm mu mk mx 0 4 80 35 30 50 0 0 0 0 0 (-1) 0 0 0 (fun _ => 0) (zs g 2) hw hf9) rfl rfl (Nat.le_of_ble_eq_true rfl) rfl (by decide) (by omega) (by omega) (fun E cs1 hx => ?_) (fun v cs1 hx => ?_)
    · exact absurd hx.1 (by simp)
    · obtain ⟨e1, rfl⟩ := hx
      cases e1
      refine ⟨rfl, ?_⟩
      refine r_st (st2 := [.int 0]) rfl ?_
      refine r_istore (lv' := [(7, .int 0), (6, .int 2), (5, .int 0), (4, .ref o2), (3, .ref o1), (2, .ref m), (1, .ref a), (0, .ref (g.2.2 40))]) d_Lw_law_1461 (by decide) rfl ?_
      refine r_aload_n d_Lw_law_1463 rfl 5 rfl ?_
      refine r_callV (As := []) (rest := []) (csC := [(m, .inr (12, [.int 2, .ref mp, .int 4, .ref mf, .ref mh, .ref mn, .ref mt, .ref mz, .ref mc_, .ref mq, .ref mgr, .int 80, .int 35, .int 30, .int 50, .int 0, .int 0, .ref ml, .ref mi, .ref mr, .int 0, .int 0, .int 0, .int (-1), .int 0, .ref mm, .ref mu, .ref mk, .ref mx, .long 0, .long 0]))]) (is := [52]) (q0 := 52) rfl rfl ln_Lw_175 w_im_Mm_thrown w_se_Mm_thrown ok_Lw_law_Mm_thrown d_Lw_law_1464 (C_Mm_thrown g m mp mf mh mn mt mz mc_ mq mgr ml mi mr mm mu mk mx 2 4 80 35 30 50 0 0 0 0 0 (-1) 0 0 0) rfl rfl (Nat.le_of_ble_eq_true rfl) rfl (by decide) (by omega) (by omega) (fun E cs1 hx => ?_) (fun v cs1 hx => ?_)
      · exact absurd hx.1 (by simp)
      · obtain ⟨e1, rfl⟩ := hx
        cases e1
        refine ⟨rfl, ?_⟩
        refine r_st (st2 := [.int 2]) rfl ?_
        refine r_iload d_Lw_law_1467 1 rfl ?_
        refine r_icmp_eq (tgt := 1474) d_Lw_law_1469 (by decide) (fun c_1469 => ?_) (fun c_1469 => ?_)
        · refine r_iload d_Lw_law_1474 1 rfl ?_
          refine r_if_ne (tgt := 1491) d_Lw_law_1476 (by decide) (fun c_1476 => ?_) (fun c_1476 => ?_)
          · refine r_goto (tgt := 3019) d_Lw_law_1491 (by decide) ?_
            refine r_lv (lv' := [(5, .int 0), (0, .ref (g.2.2 40))]) [2, 7] rfl ?_
            exact LW_tail g _ hL _ _ w0 n
          · exact absurd c_1476 (by decide)
        · exact absurd c_1469 (by decide)
