theorem d_Mm_charge_172 : decode prog_14_method_58_code 172 = .ok (.lastore, 1) := zo_80 (zd_b zq_prog_14_method_58_code_5 12 rfl rfl rfl)
theorem d_Mm_charge_173 : decode prog_14_method_58_code 173 = .ok (.iinc 4 1, 3) := by decide +kernel
theorem d_Mm_charge_176 : decode prog_14_method_58_code 176 = .ok (.goto (-33), 3) := zo_167 (d := 255) (e := 223) (zd_b zq_prog_14_method_58_code_5 16 rfl rfl rfl) (zd_b zq_prog_14_method_58_code_5 17 rfl rfl rfl) (zd_b zq_prog_14_method_58_code_5 18 rfl rfl rfl) (by decide +kernel)
theorem d_Mm_charge_80 : decode prog_14_method_58_code 80 = .ok (.iconst 0, 1) := zo_3 (zd_b zq_prog_14_method_58_code_2 16 rfl rfl rfl)
theorem d_Mm_charge_90 : decode prog_14_method_58_code 90 = .ok (.aload_n 0, 1) := zo_42 (zd_b zq_prog_14_method_58_code_2 26 rfl rfl rfl)
theorem d_Mm_charge_91 : decode prog_14_method_58_code 91 = .ok (.iload_n 1, 1) := zo_27 (zd_b zq_prog_14_method_58_code_2 27 rfl rfl rfl)
theorem d_Mm_charge_92 : decode prog_14_method_58_code 92 = .ok (.bipush 107, 2) := zo_16 (d := 107) (zd_b zq_prog_14_method_58_code_2 28 rfl rfl rfl) (zd_b zq_prog_14_method_58_code_2 29 rfl rfl rfl) (by decide +kernel)
theorem d_Mm_charge_94 : decode prog_14_method_58_code 94 = .ok (.if_icmp .eq 21, 3) := zo_159 (d := 0) (e := 21) (zd_b zq_prog_14_method_58_code_2 30 rfl rfl rfl) (zd_b zq_prog_14_method_58_code_2 31 rfl rfl rfl) (zd_b zq_prog_14_method_58_code_3 0 rfl rfl rfl) (by decide +kernel)
theorem d_Mm_charge_97 : decode prog_14_method_58_code 97 = .ok (.aload_n 0, 1) := zo_42 (zd_b zq_prog_14_method_58_code_3 1 rfl rfl rfl)
theorem d_Mm_charge_98 : decode prog_14_method_58_code 98 = .ok (.getfield 62, 3) := zo_180 (d := 0) (e := 62) (zd_b zq_prog_14_method_58_code_3 2 rfl rfl rfl) (zd_b zq_prog_14_method_58_code_3 3 rfl rfl rfl) (zd_b zq_prog_14_method_58_code_3 4 rfl rfl rfl)
theorem d_Mm_charge_101 : decode prog_14_method_58_code 101 = .ok (.iconst 0, 1) := zo_3 (zd_b zq_prog_14_method_58_code_3 5 rfl rfl rfl)
theorem d_Mm_charge_102 : decode prog_14_method_58_code 102 = .ok (.iaload, 1) := zo_46 (zd_b zq_prog_14_method_58_code_3 6 rfl rfl rfl)
theorem d_Mm_charge_103 : decode prog_14_method_58_code 103 = .ok (.iload_n 2, 1) := zo_28 (zd_b zq_prog_14_method_58_code_3 7 rfl rfl rfl)
theorem d_Mm_charge_104 : decode prog_14_method_58_code 104 = .ok (.iadd, 1) := zo_96 (zd_b zq_prog_14_method_58_code_3 8 rfl rfl rfl)
theorem d_Mm_charge_105 : decode prog_14_method_58_code 105 = .ok (.sipush 3000, 3) := zo_17 (d := 11) (e := 184) (zd_b zq_prog_14_method_58_code_3 9 rfl rfl rfl) (zd_b zq_prog_14_method_58_code_3 10 rfl rfl rfl) (zd_b zq_prog_14_method_58_code_3 11 rfl rfl rfl) (by decide +kernel)
theorem d_Mm_charge_108 : decode prog_14_method_58_code 108 = .ok (.if_icmp .le 7, 3) := zo_164 (d := 0) (e := 7) (zd_b zq_prog_14_method_58_code_3 12 rfl rfl rfl) (zd_b zq_prog_14_method_58_code_3 13 rfl rfl rfl) (zd_b zq_prog_14_method_58_code_3 14 rfl rfl rfl) (by decide +kernel)
theorem d_Mm_charge_115 : decode prog_14_method_58_code 115 = .ok (.iconst 0, 1) := zo_3 (zd_b zq_prog_14_method_58_code_3 19 rfl rfl rfl)
theorem d_Mm_charge_116 : decode prog_14_method_58_code 116 = .ok (.iconst 3, 1) := zo_6 (zd_b zq_prog_14_method_58_code_3 20 rfl rfl rfl)
theorem d_Mm_charge_117 : decode prog_14_method_58_code 117 = .ok (.invokevirtual 103, 3) := zo_182 (d := 0) (e := 103) (zd_b zq_prog_14_method_58_code_3 21 rfl rfl rfl) (zd_b zq_prog_14_method_58_code_3 22 rfl rfl rfl) (zd_b zq_prog_14_method_58_code_3 23 rfl rfl rfl)
theorem d_Mm_charge_120 : decode prog_14_method_58_code 120 = .ok (.ifCond .eq 5, 3) := zo_153 (d := 0) (e := 5) (zd_b zq_prog_14_method_58_code_3 24 rfl rfl rfl) (zd_b zq_prog_14_method_58_code_3 25 rfl rfl rfl) (zd_b zq_prog_14_method_58_code_3 26 rfl rfl rfl) (by decide +kernel)
theorem d_Mm_charge_125 : decode prog_14_method_58_code 125 = .ok (.iload_n 3, 1) := zo_29 (zd_b zq_prog_14_method_58_code_3 29 rfl rfl rfl)
theorem d_Mm_charge_126 : decode prog_14_method_58_code 126 = .ok (.iconst (-1), 1) := zo_2 (zd_b zq_prog_14_method_58_code_3 30 rfl rfl rfl)
theorem d_Mm_charge_127 : decode prog_14_method_58_code 127 = .ok (.if_icmp .eq 13, 3) := zo_159 (d := 0) (e := 13) (zd_b zq_prog_14_method_58_code_3 31 rfl rfl rfl) (zd_b zq_prog_14_method_58_code_4 0 rfl rfl rfl) (zd_b zq_prog_14_method_58_code_4 1 rfl rfl rfl) (by decide +kernel)
theorem d_Mm_charge_140 : decode prog_14_method_58_code 140 = .ok (.iconst 0, 1) := zo_3 (zd_b zq_prog_14_method_58_code_4 12 rfl rfl rfl)
theorem d_Mm_charge_141 : decode prog_14_method_58_code 141 = .ok (.istore 4, 2) := zo_54 (d := 4) (zd_b zq_prog_14_method_58_code_4 13 rfl rfl rfl) (zd_b zq_prog_14_method_58_code_4 14 rfl rfl rfl)
set_option maxHeartbeats 4000000 in
set_option maxRecDepth 100000 in
theorem L_Mm_charge112N_143 (g : zG) (m mp mf mh mn mt mz mc_ mq mgr ml mi mr mm mu mk mx : Nat) (th pt cl wa co_ fi bu ho lh mg wd fpi fal : Int32) (po de : Int64) (ir : Nat → Int32) (gr : Nat → Int64) (m1 : Int32) (hw : (1 ≤ m1 ∧ m1 ≤ 1000)) (hg3 : ¬ 3000 < ir 0 + m1) (w0 : zW) (n : Nat) : ∀ (d i : Nat), i ≤ 4 → 4 < i + d → DV g M_Mm_charge (fun o cs1 => o = .inl (some (.int (ir 0 + m1))) ∧ cs1 = [(m, .inr (12, [.int 0, .ref mp, .int pt, .ref mf, .ref mh, .ref mn, .ref mt, .ref mz, .ref mc_, .ref mq, .ref mgr, .int cl, .int wa, .int co_, .int fi, .int bu, .int ho, .ref ml, .ref mi, .ref mr, .int lh, .int mg, .int wd, .int fpi, .int fal, .ref mm, .ref mu, .ref mk, .ref mx, .long po, .long de])), (mi, .inl (0, 4, .inl (upd ir 0 (ir 0 + m1)))), (mr, .inl (3, 16, .inr (.inl (lfd gr (fun e => chS m1 0 e / 10) 4))))]) w0 n 143 [(4, .int (nI i)), (2, .int m1), (1, .int 112), (0, .ref m)] [] [(m, .inr (12, [.int 0, .ref mp, .int pt, .ref mf, .ref mh, .ref mn, .ref mt, .ref mz, .ref mc_, .ref mq, .ref mgr, .int cl, .int wa, .int co_, .int fi, .int bu, .int ho, .ref ml, .ref mi, .ref mr, .int lh, .int mg, .int wd, .int fpi, .int fal, .ref mm, .ref mu, .ref mk, .ref mx, .long po, .long de])), (mi, .inl (0, 4, .inl ir)), (mr, .inl (3, 16, .inr (.inl (lfd gr (fun e => chS m1 0 e / 10) i))))] 0 0 := by
  intro d
  induction d with
  | zero => intro i h1 h2 ; exact absurd h2 (by omega)
  | succ d ih =>
    intro i h1 h2 
    refine r_iload d_Mm_charge_143 0 rfl ?_
    refine r_iconst d_Mm_charge_145 (v := 4) (by decide) ?_
    refine r_icmp_ge (tgt := 179) d_Mm_charge_146 (by decide) (fun c_146 => ?_) (fun c_146 => ?_)
    · have hn := z_le (a := 4) (by omega) (by decide) c_146
      obtain rfl : i = 4 := by omega
      refine r_aload_n d_Mm_charge_179 rfl 3 rfl ?_
      refine r_get fs_Mm_62 d_Mm_charge_180 (q0 := 0) rfl rfl ?_
      refine r_iconst d_Mm_charge_183 (v := 0) (by decide) ?_
      refine r_dup2_11 d_Mm_charge_184 rfl rfl ?_
      refine r_iald d_Mm_charge_185 (q0 := 1) rfl (fun q => q.elim (by decide) (by decide)) (v := ir 0) rfl ?_
      refine r_iload_n d_Mm_charge_186 rfl 2 rfl ?_
      refine r_bipush d_Mm_charge_187 (v := 107) (by decide) ?_
      refine r_icmp_ne (tgt := 196) d_Mm_charge_189 (by decide) (fun c_189 => ?_) (fun c_189 => ?_)
      · refine r_iload_n d_Mm_charge_196 rfl 1 rfl ?_
        refine r_iadd d_Mm_charge_197 (v := (ir 0) + m1) rfl ?_
        refine r_iast d_Mm_charge_198 (q0 := 1) rfl (fun q => q.elim (by decide) (by decide)) (f' := upd ir 0 ((ir 0) + m1)) rfl (cs' := [(m, .inr (12, [.int 0, .ref mp, .int pt, .ref mf, .ref mh, .ref mn, .ref mt, .ref mz, .ref mc_, .ref mq, .ref mgr, .int cl, .int wa, .int co_, .int fi, .int bu, .int ho, .ref ml, .ref mi, .ref mr, .int lh, .int mg, .int wd, .int fpi, .int fal, .ref mm, .ref mu, .ref mk, .ref mx, .long po, .long de])), (mi, .inl (0, 4, .inl (upd ir 0 ((ir 0) + m1)))), (mr, .inl (3, 16, .inr (.inl (lfd gr (fun e => chS m1 0 e / 10) 4))))]) rfl ?_
        refine r_aload_n d_Mm_charge_199 rfl 3 rfl ?_
        refine r_get fs_Mm_62 d_Mm_charge_200 (q0 := 0) rfl rfl ?_
        refine r_iconst d_Mm_charge_203 (v := 0) (by decide) ?_
        refine r_iald d_Mm_charge_204 (q0 := 1) rfl (fun q => q.elim (by decide) (by decide)) (v := ir 0 + m1) rfl ?_
        refine r_iret d_Mm_charge_205 rfl rfl ?_
        exact ⟨rfl, rfl⟩
      · exact absurd c_189 (by decide)
    · have hn := z_nle (a := 4) (by omega) (by decide) c_146
      refine r_aload_n d_Mm_charge_149 rfl 3 rfl ?_
      refine r_get fs_Mm_65 d_Mm_charge_150 (q0 := 0) rfl rfl ?_
      refine r_iload d_Mm_charge_153 0 rfl ?_
      refine r_dup2_11 d_Mm_charge_155 rfl rfl ?_
      refine r_lald d_Mm_charge_156 (q0 := 2) rfl (vp_in_nI (by omega) (by omega)) (v := (lfd gr (fun e => chS m1 0 e / 10) i) i) (by rw [nI_clamp (by omega)]) ?_
      refine r_iload_n d_Mm_charge_157 rfl 1 rfl ?_
      refine r_i2l d_Mm_charge_158 (v := m1.toInt64) rfl ?_
      refine r_iload_n d_Mm_charge_159 rfl 2 rfl ?_
      refine r_iload d_Mm_charge_160 0 rfl ?_
      refine r_callS (As := [.int 112, .int (nI i)]) (rest := [.long m1.toInt64, .long ((lfd gr (fun e => chS m1 0 e / 10) i) i), .int (nI i), .ref mr]) (csC := []) (is := []) ln_Mm_240 w_st_Mm_tenths ok_Mm_charge_Mm_tenths d_Mm_charge_162 (C_Mm_tenths112 g i (by omega)) rfl rfl (Nat.le_of_ble_eq_true rfl) rfl (by decide) (by omega) (by omega) (fun E cs1 hx => ?_) (fun v cs1 hx => ?_)
      · exact absurd hx.1 (by simp)
      · obtain ⟨e1, rfl⟩ := hx
        cases e1
        refine ⟨rfl, ?_⟩
        refine r_st (st2 := [.int ((z_sv 0).getD i 0), .long m1.toInt64, .long ((lfd gr (fun e => chS m1 0 e / 10) i) i), .int (nI i), .ref mr]) rfl ?_
        refine r_cs (cs2 := [(m, .inr (12, [.int 0, .ref mp, .int pt, .ref mf, .ref mh, .ref mn, .ref mt, .ref mz, .ref mc_, .ref mq, .ref mgr, .int cl, .int wa, .int co_, .int fi, .int bu, .int ho, .ref ml, .ref mi, .ref mr, .int lh, .int mg, .int wd, .int fpi, .int fal, .ref mm, .ref mu, .ref mk, .ref mx, .long po, .long de])), (mi, .inl (0, 4, .inl ir)), (mr, .inl (3, 16, .inr (.inl (lfd gr (fun e => chS m1 0 e / 10) i))))]) rfl ?_
        refine r_i2l d_Mm_charge_165 (v := ((z_sv 0).getD i 0).toInt64) rfl ?_
        refine r_lmul d_Mm_charge_166 (v := chS m1 0 i) rfl ?_
        refine r_ldc2 ct_Mm_244 d_Mm_charge_167 ?_
        refine r_ldiv d_Mm_charge_170 (v := (chS m1 0 i) / 10) (by decide) rfl ?_
        refine r_ladd d_Mm_charge_171 (v := ((lfd gr (fun e => chS m1 0 e / 10) i) i) + ((chS m1 0 i) / 10)) rfl ?_
        refine r_last d_Mm_charge_172 (q0 := 2) rfl (vp_in_nI (by omega) (by omega)) (f' := lfd gr (fun e => chS m1 0 e / 10) (i + 1)) (by rw [nI_clamp (by omega)] <;> rfl) (cs' := [(m, .inr (12, [.int 0, .ref mp, .int pt, .ref mf, .ref mh, .ref mn, .ref mt, .ref mz, .ref mc_, .ref mq, .ref mgr, .int cl, .int wa, .int co_, .int fi, .int bu, .int ho, .ref ml, .ref mi, .ref mr, .int lh, .int mg, .int wd, .int fpi, .int fal, .ref mm, .ref mu, .ref mk, .ref mx, .long po, .long de])), (mi, .inl (0, 4, .inl ir)), (mr, .inl (3, 16, .inr (.inl (lfd gr (fun e => chS m1 0 e / 10) (i + 1)))))]) rfl ?_
        refine r_iinc (lv' := [(4, .int (nI (i + 1))), (2, .int m1), (1, .int 112), (0, .ref m)]) (v := nI (i + 1)) d_Mm_charge_173 (j := 0) rfl (nI_add _ _) (by decide) rfl ?_
        refine r_goto (tgt := 143) d_Mm_charge_176 (by decide) ?_
        refine r_lvE (lv2 := [(4, .int (nI (i + 1))), (2, .int m1), (1, .int 112), (0, .ref m)]) (rfl) ?_
        refine r_cs (cs2 := [(m, .inr (12, [.int 0, .ref mp, .int pt, .ref mf, .ref mh, .ref mn, .ref mt, .ref mz, .ref mc_, .ref mq, .ref mgr, .int cl, .int wa, .int co_, .int fi, .int bu, .int ho, .ref ml, .ref mi, .ref mr, .int lh, .int mg, .int wd, .int fpi, .int fal, .ref mm, .ref mu, .ref mk, .ref mx, .long po, .long de])), (mi, .inl (0, 4, .inl ir)), (mr, .inl (3, 16, .inr (.inl (lfd gr (fun e => chS m1 0 e / 10) (i + 1)))))]) (rfl) ?_
        exact ih (i + 1) (by omega) (by omega)
