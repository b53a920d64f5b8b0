theorem IW.kpF {g : zG} {ad : Nat → Nat} {t : zTT} {u : zNN} {w w1 : zW} (h : IW g ad t u w) {L i : Nat} {e : zE} (hL : L < 7) (hi : i < 71) (hil : i ∉ z_lx) (hw : w (ad i) = some e) (hke : z_ke (fun q => q = ad (z_lx.getD L 0) ∨ u.2.1 L = some q) w w1) : w1 (ad i) = some e := by
  have hx : z_lx.getD L 0 < 71 ∧ z_lx.getD L 0 ∈ z_lx := (show ∀ L, L < 7 → z_lx.getD L 0 < 71 ∧ z_lx.getD L 0 ∈ z_lx by decide) L hL
  refine hke _ _ (fun h9 => ?_) hw
  rcases h9 with h9 | h9
  · exact hil (h.1.1 _ _ hi hx.1 h9 ▸ hx.2)
  · obtain ⟨N, f, e5⟩ := (h.2.1.1 L hL).bk h9
    exact h.1.n5 e5 i hi rfl
theorem d_Mm_pour_144 : decode prog_14_method_77_code 144 = .ok (.iload 8, 2) := by decide +kernel
theorem d_Mm_pour_146 : decode prog_14_method_77_code 146 = .ok (.iconst 4, 1) := by decide +kernel
theorem d_Mm_pour_147 : decode prog_14_method_77_code 147 = .ok (.if_icmp .ge 48, 3) := by decide +kernel
theorem d_Mm_pour_150 : decode prog_14_method_77_code 150 = .ok (.aload 6, 2) := by decide +kernel
theorem d_Mm_pour_152 : decode prog_14_method_77_code 152 = .ok (.iload 8, 2) := by decide +kernel
theorem d_Mm_pour_154 : decode prog_14_method_77_code 154 = .ok (.aload_n 0, 1) := by decide +kernel
theorem d_Mm_pour_155 : decode prog_14_method_77_code 155 = .ok (.getfield 65, 3) := by decide +kernel
theorem d_Mm_pour_158 : decode prog_14_method_77_code 158 = .ok (.iconst 4, 1) := by decide +kernel
theorem d_Mm_pour_159 : decode prog_14_method_77_code 159 = .ok (.iload 8, 2) := by decide +kernel
theorem d_Mm_pour_161 : decode prog_14_method_77_code 161 = .ok (.iadd, 1) := by decide +kernel
theorem d_Mm_pour_162 : decode prog_14_method_77_code 162 = .ok (.laload, 1) := by decide +kernel
theorem d_Mm_pour_163 : decode prog_14_method_77_code 163 = .ok (.iload 4, 2) := by decide +kernel
theorem d_Mm_pour_165 : decode prog_14_method_77_code 165 = .ok (.i2l, 1) := by decide +kernel
theorem d_Mm_pour_166 : decode prog_14_method_77_code 166 = .ok (.lmul, 1) := by decide +kernel
theorem d_Mm_pour_167 : decode prog_14_method_77_code 167 = .ok (.iload 7, 2) := by decide +kernel
theorem d_Mm_pour_169 : decode prog_14_method_77_code 169 = .ok (.i2l, 1) := by decide +kernel
theorem d_Mm_pour_170 : decode prog_14_method_77_code 170 = .ok (.ldiv, 1) := by decide +kernel
theorem d_Mm_pour_171 : decode prog_14_method_77_code 171 = .ok (.lastore, 1) := by decide +kernel
theorem d_Mm_pour_172 : decode prog_14_method_77_code 172 = .ok (.aload_n 0, 1) := by decide +kernel
theorem d_Mm_pour_173 : decode prog_14_method_77_code 173 = .ok (.getfield 65, 3) := by decide +kernel
theorem d_Mm_pour_176 : decode prog_14_method_77_code 176 = .ok (.iconst 4, 1) := by decide +kernel
theorem d_Mm_pour_177 : decode prog_14_method_77_code 177 = .ok (.iload 8, 2) := by decide +kernel
theorem d_Mm_pour_179 : decode prog_14_method_77_code 179 = .ok (.iadd, 1) := by decide +kernel
theorem d_Mm_pour_180 : decode prog_14_method_77_code 180 = .ok (.dup2, 1) := by decide +kernel
theorem d_Mm_pour_181 : decode prog_14_method_77_code 181 = .ok (.laload, 1) := by decide +kernel
theorem d_Mm_pour_182 : decode prog_14_method_77_code 182 = .ok (.aload 6, 2) := by decide +kernel
theorem d_Mm_pour_184 : decode prog_14_method_77_code 184 = .ok (.iload 8, 2) := by decide +kernel
theorem d_Mm_pour_186 : decode prog_14_method_77_code 186 = .ok (.laload, 1) := by decide +kernel
theorem d_Mm_pour_187 : decode prog_14_method_77_code 187 = .ok (.lsub, 1) := by decide +kernel
theorem d_Mm_pour_188 : decode prog_14_method_77_code 188 = .ok (.lastore, 1) := by decide +kernel
theorem d_Mm_pour_189 : decode prog_14_method_77_code 189 = .ok (.iinc 8 1, 3) := by decide +kernel
theorem d_Mm_pour_192 : decode prog_14_method_77_code 192 = .ok (.goto (-48), 3) := by decide +kernel
set_option maxHeartbeats 4000000 in
set_option maxRecDepth 100000 in
theorem LK_pour (g : zG) {Ψ : zO → zW → Prop} {w0 : zW} {n kc ks : Nat} {ad : Nat → Nat} {t : zTT} (v_m_th v_m_cl v_m_wa v_m_co_ v_m_fi v_m_bu v_m_ho v_m_lh v_m_mg v_m_wd : Int32) (v_m_po v_m_de : Int64) (fl he nx mtt fz ic gp f_i f_n mif : Nat → Int32) (qn : Nat → Nat) (its nb q124 q129 : Nat) (tk wt : Int32) (hall : ¬ mif 1 = 0) (K : ∀ (gr9 mg9 : Nat → Int64), DU g M_Mm_pour Ψ w0 n 195 [(6, .ref q129), (5, .ref q124), (4, .int tk), (3, .int wt), (2, .ref nb), (1, .ref its), (0, .ref (ad 52))] [] [((ad 52), .inr (12, [.int v_m_th, .ref (ad 53), .int (nI t.2.2.2.1), .ref (ad 54), .ref (ad 55), .ref (ad 56), .ref (ad 57), .ref (ad 58), .ref (ad 59), .ref (ad 60), .ref (ad 61), .int v_m_cl, .int v_m_wa, .int v_m_co_, .int v_m_fi, .int v_m_bu, .int v_m_ho, .ref (ad 62), .ref (ad 63), .ref (ad 64), .int v_m_lh, .int v_m_mg, .int v_m_wd, .int (t.2.2.2.2 3), .int (t.2.2.2.2 4), .ref (ad 65), .ref (ad 66), .ref (ad 67), .ref (ad 68), .long v_m_po, .long v_m_de])), ((ad 63), .inl (0, 4, .inl mif)), ((ad 64), .inl (3, 16, .inr (.inl gr9))), ((ad 54), .inl (0, 108, .inl fl)), ((ad 55), .inl (0, 108, .inl he)), ((ad 56), .inl (0, 108, .inl nx)), ((ad 57), .inl (0, 108, .inl mtt)), ((ad 58), .inl (0, 108, .inl fz)), ((ad 59), .inl (2, 108, .inl ic)), ((ad 60), .inl (0, 108, .inl (fun k => nI (qn k)))), ((ad 61), .inl (0, 108, .inl gp)), (its, .inl (1, 108, .inl f_i)), (nb, .inl (0, 5, .inl f_n)), (q124, .inl (0, 6, .inl (fun _ => 0))), (q129, .inl (3, 4, .inr (.inl mg9)))] kc ks) : ∀ (d i : Nat) (gr9 mg9 : Nat → Int64), i ≤ 4 → 4 < i + d → DU g M_Mm_pour Ψ w0 n 144 [(8, .int (nI i)), (7, .int (mif 1)), (6, .ref q129), (5, .ref q124), (4, .int tk), (3, .int wt), (2, .ref nb), (1, .ref its), (0, .ref (ad 52))] [] [((ad 52), .inr (12, [.int v_m_th, .ref (ad 53), .int (nI t.2.2.2.1), .ref (ad 54), .ref (ad 55), .ref (ad 56), .ref (ad 57), .ref (ad 58), .ref (ad 59), .ref (ad 60), .ref (ad 61), .int v_m_cl, .int v_m_wa, .int v_m_co_, .int v_m_fi, .int v_m_bu, .int v_m_ho, .ref (ad 62), .ref (ad 63), .ref (ad 64), .int v_m_lh, .int v_m_mg, .int v_m_wd, .int (t.2.2.2.2 3), .int (t.2.2.2.2 4), .ref (ad 65), .ref (ad 66), .ref (ad 67), .ref (ad 68), .long v_m_po, .long v_m_de])), ((ad 63), .inl (0, 4, .inl mif)), ((ad 64), .inl (3, 16, .inr (.inl gr9))), ((ad 54), .inl (0, 108, .inl fl)), ((ad 55), .inl (0, 108, .inl he)), ((ad 56), .inl (0, 108, .inl nx)), ((ad 57), .inl (0, 108, .inl mtt)), ((ad 58), .inl (0, 108, .inl fz)), ((ad 59), .inl (2, 108, .inl ic)), ((ad 60), .inl (0, 108, .inl (fun k => nI (qn k)))), ((ad 61), .inl (0, 108, .inl gp)), (its, .inl (1, 108, .inl f_i)), (nb, .inl (0, 5, .inl f_n)), (q124, .inl (0, 6, .inl (fun _ => 0))), (q129, .inl (3, 4, .inr (.inl mg9)))] kc ks := by
  intro d
  induction d with
  | zero => intro i gr9 mg9 h1 h2; exact absurd h2 (by omega)
  | succ d ih =>
    intro i gr9 mg9 h1 h2
    refine y_iload d_Mm_pour_144 0 rfl ?_
    refine y_iconst d_Mm_pour_146 (v := 4) (by decide) ?_
    refine y_icmp_ge (tgt := 195) d_Mm_pour_147 (by decide) (fun c_147 => ?_) (fun c_147 => ?_)
    · have hn := z_le (a := 4) (by omega) (by decide) c_147
      obtain rfl : i = 4 := by omega
      refine y_lv (lv' := [(6, .ref q129), (5, .ref q124), (4, .int tk), (3, .int wt), (2, .ref nb), (1, .ref its), (0, .ref (ad 52))]) [2, 3, 4, 5, 6, 7, 8] rfl ?_
      exact K _ _
    · have hn := z_nle (a := 4) (by omega) (by decide) c_147
      refine y_aload d_Mm_pour_150 2 rfl ?_
      refine y_iload d_Mm_pour_152 0 rfl ?_
      refine y_aload_n d_Mm_pour_154 rfl 8 rfl ?_
      refine y_get fs_Mm_65 d_Mm_pour_155 (q0 := 0) rfl rfl ?_
      refine y_iconst d_Mm_pour_158 (v := 4) (by decide) ?_
      refine y_iload d_Mm_pour_159 0 rfl ?_
      refine y_iadd d_Mm_pour_161 (v := nI (4 + i)) (nI_add _ _) ?_
      refine y_lald d_Mm_pour_162 (q0 := 2) rfl (vp_in_nI (by omega) (by omega)) (v := gr9 (4 + i)) (by rw [nI_clamp (by omega)]) ?_
      refine y_iload d_Mm_pour_163 4 rfl ?_
      refine y_i2l d_Mm_pour_165 (v := tk.toInt64) rfl ?_
      refine y_lmul d_Mm_pour_166 (v := (gr9 (4 + i)) * tk.toInt64) rfl ?_
      refine y_iload d_Mm_pour_167 1 rfl ?_
      refine y_i2l d_Mm_pour_169 (v := (mif 1).toInt64) rfl ?_
      refine y_ldiv d_Mm_pour_170 (v := ((gr9 (4 + i)) * tk.toInt64) / ((mif 1).toInt64)) (z_l0 hall) rfl ?_
      refine y_last d_Mm_pour_171 (q0 := 14) rfl (vp_in_nI (by omega) (by omega)) (f' := vp_updL mg9 i (((gr9 (4 + i)) * tk.toInt64) / ((mif 1).toInt64))) (by rw [nI_clamp (by omega)]) (cs' := [((ad 52), .inr (12, [.int v_m_th, .ref (ad 53), .int (nI t.2.2.2.1), .ref (ad 54), .ref (ad 55), .ref (ad 56), .ref (ad 57), .ref (ad 58), .ref (ad 59), .ref (ad 60), .ref (ad 61), .int v_m_cl, .int v_m_wa, .int v_m_co_, .int v_m_fi, .int v_m_bu, .int v_m_ho, .ref (ad 62), .ref (ad 63), .ref (ad 64), .int v_m_lh, .int v_m_mg, .int v_m_wd, .int (t.2.2.2.2 3), .int (t.2.2.2.2 4), .ref (ad 65), .ref (ad 66), .ref (ad 67), .ref (ad 68), .long v_m_po, .long v_m_de])), ((ad 63), .inl (0, 4, .inl mif)), ((ad 64), .inl (3, 16, .inr (.inl gr9))), ((ad 54), .inl (0, 108, .inl fl)), ((ad 55), .inl (0, 108, .inl he)), ((ad 56), .inl (0, 108, .inl nx)), ((ad 57), .inl (0, 108, .inl mtt)), ((ad 58), .inl (0, 108, .inl fz)), ((ad 59), .inl (2, 108, .inl ic)), ((ad 60), .inl (0, 108, .inl (fun k => nI (qn k)))), ((ad 61), .inl (0, 108, .inl gp)), (its, .inl (1, 108, .inl f_i)), (nb, .inl (0, 5, .inl f_n)), (q124, .inl (0, 6, .inl (fun _ => 0))), (q129, .inl (3, 4, .inr (.inl (vp_updL mg9 i (((gr9 (4 + i)) * tk.toInt64) / ((mif 1).toInt64))))))]) rfl ?_
      refine y_aload_n d_Mm_pour_172 rfl 8 rfl ?_
      refine y_get fs_Mm_65 d_Mm_pour_173 (q0 := 0) rfl rfl ?_
      refine y_iconst d_Mm_pour_176 (v := 4) (by decide) ?_
      refine y_iload d_Mm_pour_177 0 rfl ?_
      refine y_iadd d_Mm_pour_179 (v := nI (4 + i)) (nI_add _ _) ?_
      refine y_dup2_11 d_Mm_pour_180 rfl rfl ?_
      refine y_lald d_Mm_pour_181 (q0 := 2) rfl (vp_in_nI (by omega) (by omega)) (v := gr9 (4 + i)) (by rw [nI_clamp (by omega)]) ?_
      refine y_aload d_Mm_pour_182 2 rfl ?_
      refine y_iload d_Mm_pour_184 0 rfl ?_
      refine y_lald d_Mm_pour_186 (q0 := 14) rfl (vp_in_nI (by omega) (by omega)) (v := (vp_updL mg9 i (((gr9 (4 + i)) * tk.toInt64) / ((mif 1).toInt64))) i) (by rw [nI_clamp (by omega)]) ?_
      refine y_lsub d_Mm_pour_187 (v := (gr9 (4 + i)) - ((vp_updL mg9 i (((gr9 (4 + i)) * tk.toInt64) / ((mif 1).toInt64))) i)) rfl ?_
      refine y_last d_Mm_pour_188 (q0 := 2) rfl (vp_in_nI (by omega) (by omega)) (f' := vp_updL gr9 (4 + i) ((gr9 (4 + i)) - ((vp_updL mg9 i (((gr9 (4 + i)) * tk.toInt64) / ((mif 1).toInt64))) i))) (by rw [nI_clamp (by omega)]) (cs' := [((ad 52), .inr (12, [.int v_m_th, .ref (ad 53), .int (nI t.2.2.2.1), .ref (ad 54), .ref (ad 55), .ref (ad 56), .ref (ad 57), .ref (ad 58), .ref (ad 59), .ref (ad 60), .ref (ad 61), .int v_m_cl, .int v_m_wa, .int v_m_co_, .int v_m_fi, .int v_m_bu, .int v_m_ho, .ref (ad 62), .ref (ad 63), .ref (ad 64), .int v_m_lh, .int v_m_mg, .int v_m_wd, .int (t.2.2.2.2 3), .int (t.2.2.2.2 4), .ref (ad 65), .ref (ad 66), .ref (ad 67), .ref (ad 68), .long v_m_po, .long v_m_de])), ((ad 63), .inl (0, 4, .inl mif)), ((ad 64), .inl (3, 16, .inr (.inl (vp_updL gr9 (4 + i) ((gr9 (4 + i)) - ((vp_updL mg9 i (((gr9 (4 + i)) * tk.toInt64) / ((mif 1).toInt64))) i)))))), ((ad 54), .inl (0, 108, .inl fl)), ((ad 55), .inl (0, 108, .inl he)), ((ad 56), .inl (0, 108, .inl nx)), ((ad 57), .inl (0, 108, .inl mtt)), ((ad 58), .inl (0, 108, .inl fz)), ((ad 59), .inl (2, 108, .inl ic)), ((ad 60), .inl (0, 108, .inl (fun k => nI (qn k)))), ((ad 61), .inl (0, 108, .inl gp)), (its, .inl (1, 108, .inl f_i)), (nb, .inl (0, 5, .inl f_n)), (q124, .inl (0, 6, .inl (fun _ => 0))), (q129, .inl (3, 4, .inr (.inl (vp_updL mg9 i (((gr9 (4 + i)) * tk.toInt64) / ((mif 1).toInt64))))))]) rfl ?_
      refine y_iinc (lv' := [(8, .int (nI (i + 1))), (7, .int (mif 1)), (6, .ref q129), (5, .ref q124), (4, .int tk), (3, .int wt), (2, .ref nb), (1, .ref its), (0, .ref (ad 52))]) (v := nI (i + 1)) d_Mm_pour_189 (j := 0) rfl (nI_add _ _) (by decide) rfl ?_
      refine y_goto (tgt := 144) d_Mm_pour_192 (by decide) ?_
      exact ih (i + 1) _ _ (by omega) (by omega)
theorem d_Mm_pour_457 : decode prog_14_method_77_code 457 = .ok (.iadd, 1) := by decide +kernel
theorem d_Mm_pour_458 : decode prog_14_method_77_code 458 = .ok (.iadd, 1) := by decide +kernel
theorem d_Mm_pour_459 : decode prog_14_method_77_code 459 = .ok (.istore 11, 2) := by decide +kernel
set_option maxHeartbeats 4000000 in
set_option maxRecDepth 100000 in
theorem J11_pour (g : zG) {Ψ : zO → zW → Prop} {w0 : zW} {n kc ks : Nat} {ad : Nat → Nat} {t : zTT} (v_m_th v_m_cl v_m_wa v_m_co_ v_m_fi v_m_bu v_m_ho v_m_lh v_m_mg v_m_wd : Int32) (v_m_po v_m_de : Int64) (fl he nx mtt fz ic gp f_i f_n mif mdf : Nat → Int32) (qn : Nat → Nat) (gr9 mg9 : Nat → Int64) (its nb q124 q129 p_n : Nat) (tk wt : Int32) (hT : ¬ tk = 0) (hch_i : z_ch f_i) (hg_i : ¬ fa_cnt (fun k => decide (f_i k = 103)) 12 = 0) (h0_n : f_n 0 = nI p_n) (hp_n : 1 ≤ p_n ∧ p_n < 9) (x4 : Int32) (z2 y2 x x8 x10 x11 : Int32) (K : ∀ (x11 x4 : Int32) (gp : Nat → Int32) (qn : Nat → Nat), DU g M_Mm_pour Ψ w0 n 461 [(11, .int x11), (6, .ref q129), (5, .ref q124), (0, .ref (ad 52))] [] [((ad 52), .inr (12, [.int v_m_th, .ref (ad 53), .int (nI t.2.2.2.1), .ref (ad 54), .ref (ad 55), .ref (ad 56), .ref (ad 57), .ref (ad 58), .ref (ad 59), .ref (ad 60), .ref (ad 61), .int v_m_cl, .int v_m_wa, .int v_m_co_, .int v_m_fi, .int v_m_bu, .int v_m_ho, .ref (ad 62), .ref (ad 63), .ref (ad 64), .int v_m_lh, .int v_m_mg, .int v_m_wd, .int (t.2.2.2.2 3), .int (t.2.2.2.2 4), .ref (ad 65), .ref (ad 66), .ref (ad 67), .ref (ad 68), .long v_m_po, .long v_m_de])), ((ad 63), .inl (0, 4, .inl mif)), ((ad 64), .inl (3, 16, .inr (.inl gr9))), ((ad 54), .inl (0, 108, .inl fl)), ((ad 55), .inl (0, 108, .inl he)), ((ad 56), .inl (0, 108, .inl nx)), ((ad 57), .inl (0, 108, .inl mtt)), ((ad 58), .inl (0, 108, .inl fz)), ((ad 59), .inl (2, 108, .inl ic)), ((ad 60), .inl (0, 108, .inl (fun k => nI (qn k)))), ((ad 61), .inl (0, 108, .inl gp)), (its, .inl (1, 108, .inl f_i)), (nb, .inl (0, 5, .inl f_n)), (q124, .inl (0, 6, .inl (upd mdf 4 x4))), (q129, .inl (3, 4, .inr (.inl mg9)))] kc ks) : DU g M_Mm_pour Ψ w0 n 457 [(11, .int x11), (10, .int x10), (8, .int x8), (6, .ref q129), (5, .ref q124), (4, .int tk), (3, .int wt), (2, .ref nb), (1, .ref its), (0, .ref (ad 52))] [.int z2, .int y2, .int x] [((ad 52), .inr (12, [.int v_m_th, .ref (ad 53), .int (nI t.2.2.2.1), .ref (ad 54), .ref (ad 55), .ref (ad 56), .ref (ad 57), .ref (ad 58), .ref (ad 59), .ref (ad 60), .ref (ad 61), .int v_m_cl, .int v_m_wa, .int v_m_co_, .int v_m_fi, .int v_m_bu, .int v_m_ho, .ref (ad 62), .ref (ad 63), .ref (ad 64), .int v_m_lh, .int v_m_mg, .int v_m_wd, .int (t.2.2.2.2 3), .int (t.2.2.2.2 4), .ref (ad 65), .ref (ad 66), .ref (ad 67), .ref (ad 68), .long v_m_po, .long v_m_de])), ((ad 63), .inl (0, 4, .inl mif)), ((ad 64), .inl (3, 16, .inr (.inl gr9))), ((ad 54), .inl (0, 108, .inl fl)), ((ad 55), .inl (0, 108, .inl he)), ((ad 56), .inl (0, 108, .inl nx)), ((ad 57), .inl (0, 108, .inl mtt)), ((ad 58), .inl (0, 108, .inl fz)), ((ad 59), .inl (2, 108, .inl ic)), ((ad 60), .inl (0, 108, .inl (fun k => nI (qn k)))), ((ad 61), .inl (0, 108, .inl gp)), (its, .inl (1, 108, .inl f_i)), (nb, .inl (0, 5, .inl f_n)), (q124, .inl (0, 6, .inl (upd mdf 4 x4))), (q129, .inl (3, 4, .inr (.inl mg9)))] kc ks := by
  refine y_iadd d_Mm_pour_457 (v := y2 + z2) rfl ?_
  refine y_iadd d_Mm_pour_458 (v := x + (y2 + z2)) rfl ?_
  refine y_istore (lv' := [(11, .int (x + (y2 + z2))), (10, .int x10), (8, .int x8), (6, .ref q129), (5, .ref q124), (4, .int tk), (3, .int wt), (2, .ref nb), (1, .ref its), (0, .ref (ad 52))]) d_Mm_pour_459 (by decide) rfl ?_
  refine y_lv (lv' := [(11, .int (x + (y2 + z2))), (6, .ref q129), (5, .ref q124), (0, .ref (ad 52))]) [0, 3, 4, 9] rfl ?_
  exact K _ _ _ _
theorem d_Mm_pour_445 : decode prog_14_method_77_code 445 = .ok (.iadd, 1) := by decide +kernel
theorem d_Mm_pour_446 : decode prog_14_method_77_code 446 = .ok (.iload 10, 2) := by decide +kernel
theorem d_Mm_pour_448 : decode prog_14_method_77_code 448 = .ok (.ifCond .eq 8, 3) := by decide +kernel
theorem d_Mm_pour_456 : decode prog_14_method_77_code 456 = .ok (.iconst 0, 1) := by decide +kernel
theorem d_Mm_pour_451 : decode prog_14_method_77_code 451 = .ok (.bipush 32, 2) := by decide +kernel
theorem d_Mm_pour_453 : decode prog_14_method_77_code 453 = .ok (.goto 4, 3) := by decide +kernel
set_option maxHeartbeats 4000000 in
set_option maxRecDepth 100000 in
theorem J10_pour (g : zG) {Ψ : zO → zW → Prop} {w0 : zW} {n kc ks : Nat} {ad : Nat → Nat} {t : zTT} (v_m_th v_m_cl v_m_wa v_m_co_ v_m_fi v_m_bu v_m_ho v_m_lh v_m_mg v_m_wd : Int32) (v_m_po v_m_de : Int64) (fl he nx mtt fz ic gp f_i f_n mif mdf : Nat → Int32) (qn : Nat → Nat) (gr9 mg9 : Nat → Int64) (its nb q124 q129 p_n : Nat) (tk wt : Int32) (hT : ¬ tk = 0) (hch_i : z_ch f_i) (hg_i : ¬ fa_cnt (fun k => decide (f_i k = 103)) 12 = 0) (h0_n : f_n 0 = nI p_n) (hp_n : 1 ≤ p_n ∧ p_n < 9) (x4 : Int32) (z y x x8 x10 x11 : Int32) (K : ∀ (x11 x4 : Int32) (gp : Nat → Int32) (qn : Nat → Nat), DU g M_Mm_pour Ψ w0 n 461 [(11, .int x11), (6, .ref q129), (5, .ref q124), (0, .ref (ad 52))] [] [((ad 52), .inr (12, [.int v_m_th, .ref (ad 53), .int (nI t.2.2.2.1), .ref (ad 54), .ref (ad 55), .ref (ad 56), .ref (ad 57), .ref (ad 58), .ref (ad 59), .ref (ad 60), .ref (ad 61), .int v_m_cl, .int v_m_wa, .int v_m_co_, .int v_m_fi, .int v_m_bu, .int v_m_ho, .ref (ad 62), .ref (ad 63), .ref (ad 64), .int v_m_lh, .int v_m_mg, .int v_m_wd, .int (t.2.2.2.2 3), .int (t.2.2.2.2 4), .ref (ad 65), .ref (ad 66), .ref (ad 67), .ref (ad 68), .long v_m_po, .long v_m_de])), ((ad 63), .inl (0, 4, .inl mif)), ((ad 64), .inl (3, 16, .inr (.inl gr9))), ((ad 54), .inl (0, 108, .inl fl)), ((ad 55), .inl (0, 108, .inl he)), ((ad 56), .inl (0, 108, .inl nx)), ((ad 57), .inl (0, 108, .inl mtt)), ((ad 58), .inl (0, 108, .inl fz)), ((ad 59), .inl (2, 108, .inl ic)), ((ad 60), .inl (0, 108, .inl (fun k => nI (qn k)))), ((ad 61), .inl (0, 108, .inl gp)), (its, .inl (1, 108, .inl f_i)), (nb, .inl (0, 5, .inl f_n)), (q124, .inl (0, 6, .inl (upd mdf 4 x4))), (q129, .inl (3, 4, .inr (.inl mg9)))] kc ks) : DU g M_Mm_pour Ψ w0 n 445 [(11, .int x11), (10, .int x10), (8, .int x8), (6, .ref q129), (5, .ref q124), (4, .int tk), (3, .int wt), (2, .ref nb), (1, .ref its), (0, .ref (ad 52))] [.int z, .int y, .int x] [((ad 52), .inr (12, [.int v_m_th, .ref (ad 53), .int (nI t.2.2.2.1), .ref (ad 54), .ref (ad 55), .ref (ad 56), .ref (ad 57), .ref (ad 58), .ref (ad 59), .ref (ad 60), .ref (ad 61), .int v_m_cl, .int v_m_wa, .int v_m_co_, .int v_m_fi, .int v_m_bu, .int v_m_ho, .ref (ad 62), .ref (ad 63), .ref (ad 64), .int v_m_lh, .int v_m_mg, .int v_m_wd, .int (t.2.2.2.2 3), .int (t.2.2.2.2 4), .ref (ad 65), .ref (ad 66), .ref (ad 67), .ref (ad 68), .long v_m_po, .long v_m_de])), ((ad 63), .inl (0, 4, .inl mif)), ((ad 64), .inl (3, 16, .inr (.inl gr9))), ((ad 54), .inl (0, 108, .inl fl)), ((ad 55), .inl (0, 108, .inl he)), ((ad 56), .inl (0, 108, .inl nx)), ((ad 57), .inl (0, 108, .inl mtt)), ((ad 58), .inl (0, 108, .inl fz)), ((ad 59), .inl (2, 108, .inl ic)), ((ad 60), .inl (0, 108, .inl (fun k => nI (qn k)))), ((ad 61), .inl (0, 108, .inl gp)), (its, .inl (1, 108, .inl f_i)), (nb, .inl (0, 5, .inl f_n)), (q124, .inl (0, 6, .inl (upd mdf 4 x4))), (q129, .inl (3, 4, .inr (.inl mg9)))] kc ks := by
  refine y_iadd d_Mm_pour_445 (v := y + z) rfl ?_
  refine y_iload d_Mm_pour_446 1 rfl ?_
  refine y_if_eq (tgt := 456) d_Mm_pour_448 (by decide) (fun c_448 => ?_) (fun c_448 => ?_)
  · refine y_iconst d_Mm_pour_456 (v := 0) (by decide) ?_
    refine y_lv (lv' := [(11, .int x11), (10, .int x10), (8, .int x8), (6, .ref q129), (5, .ref q124), (4, .int tk), (3, .int wt), (2, .ref nb), (1, .ref its), (0, .ref (ad 52))]) [0, 1, 2, 3, 4, 5, 6, 7, 8, 9] rfl ?_
    exact J11_pour g v_m_th v_m_cl v_m_wa v_m_co_ v_m_fi v_m_bu v_m_ho v_m_lh v_m_mg v_m_wd v_m_po v_m_de fl he nx mtt fz ic gp f_i f_n mif mdf qn gr9 mg9 its nb q124 q129 p_n tk wt hT hch_i hg_i h0_n hp_n x4 _ _ _ _ _ _ K
  · refine y_bipush d_Mm_pour_451 (v := 32) (by decide) ?_
    refine y_goto (tgt := 457) d_Mm_pour_453 (by decide) ?_
    refine y_lv (lv' := [(11, .int x11), (10, .int x10), (8, .int x8), (6, .ref q129), (5, .ref q124), (4, .int tk), (3, .int wt), (2, .ref nb), (1, .ref its), (0, .ref (ad 52))]) [0, 1, 2, 3, 4, 5, 6, 7, 8, 9] rfl ?_
    exact J11_pour g v_m_th v_m_cl v_m_wa v_m_co_ v_m_fi v_m_bu v_m_ho v_m_lh v_m_mg v_m_wd v_m_po v_m_de fl he nx mtt fz ic gp f_i f_n mif mdf qn gr9 mg9 its nb q124 q129 p_n tk wt hT hch_i hg_i h0_n hp_n x4 _ _ _ _ _ _ K
theorem d_Mm_pour_421 : decode prog_14_method_77_code 421 = .ok (.aload_n 0, 1) := by decide +kernel
theorem d_Mm_pour_422 : decode prog_14_method_77_code 422 = .ok (.aload_n 1, 1) := by decide +kernel
theorem d_Mm_pour_423 : decode prog_14_method_77_code 423 = .ok (.invokevirtual 131, 3) := by decide +kernel
theorem ok_Mm_pour_Mm_looseIn : z_ok M_Mm_pour M_Mm_looseIn 1 := ⟨z_mem (i := 1734) (by decide +kernel) (by decide +kernel), rfl, ⟨by decide +kernel, by decide +kernel, by decide +kernel⟩, ⟨by decide, by decide⟩, z_mem (i := 71) (by decide +kernel) (by decide +kernel), rfl⟩
theorem d_Mm_pour_426 : decode prog_14_method_77_code 426 = .ok (.ifCond .gt 13, 3) := by decide +kernel
theorem d_Mm_pour_439 : decode prog_14_method_77_code 439 = .ok (.bipush 16, 2) := by decide +kernel
theorem d_Mm_pour_441 : decode prog_14_method_77_code 441 = .ok (.goto 4, 3) := by decide +kernel
theorem d_Mm_pour_429 : decode prog_14_method_77_code 429 = .ok (.aload_n 1, 1) := by decide +kernel
theorem d_Mm_pour_430 : decode prog_14_method_77_code 430 = .ok (.aload_n 2, 1) := by decide +kernel
theorem d_Mm_pour_431 : decode prog_14_method_77_code 431 = .ok (.iconst 0, 1) := by decide +kernel
theorem d_Mm_pour_432 : decode prog_14_method_77_code 432 = .ok (.iaload, 1) := by decide +kernel
theorem d_Mm_pour_433 : decode prog_14_method_77_code 433 = .ok (.invokestatic 111, 3) := by decide +kernel
theorem ok_Mm_pour_Mm_undercutIn : z_ok M_Mm_pour M_Mm_undercutIn 2 := ⟨z_mem (i := 1708) (by decide +kernel) (by decide +kernel), rfl, ⟨by decide +kernel, by decide +kernel, by decide +kernel⟩, ⟨by decide, by decide⟩, z_mem (i := 71) (by decide +kernel) (by decide +kernel), rfl⟩
theorem d_Mm_pour_436 : decode prog_14_method_77_code 436 = .ok (.ifCond .le 8, 3) := by decide +kernel
theorem d_Mm_pour_444 : decode prog_14_method_77_code 444 = .ok (.iconst 0, 1) := by decide +kernel
set_option maxHeartbeats 4000000 in
set_option maxRecDepth 100000 in
theorem J9_pour (g : zG) {Ψ : zO → zW → Prop} {w0 : zW} {n kc ks : Nat} {ad : Nat → Nat} {t : zTT} (v_m_th v_m_cl v_m_wa v_m_co_ v_m_fi v_m_bu v_m_ho v_m_lh v_m_mg v_m_wd : Int32) (v_m_po v_m_de : Int64) (fl he nx mtt fz ic gp f_i f_n mif mdf : Nat → Int32) (qn : Nat → Nat) (gr9 mg9 : Nat → Int64) (its nb q124 q129 p_n : Nat) (tk wt : Int32) (hT : ¬ tk = 0) (hch_i : z_ch f_i) (hg_i : ¬ fa_cnt (fun k => decide (f_i k = 103)) 12 = 0) (h0_n : f_n 0 = nI p_n) (hp_n : 1 ≤ p_n ∧ p_n < 9) (x4 : Int32) (y x x8 x10 x11 : Int32) (K : ∀ (x11 x4 : Int32) (gp : Nat → Int32) (qn : Nat → Nat), DU g M_Mm_pour Ψ w0 n 461 [(11, .int x11), (6, .ref q129), (5, .ref q124), (0, .ref (ad 52))] [] [((ad 52), .inr (12, [.int v_m_th, .ref (ad 53), .int (nI t.2.2.2.1), .ref (ad 54), .ref (ad 55), .ref (ad 56), .ref (ad 57), .ref (ad 58), .ref (ad 59), .ref (ad 60), .ref (ad 61), .int v_m_cl, .int v_m_wa, .int v_m_co_, .int v_m_fi, .int v_m_bu, .int v_m_ho, .ref (ad 62), .ref (ad 63), .ref (ad 64), .int v_m_lh, .int v_m_mg, .int v_m_wd, .int (t.2.2.2.2 3), .int (t.2.2.2.2 4), .ref (ad 65), .ref (ad 66), .ref (ad 67), .ref (ad 68), .long v_m_po, .long v_m_de])), ((ad 63), .inl (0, 4, .inl mif)), ((ad 64), .inl (3, 16, .inr (.inl gr9))), ((ad 54), .inl (0, 108, .inl fl)), ((ad 55), .inl (0, 108, .inl he)), ((ad 56), .inl (0, 108, .inl nx)), ((ad 57), .inl (0, 108, .inl mtt)), ((ad 58), .inl (0, 108, .inl fz)), ((ad 59), .inl (2, 108, .inl ic)), ((ad 60), .inl (0, 108, .inl (fun k => nI (qn k)))), ((ad 61), .inl (0, 108, .inl gp)), (its, .inl (1, 108, .inl f_i)), (nb, .inl (0, 5, .inl f_n)), (q124, .inl (0, 6, .inl (upd mdf 4 x4))), (q129, .inl (3, 4, .inr (.inl mg9)))] kc ks) : DU g M_Mm_pour Ψ w0 n 421 [(11, .int x11), (10, .int x10), (8, .int x8), (6, .ref q129), (5, .ref q124), (4, .int tk), (3, .int wt), (2, .ref nb), (1, .ref its), (0, .ref (ad 52))] [.int y, .int x] [((ad 52), .inr (12, [.int v_m_th, .ref (ad 53), .int (nI t.2.2.2.1), .ref (ad 54), .ref (ad 55), .ref (ad 56), .ref (ad 57), .ref (ad 58), .ref (ad 59), .ref (ad 60), .ref (ad 61), .int v_m_cl, .int v_m_wa, .int v_m_co_, .int v_m_fi, .int v_m_bu, .int v_m_ho, .ref (ad 62), .ref (ad 63), .ref (ad 64), .int v_m_lh, .int v_m_mg, .int v_m_wd, .int (t.2.2.2.2 3), .int (t.2.2.2.2 4), .ref (ad 65), .ref (ad 66), .ref (ad 67), .ref (ad 68), .long v_m_po, .long v_m_de])), ((ad 63), .inl (0, 4, .inl mif)), ((ad 64), .inl (3, 16, .inr (.inl gr9))), ((ad 54), .inl (0, 108, .inl fl)), ((ad 55), .inl (0, 108, .inl he)), ((ad 56), .inl (0, 108, .inl nx)), ((ad 57), .inl (0, 108, .inl mtt)), ((ad 58), .inl (0, 108, .inl fz)), ((ad 59), .inl (2, 108, .inl ic)), ((ad 60), .inl (0, 108, .inl (fun k => nI (qn k)))), ((ad 61), .inl (0, 108, .inl gp)), (its, .inl (1, 108, .inl f_i)), (nb, .inl (0, 5, .inl f_n)), (q124, .inl (0, 6, .inl (upd mdf 4 x4))), (q129, .inl (3, 4, .inr (.inl mg9)))] kc ks := by
  refine y_aload_n d_Mm_pour_421 rfl 9 rfl ?_
  refine y_aload_n d_Mm_pour_422 rfl 8 rfl ?_
  refine y_callV (As := [.ref its]) (rest := [.int y, .int x]) (csC := [((ad 52), .inr (12, [.int v_m_th, .ref (ad 53), .int (nI t.2.2.2.1), .ref (ad 54), .ref (ad 55), .ref (ad 56), .ref (ad 57), .ref (ad 58), .ref (ad 59), .ref (ad 60), .ref (ad 61), .int v_m_cl, .int v_m_wa, .int v_m_co_, .int v_m_fi, .int v_m_bu, .int v_m_ho, .ref (ad 62), .ref (ad 63), .ref (ad 64), .int v_m_lh, .int v_m_mg, .int v_m_wd, .int (t.2.2.2.2 3), .int (t.2.2.2.2 4), .ref (ad 65), .ref (ad 66), .ref (ad 67), .ref (ad 68), .long v_m_po, .long v_m_de])), (its, .inl (1, 108, .inl f_i)), ((ad 61), .inl (0, 108, .inl gp)), ((ad 60), .inl (0, 108, .inl (fun k => nI (qn k))))]) (is := [0, 11, 10, 9]) (q0 := 0) rfl rfl ln_Mm_131 w_im_Mm_looseIn w_se_Mm_looseIn ok_Mm_pour_Mm_looseIn d_Mm_pour_423 (C_Mm_looseInW g (ad 52) (ad 53) (ad 54) (ad 55) (ad 56) (ad 57) (ad 58) (ad 59) (ad 60) (ad 61) (ad 62) (ad 63) (ad 64) (ad 65) (ad 66) (ad 67) (ad 68) v_m_th (nI t.2.2.2.1) v_m_cl v_m_wa v_m_co_ v_m_fi v_m_bu v_m_ho v_m_lh v_m_mg v_m_wd (t.2.2.2.2 3) (t.2.2.2.2 4) v_m_po v_m_de its f_i gp qn) rfl rfl (Nat.le_of_ble_eq_true rfl) rfl (by decide) (by omega) (by omega) (fun E cs1 hx => ?_) (fun v cs1 hx => ?_)
  · obtain ⟨v9_423, gp9_423, qn9_423, e1, -⟩ := hx
    cases e1
  · obtain ⟨v9_423, gp9_423, qn9_423, e1, rfl⟩ := hx
    cases e1
    refine ⟨rfl, ?_⟩
    refine y_st (st2 := [.int v9_423, .int y, .int x]) rfl ?_
    refine y_cs (cs2 := [((ad 52), .inr (12, [.int v_m_th, .ref (ad 53), .int (nI t.2.2.2.1), .ref (ad 54), .ref (ad 55), .ref (ad 56), .ref (ad 57), .ref (ad 58), .ref (ad 59), .ref (ad 60), .ref (ad 61), .int v_m_cl, .int v_m_wa, .int v_m_co_, .int v_m_fi, .int v_m_bu, .int v_m_ho, .ref (ad 62), .ref (ad 63), .ref (ad 64), .int v_m_lh, .int v_m_mg, .int v_m_wd, .int (t.2.2.2.2 3), .int (t.2.2.2.2 4), .ref (ad 65), .ref (ad 66), .ref (ad 67), .ref (ad 68), .long v_m_po, .long v_m_de])), ((ad 63), .inl (0, 4, .inl mif)), ((ad 64), .inl (3, 16, .inr (.inl gr9))), ((ad 54), .inl (0, 108, .inl fl)), ((ad 55), .inl (0, 108, .inl he)), ((ad 56), .inl (0, 108, .inl nx)), ((ad 57), .inl (0, 108, .inl mtt)), ((ad 58), .inl (0, 108, .inl fz)), ((ad 59), .inl (2, 108, .inl ic)), ((ad 60), .inl (0, 108, .inl (fun k => nI (qn9_423 k)))), ((ad 61), .inl (0, 108, .inl gp9_423)), (its, .inl (1, 108, .inl f_i)), (nb, .inl (0, 5, .inl f_n)), (q124, .inl (0, 6, .inl (upd mdf 4 x4))), (q129, .inl (3, 4, .inr (.inl mg9)))]) rfl ?_
    refine y_if_gt (tgt := 439) d_Mm_pour_426 (by decide) (fun c_426 => ?_) (fun c_426 => ?_)
    · refine y_bipush d_Mm_pour_439 (v := 16) (by decide) ?_
      refine y_goto (tgt := 445) d_Mm_pour_441 (by decide) ?_
      refine y_lv (lv' := [(11, .int x11), (10, .int x10), (8, .int x8), (6, .ref q129), (5, .ref q124), (4, .int tk), (3, .int wt), (2, .ref nb), (1, .ref its), (0, .ref (ad 52))]) [0, 1, 2, 3, 4, 5, 6, 7, 8, 9] rfl ?_
      exact J10_pour g v_m_th v_m_cl v_m_wa v_m_co_ v_m_fi v_m_bu v_m_ho v_m_lh v_m_mg v_m_wd v_m_po v_m_de fl he nx mtt fz ic gp9_423 f_i f_n mif mdf qn9_423 gr9 mg9 its nb q124 q129 p_n tk wt hT hch_i hg_i h0_n hp_n x4 _ _ _ _ _ _ K
    · refine y_aload_n d_Mm_pour_429 rfl 8 rfl ?_
      refine y_aload_n d_Mm_pour_430 rfl 7 rfl ?_
      refine y_iconst d_Mm_pour_431 (v := 0) (by decide) ?_
      refine y_iald d_Mm_pour_432 (q0 := 12) rfl (fun q => q.elim (by decide) (by decide)) (v := nI p_n) h0_n ?_
      refine y_callS (As := [.ref its, .int (nI p_n)]) (rest := [.int y, .int x]) (csC := [(its, .inl (1, 108, .inl f_i))]) (is := [11]) ln_Mm_111 w_st_Mm_undercutIn ok_Mm_pour_Mm_undercutIn d_Mm_pour_433 (C_Mm_undercutIn g its f_i p_n hp_n.1 hp_n.2 hch_i) rfl rfl (Nat.le_of_ble_eq_true rfl) rfl (by decide) (by omega) (by omega) (fun E cs1 hx => ?_) (fun v cs1 hx => ?_)
      · exact absurd hx.1 (by simp)
      · obtain ⟨e1, rfl⟩ := hx
        cases e1
        refine ⟨rfl, ?_⟩
        refine y_st (st2 := [.int (nI (ucT f_i p_n 12)), .int y, .int x]) rfl ?_
        refine y_cs (cs2 := [((ad 52), .inr (12, [.int v_m_th, .ref (ad 53), .int (nI t.2.2.2.1), .ref (ad 54), .ref (ad 55), .ref (ad 56), .ref (ad 57), .ref (ad 58), .ref (ad 59), .ref (ad 60), .ref (ad 61), .int v_m_cl, .int v_m_wa, .int v_m_co_, .int v_m_fi, .int v_m_bu, .int v_m_ho, .ref (ad 62), .ref (ad 63), .ref (ad 64), .int v_m_lh, .int v_m_mg, .int v_m_wd, .int (t.2.2.2.2 3), .int (t.2.2.2.2 4), .ref (ad 65), .ref (ad 66), .ref (ad 67), .ref (ad 68), .long v_m_po, .long v_m_de])), ((ad 63), .inl (0, 4, .inl mif)), ((ad 64), .inl (3, 16, .inr (.inl gr9))), ((ad 54), .inl (0, 108, .inl fl)), ((ad 55), .inl (0, 108, .inl he)), ((ad 56), .inl (0, 108, .inl nx)), ((ad 57), .inl (0, 108, .inl mtt)), ((ad 58), .inl (0, 108, .inl fz)), ((ad 59), .inl (2, 108, .inl ic)), ((ad 60), .inl (0, 108, .inl (fun k => nI (qn9_423 k)))), ((ad 61), .inl (0, 108, .inl gp9_423)), (its, .inl (1, 108, .inl f_i)), (nb, .inl (0, 5, .inl f_n)), (q124, .inl (0, 6, .inl (upd mdf 4 x4))), (q129, .inl (3, 4, .inr (.inl mg9)))]) rfl ?_
        refine y_if_le (tgt := 444) d_Mm_pour_436 (by decide) (fun c_436 => ?_) (fun c_436 => ?_)
        · refine y_iconst d_Mm_pour_444 (v := 0) (by decide) ?_
          refine y_lv (lv' := [(11, .int x11), (10, .int x10), (8, .int x8), (6, .ref q129), (5, .ref q124), (4, .int tk), (3, .int wt), (2, .ref nb), (1, .ref its), (0, .ref (ad 52))]) [0, 1, 2, 3, 4, 5, 6, 7, 8, 9] rfl ?_
          exact J10_pour g v_m_th v_m_cl v_m_wa v_m_co_ v_m_fi v_m_bu v_m_ho v_m_lh v_m_mg v_m_wd v_m_po v_m_de fl he nx mtt fz ic gp9_423 f_i f_n mif mdf qn9_423 gr9 mg9 its nb q124 q129 p_n tk wt hT hch_i hg_i h0_n hp_n x4 _ _ _ _ _ _ K
        · refine y_bipush d_Mm_pour_439 (v := 16) (by decide) ?_
          refine y_goto (tgt := 445) d_Mm_pour_441 (by decide) ?_
          refine y_lv (lv' := [(11, .int x11), (10, .int x10), (8, .int x8), (6, .ref q129), (5, .ref q124), (4, .int tk), (3, .int wt), (2, .ref nb), (1, .ref its), (0, .ref (ad 52))]) [0, 1, 2, 3, 4, 5, 6, 7, 8, 9] rfl ?_
          exact J10_pour g v_m_th v_m_cl v_m_wa v_m_co_ v_m_fi v_m_bu v_m_ho v_m_lh v_m_mg v_m_wd v_m_po v_m_de fl he nx mtt fz ic gp9_423 f_i f_n mif mdf qn9_423 gr9 mg9 its nb q124 q129 p_n tk wt hT hch_i hg_i h0_n hp_n x4 _ _ _ _ _ _ K
theorem d_Mm_pour_405 : decode prog_14_method_77_code 405 = .ok (.iadd, 1) := by decide +kernel
theorem d_Mm_pour_406 : decode prog_14_method_77_code 406 = .ok (.istore 11, 2) := by decide +kernel
theorem d_Mm_pour_408 : decode prog_14_method_77_code 408 = .ok (.iload 11, 2) := by decide +kernel
theorem d_Mm_pour_410 : decode prog_14_method_77_code 410 = .ok (.iload 8, 2) := by decide +kernel
theorem d_Mm_pour_412 : decode prog_14_method_77_code 412 = .ok (.ifCond .eq 8, 3) := by decide +kernel
theorem d_Mm_pour_420 : decode prog_14_method_77_code 420 = .ok (.iconst 0, 1) := by decide +kernel
theorem d_Mm_pour_415 : decode prog_14_method_77_code 415 = .ok (.bipush 8, 2) := by decide +kernel
theorem d_Mm_pour_417 : decode prog_14_method_77_code 417 = .ok (.goto 4, 3) := by decide +kernel
set_option maxHeartbeats 4000000 in
set_option maxRecDepth 100000 in
theorem J8_pour (g : zG) {Ψ : zO → zW → Prop} {w0 : zW} {n kc ks : Nat} {ad : Nat → Nat} {t : zTT} (v_m_th v_m_cl v_m_wa v_m_co_ v_m_fi v_m_bu v_m_ho v_m_lh v_m_mg v_m_wd : Int32) (v_m_po v_m_de : Int64) (fl he nx mtt fz ic gp f_i f_n mif mdf : Nat → Int32) (qn : Nat → Nat) (gr9 mg9 : Nat → Int64) (its nb q124 q129 p_n : Nat) (tk wt : Int32) (hT : ¬ tk = 0) (hch_i : z_ch f_i) (hg_i : ¬ fa_cnt (fun k => decide (f_i k = 103)) 12 = 0) (h0_n : f_n 0 = nI p_n) (hp_n : 1 ≤ p_n ∧ p_n < 9) (x4 : Int32) (y x x8 x10 : Int32) (K : ∀ (x11 x4 : Int32) (gp : Nat → Int32) (qn : Nat → Nat), DU g M_Mm_pour Ψ w0 n 461 [(11, .int x11), (6, .ref q129), (5, .ref q124), (0, .ref (ad 52))] [] [((ad 52), .inr (12, [.int v_m_th, .ref (ad 53), .int (nI t.2.2.2.1), .ref (ad 54), .ref (ad 55), .ref (ad 56), .ref (ad 57), .ref (ad 58), .ref (ad 59), .ref (ad 60), .ref (ad 61), .int v_m_cl, .int v_m_wa, .int v_m_co_, .int v_m_fi, .int v_m_bu, .int v_m_ho, .ref (ad 62), .ref (ad 63), .ref (ad 64), .int v_m_lh, .int v_m_mg, .int v_m_wd, .int (t.2.2.2.2 3), .int (t.2.2.2.2 4), .ref (ad 65), .ref (ad 66), .ref (ad 67), .ref (ad 68), .long v_m_po, .long v_m_de])), ((ad 63), .inl (0, 4, .inl mif)), ((ad 64), .inl (3, 16, .inr (.inl gr9))), ((ad 54), .inl (0, 108, .inl fl)), ((ad 55), .inl (0, 108, .inl he)), ((ad 56), .inl (0, 108, .inl nx)), ((ad 57), .inl (0, 108, .inl mtt)), ((ad 58), .inl (0, 108, .inl fz)), ((ad 59), .inl (2, 108, .inl ic)), ((ad 60), .inl (0, 108, .inl (fun k => nI (qn k)))), ((ad 61), .inl (0, 108, .inl gp)), (its, .inl (1, 108, .inl f_i)), (nb, .inl (0, 5, .inl f_n)), (q124, .inl (0, 6, .inl (upd mdf 4 x4))), (q129, .inl (3, 4, .inr (.inl mg9)))] kc ks) : DU g M_Mm_pour Ψ w0 n 405 [(10, .int x10), (8, .int x8), (6, .ref q129), (5, .ref q124), (4, .int tk), (3, .int wt), (2, .ref nb), (1, .ref its), (0, .ref (ad 52))] [.int y, .int x] [((ad 52), .inr (12, [.int v_m_th, .ref (ad 53), .int (nI t.2.2.2.1), .ref (ad 54), .ref (ad 55), .ref (ad 56), .ref (ad 57), .ref (ad 58), .ref (ad 59), .ref (ad 60), .ref (ad 61), .int v_m_cl, .int v_m_wa, .int v_m_co_, .int v_m_fi, .int v_m_bu, .int v_m_ho, .ref (ad 62), .ref (ad 63), .ref (ad 64), .int v_m_lh, .int v_m_mg, .int v_m_wd, .int (t.2.2.2.2 3), .int (t.2.2.2.2 4), .ref (ad 65), .ref (ad 66), .ref (ad 67), .ref (ad 68), .long v_m_po, .long v_m_de])), ((ad 63), .inl (0, 4, .inl mif)), ((ad 64), .inl (3, 16, .inr (.inl gr9))), ((ad 54), .inl (0, 108, .inl fl)), ((ad 55), .inl (0, 108, .inl he)), ((ad 56), .inl (0, 108, .inl nx)), ((ad 57), .inl (0, 108, .inl mtt)), ((ad 58), .inl (0, 108, .inl fz)), ((ad 59), .inl (2, 108, .inl ic)), ((ad 60), .inl (0, 108, .inl (fun k => nI (qn k)))), ((ad 61), .inl (0, 108, .inl gp)), (its, .inl (1, 108, .inl f_i)), (nb, .inl (0, 5, .inl f_n)), (q124, .inl (0, 6, .inl (upd mdf 4 x4))), (q129, .inl (3, 4, .inr (.inl mg9)))] kc ks := by
  refine y_iadd d_Mm_pour_405 (v := x + y) rfl ?_
  refine y_istore (lv' := [(11, .int (x + y)), (10, .int x10), (8, .int x8), (6, .ref q129), (5, .ref q124), (4, .int tk), (3, .int wt), (2, .ref nb), (1, .ref its), (0, .ref (ad 52))]) d_Mm_pour_406 (by decide) rfl ?_
  refine y_iload d_Mm_pour_408 0 rfl ?_
  refine y_iload d_Mm_pour_410 2 rfl ?_
  refine y_if_eq (tgt := 420) d_Mm_pour_412 (by decide) (fun c_412 => ?_) (fun c_412 => ?_)
  · refine y_iconst d_Mm_pour_420 (v := 0) (by decide) ?_
    refine y_lv (lv' := [(11, .int (x + y)), (10, .int x10), (8, .int x8), (6, .ref q129), (5, .ref q124), (4, .int tk), (3, .int wt), (2, .ref nb), (1, .ref its), (0, .ref (ad 52))]) [0, 1, 2, 3, 4, 5, 6, 7, 8, 9] rfl ?_
    exact J9_pour g v_m_th v_m_cl v_m_wa v_m_co_ v_m_fi v_m_bu v_m_ho v_m_lh v_m_mg v_m_wd v_m_po v_m_de fl he nx mtt fz ic gp f_i f_n mif mdf qn gr9 mg9 its nb q124 q129 p_n tk wt hT hch_i hg_i h0_n hp_n x4 _ _ _ _ _ K
  · refine y_bipush d_Mm_pour_415 (v := 8) (by decide) ?_
    refine y_goto (tgt := 421) d_Mm_pour_417 (by decide) ?_
    refine y_lv (lv' := [(11, .int (x + y)), (10, .int x10), (8, .int x8), (6, .ref q129), (5, .ref q124), (4, .int tk), (3, .int wt), (2, .ref nb), (1, .ref its), (0, .ref (ad 52))]) [0, 1, 2, 3, 4, 5, 6, 7, 8, 9] rfl ?_
    exact J9_pour g v_m_th v_m_cl v_m_wa v_m_co_ v_m_fi v_m_bu v_m_ho v_m_lh v_m_mg v_m_wd v_m_po v_m_de fl he nx mtt fz ic gp f_i f_n mif mdf qn gr9 mg9 its nb q124 q129 p_n tk wt hT hch_i hg_i h0_n hp_n x4 _ _ _ _ _ K
theorem d_Mm_pour_389 : decode prog_14_method_77_code 389 = .ok (.iadd, 1) := by decide +kernel
theorem d_Mm_pour_390 : decode prog_14_method_77_code 390 = .ok (.aload_n 1, 1) := by decide +kernel
theorem d_Mm_pour_391 : decode prog_14_method_77_code 391 = .ok (.invokestatic 147, 3) := by decide +kernel
theorem ok_Mm_pour_Mm_speedIn : z_ok M_Mm_pour M_Mm_speedIn 1 := ⟨z_mem (i := 1766) (by decide +kernel) (by decide +kernel), rfl, ⟨by decide +kernel, by decide +kernel, by decide +kernel⟩, ⟨by decide, by decide⟩, z_mem (i := 71) (by decide +kernel) (by decide +kernel), rfl⟩
theorem d_Mm_pour_394 : decode prog_14_method_77_code 394 = .ok (.aload_n 2, 1) := by decide +kernel
theorem d_Mm_pour_395 : decode prog_14_method_77_code 395 = .ok (.iconst 1, 1) := by decide +kernel
theorem d_Mm_pour_396 : decode prog_14_method_77_code 396 = .ok (.iaload, 1) := by decide +kernel
theorem d_Mm_pour_397 : decode prog_14_method_77_code 397 = .ok (.if_icmp .le 7, 3) := by decide +kernel
theorem d_Mm_pour_404 : decode prog_14_method_77_code 404 = .ok (.iconst 0, 1) := by decide +kernel
theorem d_Mm_pour_400 : decode prog_14_method_77_code 400 = .ok (.iconst 4, 1) := by decide +kernel
theorem d_Mm_pour_401 : decode prog_14_method_77_code 401 = .ok (.goto 4, 3) := by decide +kernel
set_option maxHeartbeats 4000000 in
set_option maxRecDepth 100000 in
theorem J7_pour (g : zG) {Ψ : zO → zW → Prop} {w0 : zW} {n kc ks : Nat} {ad : Nat → Nat} {t : zTT} (v_m_th v_m_cl v_m_wa v_m_co_ v_m_fi v_m_bu v_m_ho v_m_lh v_m_mg v_m_wd : Int32) (v_m_po v_m_de : Int64) (fl he nx mtt fz ic gp f_i f_n mif mdf : Nat → Int32) (qn : Nat → Nat) (gr9 mg9 : Nat → Int64) (its nb q124 q129 p_n : Nat) (tk wt : Int32) (hT : ¬ tk = 0) (hch_i : z_ch f_i) (hg_i : ¬ fa_cnt (fun k => decide (f_i k = 103)) 12 = 0) (h0_n : f_n 0 = nI p_n) (hp_n : 1 ≤ p_n ∧ p_n < 9) (x4 : Int32) (y x x8 x10 : Int32) (K : ∀ (x11 x4 : Int32) (gp : Nat → Int32) (qn : Nat → Nat), DU g M_Mm_pour Ψ w0 n 461 [(11, .int x11), (6, .ref q129), (5, .ref q124), (0, .ref (ad 52))] [] [((ad 52), .inr (12, [.int v_m_th, .ref (ad 53), .int (nI t.2.2.2.1), .ref (ad 54), .ref (ad 55), .ref (ad 56), .ref (ad 57), .ref (ad 58), .ref (ad 59), .ref (ad 60), .ref (ad 61), .int v_m_cl, .int v_m_wa, .int v_m_co_, .int v_m_fi, .int v_m_bu, .int v_m_ho, .ref (ad 62), .ref (ad 63), .ref (ad 64), .int v_m_lh, .int v_m_mg, .int v_m_wd, .int (t.2.2.2.2 3), .int (t.2.2.2.2 4), .ref (ad 65), .ref (ad 66), .ref (ad 67), .ref (ad 68), .long v_m_po, .long v_m_de])), ((ad 63), .inl (0, 4, .inl mif)), ((ad 64), .inl (3, 16, .inr (.inl gr9))), ((ad 54), .inl (0, 108, .inl fl)), ((ad 55), .inl (0, 108, .inl he)), ((ad 56), .inl (0, 108, .inl nx)), ((ad 57), .inl (0, 108, .inl mtt)), ((ad 58), .inl (0, 108, .inl fz)), ((ad 59), .inl (2, 108, .inl ic)), ((ad 60), .inl (0, 108, .inl (fun k => nI (qn k)))), ((ad 61), .inl (0, 108, .inl gp)), (its, .inl (1, 108, .inl f_i)), (nb, .inl (0, 5, .inl f_n)), (q124, .inl (0, 6, .inl (upd mdf 4 x4))), (q129, .inl (3, 4, .inr (.inl mg9)))] kc ks) : DU g M_Mm_pour Ψ w0 n 389 [(10, .int x10), (8, .int x8), (6, .ref q129), (5, .ref q124), (4, .int tk), (3, .int wt), (2, .ref nb), (1, .ref its), (0, .ref (ad 52))] [.int y, .int x] [((ad 52), .inr (12, [.int v_m_th, .ref (ad 53), .int (nI t.2.2.2.1), .ref (ad 54), .ref (ad 55), .ref (ad 56), .ref (ad 57), .ref (ad 58), .ref (ad 59), .ref (ad 60), .ref (ad 61), .int v_m_cl, .int v_m_wa, .int v_m_co_, .int v_m_fi, .int v_m_bu, .int v_m_ho, .ref (ad 62), .ref (ad 63), .ref (ad 64), .int v_m_lh, .int v_m_mg, .int v_m_wd, .int (t.2.2.2.2 3), .int (t.2.2.2.2 4), .ref (ad 65), .ref (ad 66), .ref (ad 67), .ref (ad 68), .long v_m_po, .long v_m_de])), ((ad 63), .inl (0, 4, .inl mif)), ((ad 64), .inl (3, 16, .inr (.inl gr9))), ((ad 54), .inl (0, 108, .inl fl)), ((ad 55), .inl (0, 108, .inl he)), ((ad 56), .inl (0, 108, .inl nx)), ((ad 57), .inl (0, 108, .inl mtt)), ((ad 58), .inl (0, 108, .inl fz)), ((ad 59), .inl (2, 108, .inl ic)), ((ad 60), .inl (0, 108, .inl (fun k => nI (qn k)))), ((ad 61), .inl (0, 108, .inl gp)), (its, .inl (1, 108, .inl f_i)), (nb, .inl (0, 5, .inl f_n)), (q124, .inl (0, 6, .inl (upd mdf 4 x4))), (q129, .inl (3, 4, .inr (.inl mg9)))] kc ks := by
  refine y_iadd d_Mm_pour_389 (v := x + y) rfl ?_
  refine y_aload_n d_Mm_pour_390 rfl 7 rfl ?_
  refine y_callS (As := [.ref its]) (rest := [.int (x + y)]) (csC := [(its, .inl (1, 108, .inl f_i))]) (is := [11]) ln_Mm_147 w_st_Mm_speedIn ok_Mm_pour_Mm_speedIn d_Mm_pour_391 (C_Mm_speedInW g its f_i hg_i) rfl rfl (Nat.le_of_ble_eq_true rfl) rfl (by decide) (by omega) (by omega) (fun E cs1 hx => ?_) (fun v cs1 hx => ?_)
  · obtain ⟨v9_391, e1, -⟩ := hx
    cases e1
  · obtain ⟨v9_391, e1, rfl⟩ := hx
    cases e1
    refine ⟨rfl, ?_⟩
    refine y_st (st2 := [.int v9_391, .int (x + y)]) rfl ?_
    refine y_cs (cs2 := [((ad 52), .inr (12, [.int v_m_th, .ref (ad 53), .int (nI t.2.2.2.1), .ref (ad 54), .ref (ad 55), .ref (ad 56), .ref (ad 57), .ref (ad 58), .ref (ad 59), .ref (ad 60), .ref (ad 61), .int v_m_cl, .int v_m_wa, .int v_m_co_, .int v_m_fi, .int v_m_bu, .int v_m_ho, .ref (ad 62), .ref (ad 63), .ref (ad 64), .int v_m_lh, .int v_m_mg, .int v_m_wd, .int (t.2.2.2.2 3), .int (t.2.2.2.2 4), .ref (ad 65), .ref (ad 66), .ref (ad 67), .ref (ad 68), .long v_m_po, .long v_m_de])), ((ad 63), .inl (0, 4, .inl mif)), ((ad 64), .inl (3, 16, .inr (.inl gr9))), ((ad 54), .inl (0, 108, .inl fl)), ((ad 55), .inl (0, 108, .inl he)), ((ad 56), .inl (0, 108, .inl nx)), ((ad 57), .inl (0, 108, .inl mtt)), ((ad 58), .inl (0, 108, .inl fz)), ((ad 59), .inl (2, 108, .inl ic)), ((ad 60), .inl (0, 108, .inl (fun k => nI (qn k)))), ((ad 61), .inl (0, 108, .inl gp)), (its, .inl (1, 108, .inl f_i)), (nb, .inl (0, 5, .inl f_n)), (q124, .inl (0, 6, .inl (upd mdf 4 x4))), (q129, .inl (3, 4, .inr (.inl mg9)))]) rfl ?_
    refine y_aload_n d_Mm_pour_394 rfl 6 rfl ?_
    refine y_iconst d_Mm_pour_395 (v := 1) (by decide) ?_
    refine y_iald d_Mm_pour_396 (q0 := 12) rfl (fun q => q.elim (by decide) (by decide)) (v := f_n 1) rfl ?_
    refine y_icmp_le (tgt := 404) d_Mm_pour_397 (by decide) (fun c_397 => ?_) (fun c_397 => ?_)
    · refine y_iconst d_Mm_pour_404 (v := 0) (by decide) ?_
      refine y_lv (lv' := [(10, .int x10), (8, .int x8), (6, .ref q129), (5, .ref q124), (4, .int tk), (3, .int wt), (2, .ref nb), (1, .ref its), (0, .ref (ad 52))]) [0, 1, 2, 3, 4, 5, 6, 7, 8] rfl ?_
      exact J8_pour g v_m_th v_m_cl v_m_wa v_m_co_ v_m_fi v_m_bu v_m_ho v_m_lh v_m_mg v_m_wd v_m_po v_m_de fl he nx mtt fz ic gp f_i f_n mif mdf qn gr9 mg9 its nb q124 q129 p_n tk wt hT hch_i hg_i h0_n hp_n x4 _ _ _ _ K
    · refine y_iconst d_Mm_pour_400 (v := 4) (by decide) ?_
      refine y_goto (tgt := 405) d_Mm_pour_401 (by decide) ?_
      refine y_lv (lv' := [(10, .int x10), (8, .int x8), (6, .ref q129), (5, .ref q124), (4, .int tk), (3, .int wt), (2, .ref nb), (1, .ref its), (0, .ref (ad 52))]) [0, 1, 2, 3, 4, 5, 6, 7, 8] rfl ?_
      exact J8_pour g v_m_th v_m_cl v_m_wa v_m_co_ v_m_fi v_m_bu v_m_ho v_m_lh v_m_mg v_m_wd v_m_po v_m_de fl he nx mtt fz ic gp f_i f_n mif mdf qn gr9 mg9 its nb q124 q129 p_n tk wt hT hch_i hg_i h0_n hp_n x4 _ _ _ _ K
theorem d_Mm_pour_378 : decode prog_14_method_77_code 378 = .ok (.invokevirtual 297, 3) := by decide +kernel
theorem ok_Mm_pour_Mm_isCold : z_ok M_Mm_pour M_Mm_isCold 2 := ⟨z_mem (i := 1982) (by decide +kernel) (by decide +kernel), rfl, ⟨by decide +kernel, by decide +kernel, by decide +kernel⟩, ⟨by decide, by decide⟩, z_mem (i := 71) (by decide +kernel) (by decide +kernel), rfl⟩
theorem ln_Mm_297 : Cond.methodLink "IronpourModel" 297 M_Mm_isCold.1 ∈ z_gw := z_mem (i := 1979) (by decide +kernel) (by decide +kernel)
theorem w_im_Mm_isCold : Cond.instanceMethod M_Mm_isCold.1 ∈ z_gw := z_mem (i := 1981) (by decide +kernel) (by decide +kernel)
theorem w_se_Mm_isCold : Cond.selects M_Mm_isCold.1.cls M_Mm_isCold.1 M_Mm_isCold.1 ∈ z_gw := z_mem (i := 52) (by decide +kernel) (by decide +kernel)
theorem d_Mm_pour_381 : decode prog_14_method_77_code 381 = .ok (.ifCond .eq 7, 3) := by decide +kernel
theorem d_Mm_pour_388 : decode prog_14_method_77_code 388 = .ok (.iconst 0, 1) := by decide +kernel
theorem d_Mm_pour_384 : decode prog_14_method_77_code 384 = .ok (.iconst 2, 1) := by decide +kernel
theorem d_Mm_pour_385 : decode prog_14_method_77_code 385 = .ok (.goto 4, 3) := by decide +kernel
set_option maxHeartbeats 4000000 in
set_option maxRecDepth 100000 in
theorem J6_pour (g : zG) {Ψ : zO → zW → Prop} {w0 : zW} {n kc ks : Nat} {ad : Nat → Nat} {t : zTT} (v_m_th v_m_cl v_m_wa v_m_co_ v_m_fi v_m_bu v_m_ho v_m_lh v_m_mg v_m_wd : Int32) (v_m_po v_m_de : Int64) (fl he nx mtt fz ic gp f_i f_n mif mdf : Nat → Int32) (qn : Nat → Nat) (gr9 mg9 : Nat → Int64) (its nb q124 q129 p_n : Nat) (tk wt : Int32) (hT : ¬ tk = 0) (hch_i : z_ch f_i) (hg_i : ¬ fa_cnt (fun k => decide (f_i k = 103)) 12 = 0) (h0_n : f_n 0 = nI p_n) (hp_n : 1 ≤ p_n ∧ p_n < 9) (x4 : Int32) (s x x8 x10 : Int32) (hs : s = 0 ∨ s = 1) (K : ∀ (x11 x4 : Int32) (gp : Nat → Int32) (qn : Nat → Nat), DU g M_Mm_pour Ψ w0 n 461 [(11, .int x11), (6, .ref q129), (5, .ref q124), (0, .ref (ad 52))] [] [((ad 52), .inr (12, [.int v_m_th, .ref (ad 53), .int (nI t.2.2.2.1), .ref (ad 54), .ref (ad 55), .ref (ad 56), .ref (ad 57), .ref (ad 58), .ref (ad 59), .ref (ad 60), .ref (ad 61), .int v_m_cl, .int v_m_wa, .int v_m_co_, .int v_m_fi, .int v_m_bu, .int v_m_ho, .ref (ad 62), .ref (ad 63), .ref (ad 64), .int v_m_lh, .int v_m_mg, .int v_m_wd, .int (t.2.2.2.2 3), .int (t.2.2.2.2 4), .ref (ad 65), .ref (ad 66), .ref (ad 67), .ref (ad 68), .long v_m_po, .long v_m_de])), ((ad 63), .inl (0, 4, .inl mif)), ((ad 64), .inl (3, 16, .inr (.inl gr9))), ((ad 54), .inl (0, 108, .inl fl)), ((ad 55), .inl (0, 108, .inl he)), ((ad 56), .inl (0, 108, .inl nx)), ((ad 57), .inl (0, 108, .inl mtt)), ((ad 58), .inl (0, 108, .inl fz)), ((ad 59), .inl (2, 108, .inl ic)), ((ad 60), .inl (0, 108, .inl (fun k => nI (qn k)))), ((ad 61), .inl (0, 108, .inl gp)), (its, .inl (1, 108, .inl f_i)), (nb, .inl (0, 5, .inl f_n)), (q124, .inl (0, 6, .inl (upd mdf 4 x4))), (q129, .inl (3, 4, .inr (.inl mg9)))] kc ks) : DU g M_Mm_pour Ψ w0 n 378 [(10, .int x10), (8, .int x8), (6, .ref q129), (5, .ref q124), (4, .int tk), (3, .int wt), (2, .ref nb), (1, .ref its), (0, .ref (ad 52))] [.int s, .ref its, .ref (ad 52), .int x] [((ad 52), .inr (12, [.int v_m_th, .ref (ad 53), .int (nI t.2.2.2.1), .ref (ad 54), .ref (ad 55), .ref (ad 56), .ref (ad 57), .ref (ad 58), .ref (ad 59), .ref (ad 60), .ref (ad 61), .int v_m_cl, .int v_m_wa, .int v_m_co_, .int v_m_fi, .int v_m_bu, .int v_m_ho, .ref (ad 62), .ref (ad 63), .ref (ad 64), .int v_m_lh, .int v_m_mg, .int v_m_wd, .int (t.2.2.2.2 3), .int (t.2.2.2.2 4), .ref (ad 65), .ref (ad 66), .ref (ad 67), .ref (ad 68), .long v_m_po, .long v_m_de])), ((ad 63), .inl (0, 4, .inl mif)), ((ad 64), .inl (3, 16, .inr (.inl gr9))), ((ad 54), .inl (0, 108, .inl fl)), ((ad 55), .inl (0, 108, .inl he)), ((ad 56), .inl (0, 108, .inl nx)), ((ad 57), .inl (0, 108, .inl mtt)), ((ad 58), .inl (0, 108, .inl fz)), ((ad 59), .inl (2, 108, .inl ic)), ((ad 60), .inl (0, 108, .inl (fun k => nI (qn k)))), ((ad 61), .inl (0, 108, .inl gp)), (its, .inl (1, 108, .inl f_i)), (nb, .inl (0, 5, .inl f_n)), (q124, .inl (0, 6, .inl (upd mdf 4 x4))), (q129, .inl (3, 4, .inr (.inl mg9)))] kc ks := by
  refine y_callV (As := [.ref its, .int s]) (rest := [.int x]) (csC := [((ad 52), .inr (12, [.int v_m_th, .ref (ad 53), .int (nI t.2.2.2.1), .ref (ad 54), .ref (ad 55), .ref (ad 56), .ref (ad 57), .ref (ad 58), .ref (ad 59), .ref (ad 60), .ref (ad 61), .int v_m_cl, .int v_m_wa, .int v_m_co_, .int v_m_fi, .int v_m_bu, .int v_m_ho, .ref (ad 62), .ref (ad 63), .ref (ad 64), .int v_m_lh, .int v_m_mg, .int v_m_wd, .int (t.2.2.2.2 3), .int (t.2.2.2.2 4), .ref (ad 65), .ref (ad 66), .ref (ad 67), .ref (ad 68), .long v_m_po, .long v_m_de])), (its, .inl (1, 108, .inl f_i)), ((ad 54), .inl (0, 108, .inl fl))]) (is := [0, 11, 3]) (q0 := 0) rfl rfl ln_Mm_297 w_im_Mm_isCold w_se_Mm_isCold ok_Mm_pour_Mm_isCold d_Mm_pour_378 (C_Mm_isColdW g (ad 52) (ad 53) (ad 54) (ad 55) (ad 56) (ad 57) (ad 58) (ad 59) (ad 60) (ad 61) (ad 62) (ad 63) (ad 64) (ad 65) (ad 66) (ad 67) (ad 68) v_m_th (nI t.2.2.2.1) v_m_cl v_m_wa v_m_co_ v_m_fi v_m_bu v_m_ho v_m_lh v_m_mg v_m_wd (t.2.2.2.2 3) (t.2.2.2.2 4) v_m_po v_m_de its f_i fl s hs) rfl rfl (Nat.le_of_ble_eq_true rfl) rfl (by decide) (by omega) (by omega) (fun E cs1 hx => ?_) (fun v cs1 hx => ?_)
  · obtain ⟨v9_378, p378_0, e1, -⟩ := hx
    cases e1
  · obtain ⟨v9_378, p378_0, e1, rfl⟩ := hx
    cases e1
    refine ⟨rfl, ?_⟩
    refine y_st (st2 := [.int v9_378, .int x]) rfl ?_
    refine y_cs (cs2 := [((ad 52), .inr (12, [.int v_m_th, .ref (ad 53), .int (nI t.2.2.2.1), .ref (ad 54), .ref (ad 55), .ref (ad 56), .ref (ad 57), .ref (ad 58), .ref (ad 59), .ref (ad 60), .ref (ad 61), .int v_m_cl, .int v_m_wa, .int v_m_co_, .int v_m_fi, .int v_m_bu, .int v_m_ho, .ref (ad 62), .ref (ad 63), .ref (ad 64), .int v_m_lh, .int v_m_mg, .int v_m_wd, .int (t.2.2.2.2 3), .int (t.2.2.2.2 4), .ref (ad 65), .ref (ad 66), .ref (ad 67), .ref (ad 68), .long v_m_po, .long v_m_de])), ((ad 63), .inl (0, 4, .inl mif)), ((ad 64), .inl (3, 16, .inr (.inl gr9))), ((ad 54), .inl (0, 108, .inl fl)), ((ad 55), .inl (0, 108, .inl he)), ((ad 56), .inl (0, 108, .inl nx)), ((ad 57), .inl (0, 108, .inl mtt)), ((ad 58), .inl (0, 108, .inl fz)), ((ad 59), .inl (2, 108, .inl ic)), ((ad 60), .inl (0, 108, .inl (fun k => nI (qn k)))), ((ad 61), .inl (0, 108, .inl gp)), (its, .inl (1, 108, .inl f_i)), (nb, .inl (0, 5, .inl f_n)), (q124, .inl (0, 6, .inl (upd mdf 4 x4))), (q129, .inl (3, 4, .inr (.inl mg9)))]) rfl ?_
    refine y_if_eq (tgt := 388) d_Mm_pour_381 (by decide) (fun c_381 => ?_) (fun c_381 => ?_)
    · refine y_iconst d_Mm_pour_388 (v := 0) (by decide) ?_
      refine y_lv (lv' := [(10, .int x10), (8, .int x8), (6, .ref q129), (5, .ref q124), (4, .int tk), (3, .int wt), (2, .ref nb), (1, .ref its), (0, .ref (ad 52))]) [0, 1, 2, 3, 4, 5, 6, 7, 8] rfl ?_
      exact J7_pour g v_m_th v_m_cl v_m_wa v_m_co_ v_m_fi v_m_bu v_m_ho v_m_lh v_m_mg v_m_wd v_m_po v_m_de fl he nx mtt fz ic gp f_i f_n mif mdf qn gr9 mg9 its nb q124 q129 p_n tk wt hT hch_i hg_i h0_n hp_n x4 _ _ _ _ K
    · refine y_iconst d_Mm_pour_384 (v := 2) (by decide) ?_
      refine y_goto (tgt := 389) d_Mm_pour_385 (by decide) ?_
      refine y_lv (lv' := [(10, .int x10), (8, .int x8), (6, .ref q129), (5, .ref q124), (4, .int tk), (3, .int wt), (2, .ref nb), (1, .ref its), (0, .ref (ad 52))]) [0, 1, 2, 3, 4, 5, 6, 7, 8] rfl ?_
      exact J7_pour g v_m_th v_m_cl v_m_wa v_m_co_ v_m_fi v_m_bu v_m_ho v_m_lh v_m_mg v_m_wd v_m_po v_m_de fl he nx mtt fz ic gp f_i f_n mif mdf qn gr9 mg9 its nb q124 q129 p_n tk wt hT hch_i hg_i h0_n hp_n x4 _ _ _ _ K
theorem d_Mm_pour_365 : decode prog_14_method_77_code 365 = .ok (.aload_n 0, 1) := by decide +kernel
theorem d_Mm_pour_366 : decode prog_14_method_77_code 366 = .ok (.aload_n 1, 1) := by decide +kernel
theorem d_Mm_pour_367 : decode prog_14_method_77_code 367 = .ok (.iload 4, 2) := by decide +kernel
theorem d_Mm_pour_369 : decode prog_14_method_77_code 369 = .ok (.iload_n 3, 1) := by decide +kernel
theorem d_Mm_pour_370 : decode prog_14_method_77_code 370 = .ok (.if_icmp .ge 7, 3) := by decide +kernel
theorem d_Mm_pour_377 : decode prog_14_method_77_code 377 = .ok (.iconst 0, 1) := by decide +kernel
theorem d_Mm_pour_373 : decode prog_14_method_77_code 373 = .ok (.iconst 1, 1) := by decide +kernel
theorem d_Mm_pour_374 : decode prog_14_method_77_code 374 = .ok (.goto 4, 3) := by decide +kernel
set_option maxHeartbeats 4000000 in
set_option maxRecDepth 100000 in
theorem J5_pour (g : zG) {Ψ : zO → zW → Prop} {w0 : zW} {n kc ks : Nat} {ad : Nat → Nat} {t : zTT} (v_m_th v_m_cl v_m_wa v_m_co_ v_m_fi v_m_bu v_m_ho v_m_lh v_m_mg v_m_wd : Int32) (v_m_po v_m_de : Int64) (fl he nx mtt fz ic gp f_i f_n mif mdf : Nat → Int32) (qn : Nat → Nat) (gr9 mg9 : Nat → Int64) (its nb q124 q129 p_n : Nat) (tk wt : Int32) (hT : ¬ tk = 0) (hch_i : z_ch f_i) (hg_i : ¬ fa_cnt (fun k => decide (f_i k = 103)) 12 = 0) (h0_n : f_n 0 = nI p_n) (hp_n : 1 ≤ p_n ∧ p_n < 9) (x4 : Int32) (x x8 x10 : Int32) (K : ∀ (x11 x4 : Int32) (gp : Nat → Int32) (qn : Nat → Nat), DU g M_Mm_pour Ψ w0 n 461 [(11, .int x11), (6, .ref q129), (5, .ref q124), (0, .ref (ad 52))] [] [((ad 52), .inr (12, [.int v_m_th, .ref (ad 53), .int (nI t.2.2.2.1), .ref (ad 54), .ref (ad 55), .ref (ad 56), .ref (ad 57), .ref (ad 58), .ref (ad 59), .ref (ad 60), .ref (ad 61), .int v_m_cl, .int v_m_wa, .int v_m_co_, .int v_m_fi, .int v_m_bu, .int v_m_ho, .ref (ad 62), .ref (ad 63), .ref (ad 64), .int v_m_lh, .int v_m_mg, .int v_m_wd, .int (t.2.2.2.2 3), .int (t.2.2.2.2 4), .ref (ad 65), .ref (ad 66), .ref (ad 67), .ref (ad 68), .long v_m_po, .long v_m_de])), ((ad 63), .inl (0, 4, .inl mif)), ((ad 64), .inl (3, 16, .inr (.inl gr9))), ((ad 54), .inl (0, 108, .inl fl)), ((ad 55), .inl (0, 108, .inl he)), ((ad 56), .inl (0, 108, .inl nx)), ((ad 57), .inl (0, 108, .inl mtt)), ((ad 58), .inl (0, 108, .inl fz)), ((ad 59), .inl (2, 108, .inl ic)), ((ad 60), .inl (0, 108, .inl (fun k => nI (qn k)))), ((ad 61), .inl (0, 108, .inl gp)), (its, .inl (1, 108, .inl f_i)), (nb, .inl (0, 5, .inl f_n)), (q124, .inl (0, 6, .inl (upd mdf 4 x4))), (q129, .inl (3, 4, .inr (.inl mg9)))] kc ks) : DU g M_Mm_pour Ψ w0 n 365 [(10, .int x10), (8, .int x8), (6, .ref q129), (5, .ref q124), (4, .int tk), (3, .int wt), (2, .ref nb), (1, .ref its), (0, .ref (ad 52))] [.int x] [((ad 52), .inr (12, [.int v_m_th, .ref (ad 53), .int (nI t.2.2.2.1), .ref (ad 54), .ref (ad 55), .ref (ad 56), .ref (ad 57), .ref (ad 58), .ref (ad 59), .ref (ad 60), .ref (ad 61), .int v_m_cl, .int v_m_wa, .int v_m_co_, .int v_m_fi, .int v_m_bu, .int v_m_ho, .ref (ad 62), .ref (ad 63), .ref (ad 64), .int v_m_lh, .int v_m_mg, .int v_m_wd, .int (t.2.2.2.2 3), .int (t.2.2.2.2 4), .ref (ad 65), .ref (ad 66), .ref (ad 67), .ref (ad 68), .long v_m_po, .long v_m_de])), ((ad 63), .inl (0, 4, .inl mif)), ((ad 64), .inl (3, 16, .inr (.inl gr9))), ((ad 54), .inl (0, 108, .inl fl)), ((ad 55), .inl (0, 108, .inl he)), ((ad 56), .inl (0, 108, .inl nx)), ((ad 57), .inl (0, 108, .inl mtt)), ((ad 58), .inl (0, 108, .inl fz)), ((ad 59), .inl (2, 108, .inl ic)), ((ad 60), .inl (0, 108, .inl (fun k => nI (qn k)))), ((ad 61), .inl (0, 108, .inl gp)), (its, .inl (1, 108, .inl f_i)), (nb, .inl (0, 5, .inl f_n)), (q124, .inl (0, 6, .inl (upd mdf 4 x4))), (q129, .inl (3, 4, .inr (.inl mg9)))] kc ks := by
  refine y_aload_n d_Mm_pour_365 rfl 8 rfl ?_
  refine y_aload_n d_Mm_pour_366 rfl 7 rfl ?_
  refine y_iload d_Mm_pour_367 4 rfl ?_
  refine y_iload_n d_Mm_pour_369 rfl 5 rfl ?_
  refine y_icmp_ge (tgt := 377) d_Mm_pour_370 (by decide) (fun c_370 => ?_) (fun c_370 => ?_)
  · refine y_iconst d_Mm_pour_377 (v := 0) (by decide) ?_
    refine y_lv (lv' := [(10, .int x10), (8, .int x8), (6, .ref q129), (5, .ref q124), (4, .int tk), (3, .int wt), (2, .ref nb), (1, .ref its), (0, .ref (ad 52))]) [0, 1, 2, 3, 4, 5, 6, 7, 8] rfl ?_
    exact J6_pour g v_m_th v_m_cl v_m_wa v_m_co_ v_m_fi v_m_bu v_m_ho v_m_lh v_m_mg v_m_wd v_m_po v_m_de fl he nx mtt fz ic gp f_i f_n mif mdf qn gr9 mg9 its nb q124 q129 p_n tk wt hT hch_i hg_i h0_n hp_n x4 _ _ _ _ (Or.inl rfl) K
  · refine y_iconst d_Mm_pour_373 (v := 1) (by decide) ?_
    refine y_goto (tgt := 378) d_Mm_pour_374 (by decide) ?_
    refine y_lv (lv' := [(10, .int x10), (8, .int x8), (6, .ref q129), (5, .ref q124), (4, .int tk), (3, .int wt), (2, .ref nb), (1, .ref its), (0, .ref (ad 52))]) [0, 1, 2, 3, 4, 5, 6, 7, 8] rfl ?_
    exact J6_pour g v_m_th v_m_cl v_m_wa v_m_co_ v_m_fi v_m_bu v_m_ho v_m_lh v_m_mg v_m_wd v_m_po v_m_de fl he nx mtt fz ic gp f_i f_n mif mdf qn gr9 mg9 its nb q124 q129 p_n tk wt hT hch_i hg_i h0_n hp_n x4 _ _ _ _ (Or.inr rfl) K
theorem d_Mm_pour_351 : decode prog_14_method_77_code 351 = .ok (.istore 10, 2) := by decide +kernel
theorem d_Mm_pour_353 : decode prog_14_method_77_code 353 = .ok (.aload 5, 2) := by decide +kernel
theorem d_Mm_pour_355 : decode prog_14_method_77_code 355 = .ok (.iconst 3, 1) := by decide +kernel
theorem d_Mm_pour_356 : decode prog_14_method_77_code 356 = .ok (.iaload, 1) := by decide +kernel
theorem d_Mm_pour_357 : decode prog_14_method_77_code 357 = .ok (.ifCond .le 7, 3) := by decide +kernel
theorem d_Mm_pour_364 : decode prog_14_method_77_code 364 = .ok (.iconst 0, 1) := by decide +kernel
theorem d_Mm_pour_360 : decode prog_14_method_77_code 360 = .ok (.iconst 1, 1) := by decide +kernel
theorem d_Mm_pour_361 : decode prog_14_method_77_code 361 = .ok (.goto 4, 3) := by decide +kernel
set_option maxHeartbeats 4000000 in
set_option maxRecDepth 100000 in
theorem J4_pour (g : zG) {Ψ : zO → zW → Prop} {w0 : zW} {n kc ks : Nat} {ad : Nat → Nat} {t : zTT} (v_m_th v_m_cl v_m_wa v_m_co_ v_m_fi v_m_bu v_m_ho v_m_lh v_m_mg v_m_wd : Int32) (v_m_po v_m_de : Int64) (fl he nx mtt fz ic gp f_i f_n mif mdf : Nat → Int32) (qn : Nat → Nat) (gr9 mg9 : Nat → Int64) (its nb q124 q129 p_n : Nat) (tk wt : Int32) (hT : ¬ tk = 0) (hch_i : z_ch f_i) (hg_i : ¬ fa_cnt (fun k => decide (f_i k = 103)) 12 = 0) (h0_n : f_n 0 = nI p_n) (hp_n : 1 ≤ p_n ∧ p_n < 9) (x4 : Int32) (x8 x10 : Int32) (K : ∀ (x11 x4 : Int32) (gp : Nat → Int32) (qn : Nat → Nat), DU g M_Mm_pour Ψ w0 n 461 [(11, .int x11), (6, .ref q129), (5, .ref q124), (0, .ref (ad 52))] [] [((ad 52), .inr (12, [.int v_m_th, .ref (ad 53), .int (nI t.2.2.2.1), .ref (ad 54), .ref (ad 55), .ref (ad 56), .ref (ad 57), .ref (ad 58), .ref (ad 59), .ref (ad 60), .ref (ad 61), .int v_m_cl, .int v_m_wa, .int v_m_co_, .int v_m_fi, .int v_m_bu, .int v_m_ho, .ref (ad 62), .ref (ad 63), .ref (ad 64), .int v_m_lh, .int v_m_mg, .int v_m_wd, .int (t.2.2.2.2 3), .int (t.2.2.2.2 4), .ref (ad 65), .ref (ad 66), .ref (ad 67), .ref (ad 68), .long v_m_po, .long v_m_de])), ((ad 63), .inl (0, 4, .inl mif)), ((ad 64), .inl (3, 16, .inr (.inl gr9))), ((ad 54), .inl (0, 108, .inl fl)), ((ad 55), .inl (0, 108, .inl he)), ((ad 56), .inl (0, 108, .inl nx)), ((ad 57), .inl (0, 108, .inl mtt)), ((ad 58), .inl (0, 108, .inl fz)), ((ad 59), .inl (2, 108, .inl ic)), ((ad 60), .inl (0, 108, .inl (fun k => nI (qn k)))), ((ad 61), .inl (0, 108, .inl gp)), (its, .inl (1, 108, .inl f_i)), (nb, .inl (0, 5, .inl f_n)), (q124, .inl (0, 6, .inl (upd mdf 4 x4))), (q129, .inl (3, 4, .inr (.inl mg9)))] kc ks) : DU g M_Mm_pour Ψ w0 n 351 [(8, .int x8), (6, .ref q129), (5, .ref q124), (4, .int tk), (3, .int wt), (2, .ref nb), (1, .ref its), (0, .ref (ad 52))] [.int x10] [((ad 52), .inr (12, [.int v_m_th, .ref (ad 53), .int (nI t.2.2.2.1), .ref (ad 54), .ref (ad 55), .ref (ad 56), .ref (ad 57), .ref (ad 58), .ref (ad 59), .ref (ad 60), .ref (ad 61), .int v_m_cl, .int v_m_wa, .int v_m_co_, .int v_m_fi, .int v_m_bu, .int v_m_ho, .ref (ad 62), .ref (ad 63), .ref (ad 64), .int v_m_lh, .int v_m_mg, .int v_m_wd, .int (t.2.2.2.2 3), .int (t.2.2.2.2 4), .ref (ad 65), .ref (ad 66), .ref (ad 67), .ref (ad 68), .long v_m_po, .long v_m_de])), ((ad 63), .inl (0, 4, .inl mif)), ((ad 64), .inl (3, 16, .inr (.inl gr9))), ((ad 54), .inl (0, 108, .inl fl)), ((ad 55), .inl (0, 108, .inl he)), ((ad 56), .inl (0, 108, .inl nx)), ((ad 57), .inl (0, 108, .inl mtt)), ((ad 58), .inl (0, 108, .inl fz)), ((ad 59), .inl (2, 108, .inl ic)), ((ad 60), .inl (0, 108, .inl (fun k => nI (qn k)))), ((ad 61), .inl (0, 108, .inl gp)), (its, .inl (1, 108, .inl f_i)), (nb, .inl (0, 5, .inl f_n)), (q124, .inl (0, 6, .inl (upd mdf 4 x4))), (q129, .inl (3, 4, .inr (.inl mg9)))] kc ks := by
  refine y_istore (lv' := [(10, .int x10), (8, .int x8), (6, .ref q129), (5, .ref q124), (4, .int tk), (3, .int wt), (2, .ref nb), (1, .ref its), (0, .ref (ad 52))]) d_Mm_pour_351 (by decide) rfl ?_
  refine y_aload d_Mm_pour_353 3 rfl ?_
  refine y_iconst d_Mm_pour_355 (v := 3) (by decide) ?_
  refine y_iald d_Mm_pour_356 (q0 := 13) rfl (fun q => q.elim (by decide) (by decide)) (v := (upd mdf 4 x4) 3) rfl ?_
  refine y_if_le (tgt := 364) d_Mm_pour_357 (by decide) (fun c_357 => ?_) (fun c_357 => ?_)
  · refine y_iconst d_Mm_pour_364 (v := 0) (by decide) ?_
    refine y_lv (lv' := [(10, .int x10), (8, .int x8), (6, .ref q129), (5, .ref q124), (4, .int tk), (3, .int wt), (2, .ref nb), (1, .ref its), (0, .ref (ad 52))]) [0, 1, 2, 3, 4, 5, 6, 7, 8] rfl ?_
    exact J5_pour g v_m_th v_m_cl v_m_wa v_m_co_ v_m_fi v_m_bu v_m_ho v_m_lh v_m_mg v_m_wd v_m_po v_m_de fl he nx mtt fz ic gp f_i f_n mif mdf qn gr9 mg9 its nb q124 q129 p_n tk wt hT hch_i hg_i h0_n hp_n x4 _ _ _ K
  · refine y_iconst d_Mm_pour_360 (v := 1) (by decide) ?_
    refine y_goto (tgt := 365) d_Mm_pour_361 (by decide) ?_
    refine y_lv (lv' := [(10, .int x10), (8, .int x8), (6, .ref q129), (5, .ref q124), (4, .int tk), (3, .int wt), (2, .ref nb), (1, .ref its), (0, .ref (ad 52))]) [0, 1, 2, 3, 4, 5, 6, 7, 8] rfl ?_
    exact J5_pour g v_m_th v_m_cl v_m_wa v_m_co_ v_m_fi v_m_bu v_m_ho v_m_lh v_m_mg v_m_wd v_m_po v_m_de fl he nx mtt fz ic gp f_i f_n mif mdf qn gr9 mg9 its nb q124 q129 p_n tk wt hT hch_i hg_i h0_n hp_n x4 _ _ _ K
theorem d_Mm_pour_292 : decode prog_14_method_77_code 292 = .ok (.istore 8, 2) := by decide +kernel
theorem d_Mm_pour_294 : decode prog_14_method_77_code 294 = .ok (.aload 6, 2) := by decide +kernel
theorem d_Mm_pour_296 : decode prog_14_method_77_code 296 = .ok (.iconst 0, 1) := by decide +kernel
theorem d_Mm_pour_297 : decode prog_14_method_77_code 297 = .ok (.laload, 1) := by decide +kernel
theorem d_Mm_pour_298 : decode prog_14_method_77_code 298 = .ok (.ldc2_w 244, 3) := by decide +kernel
theorem d_Mm_pour_301 : decode prog_14_method_77_code 301 = .ok (.lmul, 1) := by decide +kernel
theorem d_Mm_pour_302 : decode prog_14_method_77_code 302 = .ok (.iload 4, 2) := by decide +kernel
theorem d_Mm_pour_304 : decode prog_14_method_77_code 304 = .ok (.i2l, 1) := by decide +kernel
theorem d_Mm_pour_305 : decode prog_14_method_77_code 305 = .ok (.ldiv, 1) := by decide +kernel
theorem d_Mm_pour_306 : decode prog_14_method_77_code 306 = .ok (.l2i, 1) := by decide +kernel
theorem d_Mm_pour_307 : decode prog_14_method_77_code 307 = .ok (.aload 6, 2) := by decide +kernel
theorem d_Mm_pour_309 : decode prog_14_method_77_code 309 = .ok (.iconst 1, 1) := by decide +kernel
theorem d_Mm_pour_310 : decode prog_14_method_77_code 310 = .ok (.laload, 1) := by decide +kernel
theorem d_Mm_pour_311 : decode prog_14_method_77_code 311 = .ok (.ldc2_w 244, 3) := by decide +kernel
theorem d_Mm_pour_314 : decode prog_14_method_77_code 314 = .ok (.lmul, 1) := by decide +kernel
theorem d_Mm_pour_315 : decode prog_14_method_77_code 315 = .ok (.iload 4, 2) := by decide +kernel
theorem d_Mm_pour_317 : decode prog_14_method_77_code 317 = .ok (.i2l, 1) := by decide +kernel
theorem d_Mm_pour_318 : decode prog_14_method_77_code 318 = .ok (.ldiv, 1) := by decide +kernel
theorem d_Mm_pour_319 : decode prog_14_method_77_code 319 = .ok (.l2i, 1) := by decide +kernel
theorem d_Mm_pour_320 : decode prog_14_method_77_code 320 = .ok (.iconst 3, 1) := by decide +kernel
theorem d_Mm_pour_321 : decode prog_14_method_77_code 321 = .ok (.idiv, 1) := by decide +kernel
theorem d_Mm_pour_322 : decode prog_14_method_77_code 322 = .ok (.iadd, 1) := by decide +kernel
theorem d_Mm_pour_323 : decode prog_14_method_77_code 323 = .ok (.istore 9, 2) := by decide +kernel
theorem d_Mm_pour_325 : decode prog_14_method_77_code 325 = .ok (.iload 9, 2) := by decide +kernel
theorem d_Mm_pour_327 : decode prog_14_method_77_code 327 = .ok (.sipush 370, 3) := by decide +kernel
theorem d_Mm_pour_330 : decode prog_14_method_77_code 330 = .ok (.if_icmp .lt 16, 3) := by decide +kernel
theorem d_Mm_pour_346 : decode prog_14_method_77_code 346 = .ok (.iconst 1, 1) := by decide +kernel
theorem d_Mm_pour_347 : decode prog_14_method_77_code 347 = .ok (.goto 4, 3) := by decide +kernel
theorem d_Mm_pour_333 : decode prog_14_method_77_code 333 = .ok (.aload_n 0, 1) := by decide +kernel
theorem d_Mm_pour_334 : decode prog_14_method_77_code 334 = .ok (.getfield 260, 3) := by decide +kernel
theorem d_Mm_pour_337 : decode prog_14_method_77_code 337 = .ok (.iconst 1, 1) := by decide +kernel
theorem d_Mm_pour_338 : decode prog_14_method_77_code 338 = .ok (.bipush 19, 2) := by decide +kernel
theorem d_Mm_pour_340 : decode prog_14_method_77_code 340 = .ok (.invokestatic 87, 3) := by decide +kernel
theorem ok_Mm_pour_Mm_in : z_ok M_Mm_pour M_Mm_in 3 := ⟨z_mem (i := 1687) (by decide +kernel) (by decide +kernel), rfl, ⟨by decide +kernel, by decide +kernel, by decide +kernel⟩, ⟨by decide, by decide⟩, z_mem (i := 71) (by decide +kernel) (by decide +kernel), rfl⟩
theorem d_Mm_pour_343 : decode prog_14_method_77_code 343 = .ok (.ifCond .eq 7, 3) := by decide +kernel
theorem d_Mm_pour_350 : decode prog_14_method_77_code 350 = .ok (.iconst 0, 1) := by decide +kernel
set_option maxHeartbeats 4000000 in
set_option maxRecDepth 100000 in
theorem J3_pour (g : zG) {Ψ : zO → zW → Prop} {w0 : zW} {n kc ks : Nat} {ad : Nat → Nat} {t : zTT} (v_m_th v_m_cl v_m_wa v_m_co_ v_m_fi v_m_bu v_m_ho v_m_lh v_m_mg v_m_wd : Int32) (v_m_po v_m_de : Int64) (fl he nx mtt fz ic gp f_i f_n mif mdf : Nat → Int32) (qn : Nat → Nat) (gr9 mg9 : Nat → Int64) (its nb q124 q129 p_n : Nat) (tk wt : Int32) (hT : ¬ tk = 0) (hch_i : z_ch f_i) (hg_i : ¬ fa_cnt (fun k => decide (f_i k = 103)) 12 = 0) (h0_n : f_n 0 = nI p_n) (hp_n : 1 ≤ p_n ∧ p_n < 9) (x4 : Int32) (x8 : Int32) (K : ∀ (x11 x4 : Int32) (gp : Nat → Int32) (qn : Nat → Nat), DU g M_Mm_pour Ψ w0 n 461 [(11, .int x11), (6, .ref q129), (5, .ref q124), (0, .ref (ad 52))] [] [((ad 52), .inr (12, [.int v_m_th, .ref (ad 53), .int (nI t.2.2.2.1), .ref (ad 54), .ref (ad 55), .ref (ad 56), .ref (ad 57), .ref (ad 58), .ref (ad 59), .ref (ad 60), .ref (ad 61), .int v_m_cl, .int v_m_wa, .int v_m_co_, .int v_m_fi, .int v_m_bu, .int v_m_ho, .ref (ad 62), .ref (ad 63), .ref (ad 64), .int v_m_lh, .int v_m_mg, .int v_m_wd, .int (t.2.2.2.2 3), .int (t.2.2.2.2 4), .ref (ad 65), .ref (ad 66), .ref (ad 67), .ref (ad 68), .long v_m_po, .long v_m_de])), ((ad 63), .inl (0, 4, .inl mif)), ((ad 64), .inl (3, 16, .inr (.inl gr9))), ((ad 54), .inl (0, 108, .inl fl)), ((ad 55), .inl (0, 108, .inl he)), ((ad 56), .inl (0, 108, .inl nx)), ((ad 57), .inl (0, 108, .inl mtt)), ((ad 58), .inl (0, 108, .inl fz)), ((ad 59), .inl (2, 108, .inl ic)), ((ad 60), .inl (0, 108, .inl (fun k => nI (qn k)))), ((ad 61), .inl (0, 108, .inl gp)), (its, .inl (1, 108, .inl f_i)), (nb, .inl (0, 5, .inl f_n)), (q124, .inl (0, 6, .inl (upd mdf 4 x4))), (q129, .inl (3, 4, .inr (.inl mg9)))] kc ks) : DU g M_Mm_pour Ψ w0 n 292 [(6, .ref q129), (5, .ref q124), (4, .int tk), (3, .int wt), (2, .ref nb), (1, .ref its), (0, .ref (ad 52))] [.int x8] [((ad 52), .inr (12, [.int v_m_th, .ref (ad 53), .int (nI t.2.2.2.1), .ref (ad 54), .ref (ad 55), .ref (ad 56), .ref (ad 57), .ref (ad 58), .ref (ad 59), .ref (ad 60), .ref (ad 61), .int v_m_cl, .int v_m_wa, .int v_m_co_, .int v_m_fi, .int v_m_bu, .int v_m_ho, .ref (ad 62), .ref (ad 63), .ref (ad 64), .int v_m_lh, .int v_m_mg, .int v_m_wd, .int (t.2.2.2.2 3), .int (t.2.2.2.2 4), .ref (ad 65), .ref (ad 66), .ref (ad 67), .ref (ad 68), .long v_m_po, .long v_m_de])), ((ad 63), .inl (0, 4, .inl mif)), ((ad 64), .inl (3, 16, .inr (.inl gr9))), ((ad 54), .inl (0, 108, .inl fl)), ((ad 55), .inl (0, 108, .inl he)), ((ad 56), .inl (0, 108, .inl nx)), ((ad 57), .inl (0, 108, .inl mtt)), ((ad 58), .inl (0, 108, .inl fz)), ((ad 59), .inl (2, 108, .inl ic)), ((ad 60), .inl (0, 108, .inl (fun k => nI (qn k)))), ((ad 61), .inl (0, 108, .inl gp)), (its, .inl (1, 108, .inl f_i)), (nb, .inl (0, 5, .inl f_n)), (q124, .inl (0, 6, .inl (upd mdf 4 x4))), (q129, .inl (3, 4, .inr (.inl mg9)))] kc ks := by
  refine y_istore (lv' := [(8, .int x8), (6, .ref q129), (5, .ref q124), (4, .int tk), (3, .int wt), (2, .ref nb), (1, .ref its), (0, .ref (ad 52))]) d_Mm_pour_292 (by decide) rfl ?_
  refine y_aload d_Mm_pour_294 1 rfl ?_
  refine y_iconst d_Mm_pour_296 (v := 0) (by decide) ?_
  refine y_lald d_Mm_pour_297 (q0 := 14) rfl (fun q => q.elim (by decide) (by decide)) (v := mg9 0) rfl ?_
  refine y_ldc2 ct_Mm_244 d_Mm_pour_298 ?_
  refine y_lmul d_Mm_pour_301 (v := (mg9 0) * 10) rfl ?_
  refine y_iload d_Mm_pour_302 3 rfl ?_
  refine y_i2l d_Mm_pour_304 (v := tk.toInt64) rfl ?_
  refine y_ldiv d_Mm_pour_305 (v := ((mg9 0) * 10) / tk.toInt64) (z_l0 hT) rfl ?_
  refine y_l2i d_Mm_pour_306 (v := (((mg9 0) * 10) / tk.toInt64).toInt32) rfl ?_
  refine y_aload d_Mm_pour_307 1 rfl ?_
  refine y_iconst d_Mm_pour_309 (v := 1) (by decide) ?_
  refine y_lald d_Mm_pour_310 (q0 := 14) rfl (fun q => q.elim (by decide) (by decide)) (v := mg9 1) rfl ?_
  refine y_ldc2 ct_Mm_244 d_Mm_pour_311 ?_
  refine y_lmul d_Mm_pour_314 (v := (mg9 1) * 10) rfl ?_
  refine y_iload d_Mm_pour_315 3 rfl ?_
  refine y_i2l d_Mm_pour_317 (v := tk.toInt64) rfl ?_
  refine y_ldiv d_Mm_pour_318 (v := ((mg9 1) * 10) / tk.toInt64) (z_l0 hT) rfl ?_
  refine y_l2i d_Mm_pour_319 (v := (((mg9 1) * 10) / tk.toInt64).toInt32) rfl ?_
  refine y_iconst d_Mm_pour_320 (v := 3) (by decide) ?_
  refine y_idiv d_Mm_pour_321 (v := ((((mg9 1) * 10) / tk.toInt64).toInt32) / 3) (by decide) rfl ?_
  refine y_iadd d_Mm_pour_322 (v := ((((mg9 0) * 10) / tk.toInt64).toInt32) + (((((mg9 1) * 10) / tk.toInt64).toInt32) / 3)) rfl ?_
  refine y_istore (lv' := [(9, .int (((((mg9 0) * 10) / tk.toInt64).toInt32) + (((((mg9 1) * 10) / tk.toInt64).toInt32) / 3))), (8, .int x8), (6, .ref q129), (5, .ref q124), (4, .int tk), (3, .int wt), (2, .ref nb), (1, .ref its), (0, .ref (ad 52))]) d_Mm_pour_323 (by decide) rfl ?_
  refine y_iload d_Mm_pour_325 0 rfl ?_
  refine y_sipush d_Mm_pour_327 (v := 370) (by decide) ?_
  refine y_icmp_lt (tgt := 346) d_Mm_pour_330 (by decide) (fun c_330 => ?_) (fun c_330 => ?_)
  · refine y_iconst d_Mm_pour_346 (v := 1) (by decide) ?_
    refine y_goto (tgt := 351) d_Mm_pour_347 (by decide) ?_
    refine y_lv (lv' := [(8, .int x8), (6, .ref q129), (5, .ref q124), (4, .int tk), (3, .int wt), (2, .ref nb), (1, .ref its), (0, .ref (ad 52))]) [1, 2, 3, 4, 5, 6, 7, 8] rfl ?_
    exact J4_pour g v_m_th v_m_cl v_m_wa v_m_co_ v_m_fi v_m_bu v_m_ho v_m_lh v_m_mg v_m_wd v_m_po v_m_de fl he nx mtt fz ic gp f_i f_n mif mdf qn gr9 mg9 its nb q124 q129 p_n tk wt hT hch_i hg_i h0_n hp_n x4 _ _ K
  · refine y_aload_n d_Mm_pour_333 rfl 8 rfl ?_
    refine y_get fs_Mm_260 d_Mm_pour_334 (q0 := 0) rfl rfl ?_
    refine y_iconst d_Mm_pour_337 (v := 1) (by decide) ?_
    refine y_bipush d_Mm_pour_338 (v := 19) (by decide) ?_
    refine y_callS (As := [.int v_m_mg, .int 1, .int 19]) (rest := []) (csC := []) (is := []) ln_Mm_87 w_st_Mm_in ok_Mm_pour_Mm_in d_Mm_pour_340 (C_Mm_in g v_m_mg 1 19) rfl rfl (Nat.le_of_ble_eq_true rfl) rfl (by decide) (by omega) (by omega) (fun E cs1 hx => ?_) (fun v cs1 hx => ?_)
    · exact absurd hx.1 (by simp)
    · obtain ⟨e1, rfl⟩ := hx
      cases e1
      refine ⟨rfl, ?_⟩
      refine y_st (st2 := [.int (if 1 ≤ v_m_mg ∧ v_m_mg ≤ 19 then 1 else 0)]) rfl ?_
      refine y_cs (cs2 := [((ad 52), .inr (12, [.int v_m_th, .ref (ad 53), .int (nI t.2.2.2.1), .ref (ad 54), .ref (ad 55), .ref (ad 56), .ref (ad 57), .ref (ad 58), .ref (ad 59), .ref (ad 60), .ref (ad 61), .int v_m_cl, .int v_m_wa, .int v_m_co_, .int v_m_fi, .int v_m_bu, .int v_m_ho, .ref (ad 62), .ref (ad 63), .ref (ad 64), .int v_m_lh, .int v_m_mg, .int v_m_wd, .int (t.2.2.2.2 3), .int (t.2.2.2.2 4), .ref (ad 65), .ref (ad 66), .ref (ad 67), .ref (ad 68), .long v_m_po, .long v_m_de])), ((ad 63), .inl (0, 4, .inl mif)), ((ad 64), .inl (3, 16, .inr (.inl gr9))), ((ad 54), .inl (0, 108, .inl fl)), ((ad 55), .inl (0, 108, .inl he)), ((ad 56), .inl (0, 108, .inl nx)), ((ad 57), .inl (0, 108, .inl mtt)), ((ad 58), .inl (0, 108, .inl fz)), ((ad 59), .inl (2, 108, .inl ic)), ((ad 60), .inl (0, 108, .inl (fun k => nI (qn k)))), ((ad 61), .inl (0, 108, .inl gp)), (its, .inl (1, 108, .inl f_i)), (nb, .inl (0, 5, .inl f_n)), (q124, .inl (0, 6, .inl (upd mdf 4 x4))), (q129, .inl (3, 4, .inr (.inl mg9)))]) rfl ?_
      refine y_if_eq (tgt := 350) d_Mm_pour_343 (by decide) (fun c_343 => ?_) (fun c_343 => ?_)
      · refine y_iconst d_Mm_pour_350 (v := 0) (by decide) ?_
        refine y_lv (lv' := [(8, .int x8), (6, .ref q129), (5, .ref q124), (4, .int tk), (3, .int wt), (2, .ref nb), (1, .ref its), (0, .ref (ad 52))]) [1, 2, 3, 4, 5, 6, 7, 8] rfl ?_
        exact J4_pour g v_m_th v_m_cl v_m_wa v_m_co_ v_m_fi v_m_bu v_m_ho v_m_lh v_m_mg v_m_wd v_m_po v_m_de fl he nx mtt fz ic gp f_i f_n mif mdf qn gr9 mg9 its nb q124 q129 p_n tk wt hT hch_i hg_i h0_n hp_n x4 _ _ K
      · refine y_iconst d_Mm_pour_346 (v := 1) (by decide) ?_
        refine y_goto (tgt := 351) d_Mm_pour_347 (by decide) ?_
        refine y_lv (lv' := [(8, .int x8), (6, .ref q129), (5, .ref q124), (4, .int tk), (3, .int wt), (2, .ref nb), (1, .ref its), (0, .ref (ad 52))]) [1, 2, 3, 4, 5, 6, 7, 8] rfl ?_
        exact J4_pour g v_m_th v_m_cl v_m_wa v_m_co_ v_m_fi v_m_bu v_m_ho v_m_lh v_m_mg v_m_wd v_m_po v_m_de fl he nx mtt fz ic gp f_i f_n mif mdf qn gr9 mg9 its nb q124 q129 p_n tk wt hT hch_i hg_i h0_n hp_n x4 _ _ K
theorem d_Mm_pour_262 : decode prog_14_method_77_code 262 = .ok (.iastore, 1) := by decide +kernel
theorem d_Mm_pour_263 : decode prog_14_method_77_code 263 = .ok (.aload_n 2, 1) := by decide +kernel
theorem d_Mm_pour_264 : decode prog_14_method_77_code 264 = .ok (.iconst 2, 1) := by decide +kernel
theorem d_Mm_pour_265 : decode prog_14_method_77_code 265 = .ok (.iaload, 1) := by decide +kernel
theorem d_Mm_pour_266 : decode prog_14_method_77_code 266 = .ok (.bipush 80, 2) := by decide +kernel
theorem d_Mm_pour_268 : decode prog_14_method_77_code 268 = .ok (.if_icmp .ge 11, 3) := by decide +kernel
theorem d_Mm_pour_279 : decode prog_14_method_77_code 279 = .ok (.aload_n 2, 1) := by decide +kernel
theorem d_Mm_pour_280 : decode prog_14_method_77_code 280 = .ok (.iconst 4, 1) := by decide +kernel
theorem d_Mm_pour_281 : decode prog_14_method_77_code 281 = .ok (.iaload, 1) := by decide +kernel
theorem d_Mm_pour_282 : decode prog_14_method_77_code 282 = .ok (.bipush 60, 2) := by decide +kernel
theorem d_Mm_pour_284 : decode prog_14_method_77_code 284 = .ok (.if_icmp .le 7, 3) := by decide +kernel
theorem d_Mm_pour_291 : decode prog_14_method_77_code 291 = .ok (.iconst 0, 1) := by decide +kernel
theorem d_Mm_pour_287 : decode prog_14_method_77_code 287 = .ok (.iconst 1, 1) := by decide +kernel
theorem d_Mm_pour_288 : decode prog_14_method_77_code 288 = .ok (.goto 4, 3) := by decide +kernel
theorem d_Mm_pour_271 : decode prog_14_method_77_code 271 = .ok (.aload_n 2, 1) := by decide +kernel
theorem d_Mm_pour_272 : decode prog_14_method_77_code 272 = .ok (.iconst 3, 1) := by decide +kernel
theorem d_Mm_pour_273 : decode prog_14_method_77_code 273 = .ok (.iaload, 1) := by decide +kernel
theorem d_Mm_pour_274 : decode prog_14_method_77_code 274 = .ok (.bipush 40, 2) := by decide +kernel
theorem d_Mm_pour_276 : decode prog_14_method_77_code 276 = .ok (.if_icmp .gt 11, 3) := by decide +kernel
set_option maxHeartbeats 4000000 in
set_option maxRecDepth 100000 in
theorem J2_pour (g : zG) {Ψ : zO → zW → Prop} {w0 : zW} {n kc ks : Nat} {ad : Nat → Nat} {t : zTT} (v_m_th v_m_cl v_m_wa v_m_co_ v_m_fi v_m_bu v_m_ho v_m_lh v_m_mg v_m_wd : Int32) (v_m_po v_m_de : Int64) (fl he nx mtt fz ic gp f_i f_n mif mdf : Nat → Int32) (qn : Nat → Nat) (gr9 mg9 : Nat → Int64) (its nb q124 q129 p_n : Nat) (tk wt : Int32) (hT : ¬ tk = 0) (hch_i : z_ch f_i) (hg_i : ¬ fa_cnt (fun k => decide (f_i k = 103)) 12 = 0) (h0_n : f_n 0 = nI p_n) (hp_n : 1 ≤ p_n ∧ p_n < 9) (x4 : Int32) (K : ∀ (x11 x4 : Int32) (gp : Nat → Int32) (qn : Nat → Nat), DU g M_Mm_pour Ψ w0 n 461 [(11, .int x11), (6, .ref q129), (5, .ref q124), (0, .ref (ad 52))] [] [((ad 52), .inr (12, [.int v_m_th, .ref (ad 53), .int (nI t.2.2.2.1), .ref (ad 54), .ref (ad 55), .ref (ad 56), .ref (ad 57), .ref (ad 58), .ref (ad 59), .ref (ad 60), .ref (ad 61), .int v_m_cl, .int v_m_wa, .int v_m_co_, .int v_m_fi, .int v_m_bu, .int v_m_ho, .ref (ad 62), .ref (ad 63), .ref (ad 64), .int v_m_lh, .int v_m_mg, .int v_m_wd, .int (t.2.2.2.2 3), .int (t.2.2.2.2 4), .ref (ad 65), .ref (ad 66), .ref (ad 67), .ref (ad 68), .long v_m_po, .long v_m_de])), ((ad 63), .inl (0, 4, .inl mif)), ((ad 64), .inl (3, 16, .inr (.inl gr9))), ((ad 54), .inl (0, 108, .inl fl)), ((ad 55), .inl (0, 108, .inl he)), ((ad 56), .inl (0, 108, .inl nx)), ((ad 57), .inl (0, 108, .inl mtt)), ((ad 58), .inl (0, 108, .inl fz)), ((ad 59), .inl (2, 108, .inl ic)), ((ad 60), .inl (0, 108, .inl (fun k => nI (qn k)))), ((ad 61), .inl (0, 108, .inl gp)), (its, .inl (1, 108, .inl f_i)), (nb, .inl (0, 5, .inl f_n)), (q124, .inl (0, 6, .inl (upd mdf 4 x4))), (q129, .inl (3, 4, .inr (.inl mg9)))] kc ks) : DU g M_Mm_pour Ψ w0 n 262 [(6, .ref q129), (5, .ref q124), (4, .int tk), (3, .int wt), (2, .ref nb), (1, .ref its), (0, .ref (ad 52))] [.int x4, .int 4, .ref q124] [((ad 52), .inr (12, [.int v_m_th, .ref (ad 53), .int (nI t.2.2.2.1), .ref (ad 54), .ref (ad 55), .ref (ad 56), .ref (ad 57), .ref (ad 58), .ref (ad 59), .ref (ad 60), .ref (ad 61), .int v_m_cl, .int v_m_wa, .int v_m_co_, .int v_m_fi, .int v_m_bu, .int v_m_ho, .ref (ad 62), .ref (ad 63), .ref (ad 64), .int v_m_lh, .int v_m_mg, .int v_m_wd, .int (t.2.2.2.2 3), .int (t.2.2.2.2 4), .ref (ad 65), .ref (ad 66), .ref (ad 67), .ref (ad 68), .long v_m_po, .long v_m_de])), ((ad 63), .inl (0, 4, .inl mif)), ((ad 64), .inl (3, 16, .inr (.inl gr9))), ((ad 54), .inl (0, 108, .inl fl)), ((ad 55), .inl (0, 108, .inl he)), ((ad 56), .inl (0, 108, .inl nx)), ((ad 57), .inl (0, 108, .inl mtt)), ((ad 58), .inl (0, 108, .inl fz)), ((ad 59), .inl (2, 108, .inl ic)), ((ad 60), .inl (0, 108, .inl (fun k => nI (qn k)))), ((ad 61), .inl (0, 108, .inl gp)), (its, .inl (1, 108, .inl f_i)), (nb, .inl (0, 5, .inl f_n)), (q124, .inl (0, 6, .inl mdf)), (q129, .inl (3, 4, .inr (.inl mg9)))] kc ks := by
  refine y_iast d_Mm_pour_262 (q0 := 13) rfl (fun q => q.elim (by decide) (by decide)) (f' := upd mdf 4 x4) rfl (cs' := [((ad 52), .inr (12, [.int v_m_th, .ref (ad 53), .int (nI t.2.2.2.1), .ref (ad 54), .ref (ad 55), .ref (ad 56), .ref (ad 57), .ref (ad 58), .ref (ad 59), .ref (ad 60), .ref (ad 61), .int v_m_cl, .int v_m_wa, .int v_m_co_, .int v_m_fi, .int v_m_bu, .int v_m_ho, .ref (ad 62), .ref (ad 63), .ref (ad 64), .int v_m_lh, .int v_m_mg, .int v_m_wd, .int (t.2.2.2.2 3), .int (t.2.2.2.2 4), .ref (ad 65), .ref (ad 66), .ref (ad 67), .ref (ad 68), .long v_m_po, .long v_m_de])), ((ad 63), .inl (0, 4, .inl mif)), ((ad 64), .inl (3, 16, .inr (.inl gr9))), ((ad 54), .inl (0, 108, .inl fl)), ((ad 55), .inl (0, 108, .inl he)), ((ad 56), .inl (0, 108, .inl nx)), ((ad 57), .inl (0, 108, .inl mtt)), ((ad 58), .inl (0, 108, .inl fz)), ((ad 59), .inl (2, 108, .inl ic)), ((ad 60), .inl (0, 108, .inl (fun k => nI (qn k)))), ((ad 61), .inl (0, 108, .inl gp)), (its, .inl (1, 108, .inl f_i)), (nb, .inl (0, 5, .inl f_n)), (q124, .inl (0, 6, .inl (upd mdf 4 x4))), (q129, .inl (3, 4, .inr (.inl mg9)))]) rfl ?_
  refine y_aload_n d_Mm_pour_263 rfl 4 rfl ?_
  refine y_iconst d_Mm_pour_264 (v := 2) (by decide) ?_
  refine y_iald d_Mm_pour_265 (q0 := 12) rfl (fun q => q.elim (by decide) (by decide)) (v := f_n 2) rfl ?_
  refine y_bipush d_Mm_pour_266 (v := 80) (by decide) ?_
  refine y_icmp_ge (tgt := 279) d_Mm_pour_268 (by decide) (fun c_268 => ?_) (fun c_268 => ?_)
  · refine y_aload_n d_Mm_pour_279 rfl 4 rfl ?_
    refine y_iconst d_Mm_pour_280 (v := 4) (by decide) ?_
    refine y_iald d_Mm_pour_281 (q0 := 12) rfl (fun q => q.elim (by decide) (by decide)) (v := f_n 4) rfl ?_
    refine y_bipush d_Mm_pour_282 (v := 60) (by decide) ?_
    refine y_icmp_le (tgt := 291) d_Mm_pour_284 (by decide) (fun c_284 => ?_) (fun c_284 => ?_)
    · refine y_iconst d_Mm_pour_291 (v := 0) (by decide) ?_
      refine y_lv (lv' := [(6, .ref q129), (5, .ref q124), (4, .int tk), (3, .int wt), (2, .ref nb), (1, .ref its), (0, .ref (ad 52))]) [0, 1, 2, 3, 4, 5, 6] rfl ?_
      exact J3_pour g v_m_th v_m_cl v_m_wa v_m_co_ v_m_fi v_m_bu v_m_ho v_m_lh v_m_mg v_m_wd v_m_po v_m_de fl he nx mtt fz ic gp f_i f_n mif mdf qn gr9 mg9 its nb q124 q129 p_n tk wt hT hch_i hg_i h0_n hp_n x4 _ K
    · refine y_iconst d_Mm_pour_287 (v := 1) (by decide) ?_
      refine y_goto (tgt := 292) d_Mm_pour_288 (by decide) ?_
      refine y_lv (lv' := [(6, .ref q129), (5, .ref q124), (4, .int tk), (3, .int wt), (2, .ref nb), (1, .ref its), (0, .ref (ad 52))]) [0, 1, 2, 3, 4, 5, 6] rfl ?_
      exact J3_pour g v_m_th v_m_cl v_m_wa v_m_co_ v_m_fi v_m_bu v_m_ho v_m_lh v_m_mg v_m_wd v_m_po v_m_de fl he nx mtt fz ic gp f_i f_n mif mdf qn gr9 mg9 its nb q124 q129 p_n tk wt hT hch_i hg_i h0_n hp_n x4 _ K
  · refine y_aload_n d_Mm_pour_271 rfl 4 rfl ?_
    refine y_iconst d_Mm_pour_272 (v := 3) (by decide) ?_
    refine y_iald d_Mm_pour_273 (q0 := 12) rfl (fun q => q.elim (by decide) (by decide)) (v := f_n 3) rfl ?_
    refine y_bipush d_Mm_pour_274 (v := 40) (by decide) ?_
    refine y_icmp_gt (tgt := 287) d_Mm_pour_276 (by decide) (fun c_276 => ?_) (fun c_276 => ?_)
    · refine y_iconst d_Mm_pour_287 (v := 1) (by decide) ?_
      refine y_goto (tgt := 292) d_Mm_pour_288 (by decide) ?_
      refine y_lv (lv' := [(6, .ref q129), (5, .ref q124), (4, .int tk), (3, .int wt), (2, .ref nb), (1, .ref its), (0, .ref (ad 52))]) [0, 1, 2, 3, 4, 5, 6] rfl ?_
      exact J3_pour g v_m_th v_m_cl v_m_wa v_m_co_ v_m_fi v_m_bu v_m_ho v_m_lh v_m_mg v_m_wd v_m_po v_m_de fl he nx mtt fz ic gp f_i f_n mif mdf qn gr9 mg9 its nb q124 q129 p_n tk wt hT hch_i hg_i h0_n hp_n x4 _ K
    · refine y_aload_n d_Mm_pour_279 rfl 4 rfl ?_
      refine y_iconst d_Mm_pour_280 (v := 4) (by decide) ?_
      refine y_iald d_Mm_pour_281 (q0 := 12) rfl (fun q => q.elim (by decide) (by decide)) (v := f_n 4) rfl ?_
      refine y_bipush d_Mm_pour_282 (v := 60) (by decide) ?_
      refine y_icmp_le (tgt := 291) d_Mm_pour_284 (by decide) (fun c_284 => ?_) (fun c_284 => ?_)
      · refine y_iconst d_Mm_pour_291 (v := 0) (by decide) ?_
        refine y_lv (lv' := [(6, .ref q129), (5, .ref q124), (4, .int tk), (3, .int wt), (2, .ref nb), (1, .ref its), (0, .ref (ad 52))]) [0, 1, 2, 3, 4, 5, 6] rfl ?_
        exact J3_pour g v_m_th v_m_cl v_m_wa v_m_co_ v_m_fi v_m_bu v_m_ho v_m_lh v_m_mg v_m_wd v_m_po v_m_de fl he nx mtt fz ic gp f_i f_n mif mdf qn gr9 mg9 its nb q124 q129 p_n tk wt hT hch_i hg_i h0_n hp_n x4 _ K
      · refine y_iconst d_Mm_pour_287 (v := 1) (by decide) ?_
        refine y_goto (tgt := 292) d_Mm_pour_288 (by decide) ?_
        refine y_lv (lv' := [(6, .ref q129), (5, .ref q124), (4, .int tk), (3, .int wt), (2, .ref nb), (1, .ref its), (0, .ref (ad 52))]) [0, 1, 2, 3, 4, 5, 6] rfl ?_
        exact J3_pour g v_m_th v_m_cl v_m_wa v_m_co_ v_m_fi v_m_bu v_m_ho v_m_lh v_m_mg v_m_wd v_m_po v_m_de fl he nx mtt fz ic gp f_i f_n mif mdf qn gr9 mg9 its nb q124 q129 p_n tk wt hT hch_i hg_i h0_n hp_n x4 _ K
theorem d_Mm_pour_245 : decode prog_14_method_77_code 245 = .ok (.aload 5, 2) := by decide +kernel
theorem d_Mm_pour_247 : decode prog_14_method_77_code 247 = .ok (.iconst 4, 1) := by decide +kernel
theorem d_Mm_pour_248 : decode prog_14_method_77_code 248 = .ok (.aload_n 0, 1) := by decide +kernel
theorem d_Mm_pour_249 : decode prog_14_method_77_code 249 = .ok (.getfield 260, 3) := by decide +kernel
theorem d_Mm_pour_252 : decode prog_14_method_77_code 252 = .ok (.bipush 20, 2) := by decide +kernel
theorem d_Mm_pour_254 : decode prog_14_method_77_code 254 = .ok (.if_icmp .lt 7, 3) := by decide +kernel
theorem d_Mm_pour_261 : decode prog_14_method_77_code 261 = .ok (.iconst 0, 1) := by decide +kernel
theorem d_Mm_pour_257 : decode prog_14_method_77_code 257 = .ok (.iconst 1, 1) := by decide +kernel
theorem d_Mm_pour_258 : decode prog_14_method_77_code 258 = .ok (.goto 4, 3) := by decide +kernel
set_option maxHeartbeats 4000000 in
set_option maxRecDepth 100000 in
theorem J1_pour (g : zG) {Ψ : zO → zW → Prop} {w0 : zW} {n kc ks : Nat} {ad : Nat → Nat} {t : zTT} (v_m_th v_m_cl v_m_wa v_m_co_ v_m_fi v_m_bu v_m_ho v_m_lh v_m_mg v_m_wd : Int32) (v_m_po v_m_de : Int64) (fl he nx mtt fz ic gp f_i f_n mif mdf : Nat → Int32) (qn : Nat → Nat) (gr9 mg9 : Nat → Int64) (its nb q124 q129 p_n : Nat) (tk wt : Int32) (hT : ¬ tk = 0) (hch_i : z_ch f_i) (hg_i : ¬ fa_cnt (fun k => decide (f_i k = 103)) 12 = 0) (h0_n : f_n 0 = nI p_n) (hp_n : 1 ≤ p_n ∧ p_n < 9) (K : ∀ (x11 x4 : Int32) (gp : Nat → Int32) (qn : Nat → Nat), DU g M_Mm_pour Ψ w0 n 461 [(11, .int x11), (6, .ref q129), (5, .ref q124), (0, .ref (ad 52))] [] [((ad 52), .inr (12, [.int v_m_th, .ref (ad 53), .int (nI t.2.2.2.1), .ref (ad 54), .ref (ad 55), .ref (ad 56), .ref (ad 57), .ref (ad 58), .ref (ad 59), .ref (ad 60), .ref (ad 61), .int v_m_cl, .int v_m_wa, .int v_m_co_, .int v_m_fi, .int v_m_bu, .int v_m_ho, .ref (ad 62), .ref (ad 63), .ref (ad 64), .int v_m_lh, .int v_m_mg, .int v_m_wd, .int (t.2.2.2.2 3), .int (t.2.2.2.2 4), .ref (ad 65), .ref (ad 66), .ref (ad 67), .ref (ad 68), .long v_m_po, .long v_m_de])), ((ad 63), .inl (0, 4, .inl mif)), ((ad 64), .inl (3, 16, .inr (.inl gr9))), ((ad 54), .inl (0, 108, .inl fl)), ((ad 55), .inl (0, 108, .inl he)), ((ad 56), .inl (0, 108, .inl nx)), ((ad 57), .inl (0, 108, .inl mtt)), ((ad 58), .inl (0, 108, .inl fz)), ((ad 59), .inl (2, 108, .inl ic)), ((ad 60), .inl (0, 108, .inl (fun k => nI (qn k)))), ((ad 61), .inl (0, 108, .inl gp)), (its, .inl (1, 108, .inl f_i)), (nb, .inl (0, 5, .inl f_n)), (q124, .inl (0, 6, .inl (upd mdf 4 x4))), (q129, .inl (3, 4, .inr (.inl mg9)))] kc ks) : DU g M_Mm_pour Ψ w0 n 245 [(6, .ref q129), (5, .ref q124), (4, .int tk), (3, .int wt), (2, .ref nb), (1, .ref its), (0, .ref (ad 52))] [] [((ad 52), .inr (12, [.int v_m_th, .ref (ad 53), .int (nI t.2.2.2.1), .ref (ad 54), .ref (ad 55), .ref (ad 56), .ref (ad 57), .ref (ad 58), .ref (ad 59), .ref (ad 60), .ref (ad 61), .int v_m_cl, .int v_m_wa, .int v_m_co_, .int v_m_fi, .int v_m_bu, .int v_m_ho, .ref (ad 62), .ref (ad 63), .ref (ad 64), .int v_m_lh, .int v_m_mg, .int v_m_wd, .int (t.2.2.2.2 3), .int (t.2.2.2.2 4), .ref (ad 65), .ref (ad 66), .ref (ad 67), .ref (ad 68), .long v_m_po, .long v_m_de])), ((ad 63), .inl (0, 4, .inl mif)), ((ad 64), .inl (3, 16, .inr (.inl gr9))), ((ad 54), .inl (0, 108, .inl fl)), ((ad 55), .inl (0, 108, .inl he)), ((ad 56), .inl (0, 108, .inl nx)), ((ad 57), .inl (0, 108, .inl mtt)), ((ad 58), .inl (0, 108, .inl fz)), ((ad 59), .inl (2, 108, .inl ic)), ((ad 60), .inl (0, 108, .inl (fun k => nI (qn k)))), ((ad 61), .inl (0, 108, .inl gp)), (its, .inl (1, 108, .inl f_i)), (nb, .inl (0, 5, .inl f_n)), (q124, .inl (0, 6, .inl mdf)), (q129, .inl (3, 4, .inr (.inl mg9)))] kc ks := by
  refine y_aload d_Mm_pour_245 1 rfl ?_
  refine y_iconst d_Mm_pour_247 (v := 4) (by decide) ?_
  refine y_aload_n d_Mm_pour_248 rfl 6 rfl ?_
  refine y_get fs_Mm_260 d_Mm_pour_249 (q0 := 0) rfl rfl ?_
  refine y_bipush d_Mm_pour_252 (v := 20) (by decide) ?_
  refine y_icmp_lt (tgt := 261) d_Mm_pour_254 (by decide) (fun c_254 => ?_) (fun c_254 => ?_)
  · refine y_iconst d_Mm_pour_261 (v := 0) (by decide) ?_
    refine y_lv (lv' := [(6, .ref q129), (5, .ref q124), (4, .int tk), (3, .int wt), (2, .ref nb), (1, .ref its), (0, .ref (ad 52))]) [0, 1, 2, 3, 4, 5, 6] rfl ?_
    exact J2_pour g v_m_th v_m_cl v_m_wa v_m_co_ v_m_fi v_m_bu v_m_ho v_m_lh v_m_mg v_m_wd v_m_po v_m_de fl he nx mtt fz ic gp f_i f_n mif mdf qn gr9 mg9 its nb q124 q129 p_n tk wt hT hch_i hg_i h0_n hp_n _ K
  · refine y_iconst d_Mm_pour_257 (v := 1) (by decide) ?_
    refine y_goto (tgt := 262) d_Mm_pour_258 (by decide) ?_
    refine y_lv (lv' := [(6, .ref q129), (5, .ref q124), (4, .int tk), (3, .int wt), (2, .ref nb), (1, .ref its), (0, .ref (ad 52))]) [0, 1, 2, 3, 4, 5, 6] rfl ?_
    exact J2_pour g v_m_th v_m_cl v_m_wa v_m_co_ v_m_fi v_m_bu v_m_ho v_m_lh v_m_mg v_m_wd v_m_po v_m_de fl he nx mtt fz ic gp f_i f_n mif mdf qn gr9 mg9 its nb q124 q129 p_n tk wt hT hch_i hg_i h0_n hp_n _ K
set_option maxHeartbeats 4000000 in
set_option maxRecDepth 100000 in
theorem Q_Mm_pourE {g : zG} {ad : Nat → Nat} {t : zTT} {u : zNN} {w : zW} (hI : IV g ad t u w) (h0 : u.1 3 = 0) : zMB g M_Mm_pour [.ref (ad 52)] w (fun o w1 => (∃ v : Int32, o = .inl (some (.int v))) ∧ ∃ u2, IV g ad t u2 w1) 0 0 := by
  obtain ⟨e_m, wf_m, k_m⟩ := hI.1.2 52 (by decide)
  obtain ⟨v_m_th, v_m_cl, v_m_wa, v_m_co_, v_m_fi, v_m_bu, v_m_ho, v_m_lh, v_m_mg, v_m_wd, v_m_po, v_m_de, rfl⟩ := kd_52.mp k_m
  refine y_of (by decide) rfl (Nat.le_of_ble_eq_true rfl) (y_base (cs := [((ad 52), .inr (12, [.int v_m_th, .ref (ad 53), .int (nI t.2.2.2.1), .ref (ad 54), .ref (ad 55), .ref (ad 56), .ref (ad 57), .ref (ad 58), .ref (ad 59), .ref (ad 60), .ref (ad 61), .int v_m_cl, .int v_m_wa, .int v_m_co_, .int v_m_fi, .int v_m_bu, .int v_m_ho, .ref (ad 62), .ref (ad 63), .ref (ad 64), .int v_m_lh, .int v_m_mg, .int v_m_wd, .int (t.2.2.2.2 3), .int (t.2.2.2.2 4), .ref (ad 65), .ref (ad 66), .ref (ad 67), .ref (ad 68), .long v_m_po, .long v_m_de]))]) (hI.1.I [52] _ rfl (by decide) (by decide) (List.forall_mem_cons.mpr ⟨wf_m, (fun _ h => nomatch h)⟩)) ?_)
  refine y_lvE (lv2 := [(0, .ref (ad 52))]) rfl ?_
  refine y_aload_n d_Mm_pour_0 rfl 0 rfl ?_
  refine y_iconst d_Mm_pour_1 (v := 0) (by decide) ?_
  refine y_put fp_Mm_84 d_Mm_pour_2 (fun h => nomatch h) rfl rfl (q0 := 0) rfl (Nat.le_of_ble_eq_true rfl) (cs' := [((ad 52), .inr (12, [.int 0, .ref (ad 53), .int (nI t.2.2.2.1), .ref (ad 54), .ref (ad 55), .ref (ad 56), .ref (ad 57), .ref (ad 58), .ref (ad 59), .ref (ad 60), .ref (ad 61), .int v_m_cl, .int v_m_wa, .int v_m_co_, .int v_m_fi, .int v_m_bu, .int v_m_ho, .ref (ad 62), .ref (ad 63), .ref (ad 64), .int v_m_lh, .int v_m_mg, .int v_m_wd, .int (t.2.2.2.2 3), .int (t.2.2.2.2 4), .ref (ad 65), .ref (ad 66), .ref (ad 67), .ref (ad 68), .long v_m_po, .long v_m_de]))]) rfl ?_
  refine y_aload_n d_Mm_pour_5 rfl 0 rfl ?_
  refine y_aload_n d_Mm_pour_6 rfl 0 rfl ?_
  refine y_get fs_Mm_72 d_Mm_pour_7 (q0 := 0) rfl rfl ?_
  refine yw_callVL (As := []) (rest := [.ref (ad 52)]) (ci := 13) rfl (fun wA hA => ((hI.gen (t2 := t) (is := [52]) (L2 := []) hA rfl ⟨kd_52.mpr ⟨_, _, _, _, _, _, _, _, _, _, _, _, rfl⟩, trivial⟩ (by decide) (by decide) (fun _ h => nomatch h) (fun _ h => nomatch h) (fun _ _ _ _ h => h) (fun h => h)).2.1.1 3 (by decide)).ob) ln_Mm_289 w_im_AL_isEmpty w_se_AL_isEmpty ok_Mm_pour_AL_isEmpty d_Mm_pour_10 (fun wA hA => Q_isEmpty ((hI.gen (t2 := t) (is := [52]) (L2 := []) hA rfl ⟨kd_52.mpr ⟨_, _, _, _, _, _, _, _, _, _, _, _, rfl⟩, trivial⟩ (by decide) (by decide) (fun _ h => nomatch h) (fun _ h => nomatch h) (fun _ _ _ _ h => h) (fun h => h)).2.1.1 3 (by decide))) rfl rfl (Nat.le_of_ble_eq_true rfl) (by omega) (by omega) (fun wA10 hA10 E wB10 hx => ?_) (fun wA10 hA10 v wB10 hx => ?_)
  · exact absurd hx.1 (by simp)
  · obtain ⟨e1, e2⟩ := hx
    rw [if_pos h0] at e1
    cases e1
    refine yw_st (st2 := [.int 1, .ref (ad 52)]) rfl ?_
    subst e2
    refine y_go hA10 ?_
    refine y_iconst d_Mm_pour_13 (v := 1) (by decide) ?_
    refine y_callV (As := [.int 1, .int 1]) (rest := []) (csC := [((ad 52), .inr (12, [.int 0, .ref (ad 53), .int (nI t.2.2.2.1), .ref (ad 54), .ref (ad 55), .ref (ad 56), .ref (ad 57), .ref (ad 58), .ref (ad 59), .ref (ad 60), .ref (ad 61), .int v_m_cl, .int v_m_wa, .int v_m_co_, .int v_m_fi, .int v_m_bu, .int v_m_ho, .ref (ad 62), .ref (ad 63), .ref (ad 64), .int v_m_lh, .int v_m_mg, .int v_m_wd, .int (t.2.2.2.2 3), .int (t.2.2.2.2 4), .ref (ad 65), .ref (ad 66), .ref (ad 67), .ref (ad 68), .long v_m_po, .long v_m_de]))]) (is := [0]) (q0 := 0) rfl rfl ln_Mm_103 w_im_Mm_fails w_se_Mm_fails ok_Mm_pour_Mm_fails d_Mm_pour_14 (C_Mm_fails1 g (ad 52) (ad 53) (ad 54) (ad 55) (ad 56) (ad 57) (ad 58) (ad 59) (ad 60) (ad 61) (ad 62) (ad 63) (ad 64) (ad 65) (ad 66) (ad 67) (ad 68) 0 (nI t.2.2.2.1) v_m_cl v_m_wa v_m_co_ v_m_fi v_m_bu v_m_ho v_m_lh v_m_mg v_m_wd (t.2.2.2.2 3) (t.2.2.2.2 4) v_m_po v_m_de) rfl rfl (Nat.le_of_ble_eq_true rfl) rfl (by decide) (by omega) (by omega) (fun E cs1 hx => ?_) (fun v cs1 hx => ?_)
    · exact absurd hx.1 (by simp)
    · obtain ⟨e1, rfl⟩ := hx
      cases e1
      refine ⟨rfl, ?_⟩
      refine y_st (st2 := [.int 1]) rfl ?_
      refine y_cs (cs2 := [((ad 52), .inr (12, [.int 1, .ref (ad 53), .int (nI t.2.2.2.1), .ref (ad 54), .ref (ad 55), .ref (ad 56), .ref (ad 57), .ref (ad 58), .ref (ad 59), .ref (ad 60), .ref (ad 61), .int v_m_cl, .int v_m_wa, .int v_m_co_, .int v_m_fi, .int v_m_bu, .int v_m_ho, .ref (ad 62), .ref (ad 63), .ref (ad 64), .int v_m_lh, .int v_m_mg, .int v_m_wd, .int (t.2.2.2.2 3), .int (t.2.2.2.2 4), .ref (ad 65), .ref (ad 66), .ref (ad 67), .ref (ad 68), .long v_m_po, .long v_m_de]))]) rfl ?_
      refine y_if_ne (tgt := 77) d_Mm_pour_17 (by decide) (fun c_17 => ?_) (fun c_17 => ?_)
      · refine y_iconst d_Mm_pour_77 (v := 0) (by decide) ?_
        refine y_iret d_Mm_pour_78 rfl rfl ?_
        exact fun w1 h1 => ⟨⟨_, rfl⟩, ⟨_, (hI.gen (t2 := t) (is := [52]) (L2 := []) h1 rfl ⟨kd_52.mpr ⟨_, _, _, _, _, _, _, _, _, _, _, _, rfl⟩, trivial⟩ (by decide) (by decide) (fun _ h => nomatch h) (fun _ h => nomatch h) (fun _ _ _ _ h => h) (fun h => h))⟩⟩
      · exact absurd c_17 (by decide)
theorem d_Mm_pour_20 : decode prog_14_method_77_code 20 = .ok (.aload_n 0, 1) := by decide +kernel
theorem d_Mm_pour_21 : decode prog_14_method_77_code 21 = .ok (.aload_n 0, 1) := by decide +kernel
theorem d_Mm_pour_22 : decode prog_14_method_77_code 22 = .ok (.getfield 62, 3) := by decide +kernel
theorem d_Mm_pour_25 : decode prog_14_method_77_code 25 = .ok (.iconst 1, 1) := by decide +kernel
theorem d_Mm_pour_26 : decode prog_14_method_77_code 26 = .ok (.iaload, 1) := by decide +kernel
theorem d_Mm_pour_27 : decode prog_14_method_77_code 27 = .ok (.ifCond .eq 13, 3) := by decide +kernel
theorem d_Mm_pour_40 : decode prog_14_method_77_code 40 = .ok (.iconst 1, 1) := by decide +kernel
theorem d_Mm_pour_41 : decode prog_14_method_77_code 41 = .ok (.goto 4, 3) := by decide +kernel
theorem d_Mm_pour_45 : decode prog_14_method_77_code 45 = .ok (.iconst 2, 1) := by decide +kernel
theorem d_Mm_pour_46 : decode prog_14_method_77_code 46 = .ok (.invokevirtual 103, 3) := by decide +kernel
theorem d_Mm_pour_49 : decode prog_14_method_77_code 49 = .ok (.ifCond .ne 28, 3) := by decide +kernel
theorem d_Mm_pour_30 : decode prog_14_method_77_code 30 = .ok (.aload_n 0, 1) := by decide +kernel
theorem d_Mm_pour_31 : decode prog_14_method_77_code 31 = .ok (.getfield 257, 3) := by decide +kernel
theorem d_Mm_pour_34 : decode prog_14_method_77_code 34 = .ok (.sipush 1250, 3) := by decide +kernel
theorem d_Mm_pour_37 : decode prog_14_method_77_code 37 = .ok (.if_icmp .ge 7, 3) := by decide +kernel
theorem d_Mm_pour_44 : decode prog_14_method_77_code 44 = .ok (.iconst 0, 1) := by decide +kernel
theorem d_Mm_pour_52 : decode prog_14_method_77_code 52 = .ok (.aload_n 0, 1) := by decide +kernel
theorem d_Mm_pour_53 : decode prog_14_method_77_code 53 = .ok (.aload_n 0, 1) := by decide +kernel
theorem d_Mm_pour_54 : decode prog_14_method_77_code 54 = .ok (.getfield 78, 3) := by decide +kernel
theorem d_Mm_pour_57 : decode prog_14_method_77_code 57 = .ok (.invokevirtual 208, 3) := by decide +kernel
theorem ok_Mm_pour_AL_size : z_ok M_Mm_pour M_AL_size 0 := ⟨z_mem (i := 469) (by decide +kernel) (by decide +kernel), rfl, ⟨by decide +kernel, by decide +kernel, by decide +kernel⟩, ⟨by decide, by decide⟩, z_mem (i := 70) (by decide +kernel) (by decide +kernel), rfl⟩
theorem d_Mm_pour_60 : decode prog_14_method_77_code 60 = .ok (.bipush 30, 2) := by decide +kernel
theorem d_Mm_pour_62 : decode prog_14_method_77_code 62 = .ok (.if_icmp .ne 7, 3) := by decide +kernel
theorem d_Mm_pour_69 : decode prog_14_method_77_code 69 = .ok (.iconst 0, 1) := by decide +kernel
theorem d_Mm_pour_70 : decode prog_14_method_77_code 70 = .ok (.iconst 3, 1) := by decide +kernel
theorem d_Mm_pour_71 : decode prog_14_method_77_code 71 = .ok (.invokevirtual 103, 3) := by decide +kernel
theorem d_Mm_pour_74 : decode prog_14_method_77_code 74 = .ok (.ifCond .eq 5, 3) := by decide +kernel
theorem d_Mm_pour_79 : decode prog_14_method_77_code 79 = .ok (.aload_n 0, 1) := by decide +kernel
theorem d_Mm_pour_80 : decode prog_14_method_77_code 80 = .ok (.getfield 72, 3) := by decide +kernel
theorem d_Mm_pour_83 : decode prog_14_method_77_code 83 = .ok (.iconst 0, 1) := by decide +kernel
theorem d_Mm_pour_84 : decode prog_14_method_77_code 84 = .ok (.invokevirtual 229, 3) := by decide +kernel
theorem ok_Mm_pour_AL_remove : z_ok M_Mm_pour M_AL_remove 1 := ⟨z_mem (i := 1379) (by decide +kernel) (by decide +kernel), rfl, ⟨by decide +kernel, by decide +kernel, by decide +kernel⟩, ⟨by decide, by decide⟩, z_mem (i := 70) (by decide +kernel) (by decide +kernel), rfl⟩
theorem d_Mm_pour_87 : decode prog_14_method_77_code 87 = .ok (.checkcast 292, 3) := by decide +kernel
theorem lk_Mm_292 : Cond.classLink "IronpourModel" 292 (z_an 1) ∈ z_gw := z_mem (i := 1978) (by decide +kernel) (by decide +kernel)
theorem d_Mm_pour_90 : decode prog_14_method_77_code 90 = .ok (.astore_n 1, 1) := by decide +kernel
theorem d_Mm_pour_91 : decode prog_14_method_77_code 91 = .ok (.aload_n 0, 1) := by decide +kernel
theorem d_Mm_pour_92 : decode prog_14_method_77_code 92 = .ok (.getfield 75, 3) := by decide +kernel
theorem d_Mm_pour_95 : decode prog_14_method_77_code 95 = .ok (.iconst 0, 1) := by decide +kernel
theorem d_Mm_pour_96 : decode prog_14_method_77_code 96 = .ok (.invokevirtual 229, 3) := by decide +kernel
theorem d_Mm_pour_99 : decode prog_14_method_77_code 99 = .ok (.checkcast 215, 3) := by decide +kernel
theorem d_Mm_pour_102 : decode prog_14_method_77_code 102 = .ok (.astore_n 2, 1) := by decide +kernel
theorem d_Mm_pour_103 : decode prog_14_method_77_code 103 = .ok (.iconst 2, 1) := by decide +kernel
theorem d_Mm_pour_104 : decode prog_14_method_77_code 104 = .ok (.aload_n 1, 1) := by decide +kernel
theorem d_Mm_pour_105 : decode prog_14_method_77_code 105 = .ok (.invokestatic 134, 3) := by decide +kernel
theorem ok_Mm_pour_Mm_cellsIn : z_ok M_Mm_pour M_Mm_cellsIn 1 := ⟨z_mem (i := 1744) (by decide +kernel) (by decide +kernel), rfl, ⟨by decide +kernel, by decide +kernel, by decide +kernel⟩, ⟨by decide, by decide⟩, z_mem (i := 71) (by decide +kernel) (by decide +kernel), rfl⟩
theorem d_Mm_pour_108 : decode prog_14_method_77_code 108 = .ok (.imul, 1) := by decide +kernel
theorem d_Mm_pour_109 : decode prog_14_method_77_code 109 = .ok (.istore_n 3, 1) := by decide +kernel
theorem d_Mm_pour_110 : decode prog_14_method_77_code 110 = .ok (.iload_n 3, 1) := by decide +kernel
theorem d_Mm_pour_111 : decode prog_14_method_77_code 111 = .ok (.aload_n 0, 1) := by decide +kernel
theorem d_Mm_pour_112 : decode prog_14_method_77_code 112 = .ok (.getfield 62, 3) := by decide +kernel
theorem d_Mm_pour_115 : decode prog_14_method_77_code 115 = .ok (.iconst 1, 1) := by decide +kernel
theorem d_Mm_pour_116 : decode prog_14_method_77_code 116 = .ok (.iaload, 1) := by decide +kernel
theorem d_Mm_pour_117 : decode prog_14_method_77_code 117 = .ok (.invokestatic 182, 3) := by decide +kernel
theorem d_Mm_pour_120 : decode prog_14_method_77_code 120 = .ok (.istore 4, 2) := by decide +kernel
theorem d_Mm_pour_122 : decode prog_14_method_77_code 122 = .ok (.bipush 6, 2) := by decide +kernel
theorem d_Mm_pour_124 : decode prog_14_method_77_code 124 = .ok (.newarray .int, 2) := by decide +kernel
theorem d_Mm_pour_126 : decode prog_14_method_77_code 126 = .ok (.astore 5, 2) := by decide +kernel
theorem d_Mm_pour_128 : decode prog_14_method_77_code 128 = .ok (.iconst 4, 1) := by decide +kernel
theorem d_Mm_pour_129 : decode prog_14_method_77_code 129 = .ok (.newarray .long, 2) := by decide +kernel
theorem d_Mm_pour_131 : decode prog_14_method_77_code 131 = .ok (.astore 6, 2) := by decide +kernel
theorem d_Mm_pour_133 : decode prog_14_method_77_code 133 = .ok (.aload_n 0, 1) := by decide +kernel
theorem d_Mm_pour_134 : decode prog_14_method_77_code 134 = .ok (.getfield 62, 3) := by decide +kernel
theorem d_Mm_pour_137 : decode prog_14_method_77_code 137 = .ok (.iconst 1, 1) := by decide +kernel
theorem d_Mm_pour_138 : decode prog_14_method_77_code 138 = .ok (.iaload, 1) := by decide +kernel
theorem d_Mm_pour_139 : decode prog_14_method_77_code 139 = .ok (.istore 7, 2) := by decide +kernel
theorem d_Mm_pour_141 : decode prog_14_method_77_code 141 = .ok (.iconst 0, 1) := by decide +kernel
theorem d_Mm_pour_142 : decode prog_14_method_77_code 142 = .ok (.istore 8, 2) := by decide +kernel
theorem d_Mm_pour_195 : decode prog_14_method_77_code 195 = .ok (.aload_n 0, 1) := by decide +kernel
theorem d_Mm_pour_196 : decode prog_14_method_77_code 196 = .ok (.getfield 62, 3) := by decide +kernel
theorem d_Mm_pour_199 : decode prog_14_method_77_code 199 = .ok (.iconst 1, 1) := by decide +kernel
theorem d_Mm_pour_200 : decode prog_14_method_77_code 200 = .ok (.dup2, 1) := by decide +kernel
theorem d_Mm_pour_201 : decode prog_14_method_77_code 201 = .ok (.iaload, 1) := by decide +kernel
theorem d_Mm_pour_202 : decode prog_14_method_77_code 202 = .ok (.iload 4, 2) := by decide +kernel
theorem d_Mm_pour_204 : decode prog_14_method_77_code 204 = .ok (.isub, 1) := by decide +kernel
theorem d_Mm_pour_205 : decode prog_14_method_77_code 205 = .ok (.iastore, 1) := by decide +kernel
theorem d_Mm_pour_206 : decode prog_14_method_77_code 206 = .ok (.aload_n 0, 1) := by decide +kernel
theorem d_Mm_pour_207 : decode prog_14_method_77_code 207 = .ok (.dup, 1) := by decide +kernel
theorem d_Mm_pour_208 : decode prog_14_method_77_code 208 = .ok (.getfield 293, 3) := by decide +kernel
theorem d_Mm_pour_211 : decode prog_14_method_77_code 211 = .ok (.iload 4, 2) := by decide +kernel
theorem d_Mm_pour_213 : decode prog_14_method_77_code 213 = .ok (.i2l, 1) := by decide +kernel
theorem d_Mm_pour_214 : decode prog_14_method_77_code 214 = .ok (.ladd, 1) := by decide +kernel
theorem d_Mm_pour_215 : decode prog_14_method_77_code 215 = .ok (.putfield 293, 3) := by decide +kernel
theorem fp_Mm_293 : z_fp "IronpourModel" 293 12 29 false .long := ⟨R_Mm, "IronpourModel", F_Mm, 31, t_Mm, rfl, u_Mm, by decide, t_Mm_ok, n_Mm, rfl, rfl, Or.inl ⟨z_mem (i := 1609) (by decide +kernel) (by decide +kernel), Or.inl rfl, fun h => nomatch h⟩⟩
theorem d_Mm_pour_218 : decode prog_14_method_77_code 218 = .ok (.aload 5, 2) := by decide +kernel
theorem d_Mm_pour_220 : decode prog_14_method_77_code 220 = .ok (.iconst 0, 1) := by decide +kernel
theorem d_Mm_pour_221 : decode prog_14_method_77_code 221 = .ok (.iload 4, 2) := by decide +kernel
theorem d_Mm_pour_223 : decode prog_14_method_77_code 223 = .ok (.iastore, 1) := by decide +kernel
theorem d_Mm_pour_224 : decode prog_14_method_77_code 224 = .ok (.aload 5, 2) := by decide +kernel
theorem d_Mm_pour_226 : decode prog_14_method_77_code 226 = .ok (.iconst 1, 1) := by decide +kernel
theorem d_Mm_pour_227 : decode prog_14_method_77_code 227 = .ok (.aload_n 0, 1) := by decide +kernel
theorem d_Mm_pour_228 : decode prog_14_method_77_code 228 = .ok (.getfield 260, 3) := by decide +kernel
theorem d_Mm_pour_231 : decode prog_14_method_77_code 231 = .ok (.iastore, 1) := by decide +kernel
theorem d_Mm_pour_232 : decode prog_14_method_77_code 232 = .ok (.aload 5, 2) := by decide +kernel
theorem d_Mm_pour_234 : decode prog_14_method_77_code 234 = .ok (.iconst 3, 1) := by decide +kernel
theorem d_Mm_pour_235 : decode prog_14_method_77_code 235 = .ok (.aload_n 0, 1) := by decide +kernel
theorem d_Mm_pour_236 : decode prog_14_method_77_code 236 = .ok (.aload_n 1, 1) := by decide +kernel
theorem d_Mm_pour_237 : decode prog_14_method_77_code 237 = .ok (.aload_n 0, 1) := by decide +kernel
theorem d_Mm_pour_238 : decode prog_14_method_77_code 238 = .ok (.getfield 257, 3) := by decide +kernel
theorem d_Mm_pour_241 : decode prog_14_method_77_code 241 = .ok (.invokevirtual 173, 3) := by decide +kernel
theorem ok_Mm_pour_Mm_shrunkOf : z_ok M_Mm_pour M_Mm_shrunkOf 2 := ⟨z_mem (i := 1813) (by decide +kernel) (by decide +kernel), rfl, ⟨by decide +kernel, by decide +kernel, by decide +kernel⟩, ⟨by decide, by decide⟩, z_mem (i := 71) (by decide +kernel) (by decide +kernel), rfl⟩
theorem d_Mm_pour_244 : decode prog_14_method_77_code 244 = .ok (.iastore, 1) := by decide +kernel
theorem d_Mm_pour_461 : decode prog_14_method_77_code 461 = .ok (.aload 5, 2) := by decide +kernel
theorem d_Mm_pour_463 : decode prog_14_method_77_code 463 = .ok (.iconst 2, 1) := by decide +kernel
theorem d_Mm_pour_464 : decode prog_14_method_77_code 464 = .ok (.iload 11, 2) := by decide +kernel
theorem d_Mm_pour_466 : decode prog_14_method_77_code 466 = .ok (.iastore, 1) := by decide +kernel
theorem d_Mm_pour_467 : decode prog_14_method_77_code 467 = .ok (.aload_n 0, 1) := by decide +kernel
theorem d_Mm_pour_468 : decode prog_14_method_77_code 468 = .ok (.getfield 78, 3) := by decide +kernel
theorem d_Mm_pour_471 : decode prog_14_method_77_code 471 = .ok (.aload 5, 2) := by decide +kernel
theorem d_Mm_pour_473 : decode prog_14_method_77_code 473 = .ok (.invokevirtual 219, 3) := by decide +kernel
theorem ok_Mm_pour_AL_add_0 : z_ok M_Mm_pour M_AL_add_0 1 := ⟨z_mem (i := 1291) (by decide +kernel) (by decide +kernel), rfl, ⟨by decide +kernel, by decide +kernel, by decide +kernel⟩, ⟨by decide, by decide⟩, z_mem (i := 70) (by decide +kernel) (by decide +kernel), rfl⟩
theorem d_Mm_pour_476 : decode prog_14_method_77_code 476 = .ok (.pop, 1) := by decide +kernel
theorem d_Mm_pour_477 : decode prog_14_method_77_code 477 = .ok (.aload_n 0, 1) := by decide +kernel
theorem d_Mm_pour_478 : decode prog_14_method_77_code 478 = .ok (.getfield 81, 3) := by decide +kernel
theorem d_Mm_pour_481 : decode prog_14_method_77_code 481 = .ok (.aload 6, 2) := by decide +kernel
theorem d_Mm_pour_483 : decode prog_14_method_77_code 483 = .ok (.invokevirtual 219, 3) := by decide +kernel
theorem d_Mm_pour_486 : decode prog_14_method_77_code 486 = .ok (.pop, 1) := by decide +kernel
theorem d_Mm_pour_487 : decode prog_14_method_77_code 487 = .ok (.aload_n 0, 1) := by decide +kernel
theorem d_Mm_pour_488 : decode prog_14_method_77_code 488 = .ok (.getfield 78, 3) := by decide +kernel
theorem d_Mm_pour_491 : decode prog_14_method_77_code 491 = .ok (.invokevirtual 208, 3) := by decide +kernel
theorem d_Mm_pour_494 : decode prog_14_method_77_code 494 = .ok (.iconst 1, 1) := by decide +kernel
theorem d_Mm_pour_495 : decode prog_14_method_77_code 495 = .ok (.isub, 1) := by decide +kernel
theorem d_Mm_pour_496 : decode prog_14_method_77_code 496 = .ok (.ireturn, 1) := by decide +kernel
theorem d_Mm_pour_65 : decode prog_14_method_77_code 65 = .ok (.iconst 1, 1) := by decide +kernel
theorem d_Mm_pour_66 : decode prog_14_method_77_code 66 = .ok (.goto 4, 3) := by decide +kernel
set_option maxHeartbeats 4000000 in
set_option maxRecDepth 100000 in
theorem Q_Mm_pourN {g : zG} {ad : Nat → Nat} {t : zTT} {u : zNN} {w : zW} (hI : IV g ad t u w) (h0 : ¬ u.1 3 = 0) : zMB g M_Mm_pour [.ref (ad 52)] w (fun o w1 => (∃ v : Int32, o = .inl (some (.int v))) ∧ ∃ u2, IV g ad t u2 w1) 4 76 := by
  obtain ⟨e_m, wf_m, k_m⟩ := hI.1.2 52 (by decide)
  obtain ⟨v_m_th, v_m_cl, v_m_wa, v_m_co_, v_m_fi, v_m_bu, v_m_ho, v_m_lh, v_m_mg, v_m_wd, v_m_po, v_m_de, rfl⟩ := kd_52.mp k_m
  obtain ⟨e_mi, wf_mi, k_mi⟩ := hI.1.2 63 (by decide)
  obtain ⟨v_mi_f, rfl⟩ := kd_63.mp k_mi
  obtain ⟨e_mr, wf_mr, k_mr⟩ := hI.1.2 64 (by decide)
  obtain ⟨v_mr_f, rfl⟩ := kd_64.mp k_mr
  obtain ⟨e_mf, wf_mf, k_mf⟩ := hI.1.2 54 (by decide)
  obtain ⟨v_mf_f, rfl⟩ := kd_54.mp k_mf
  obtain ⟨e_mh, wf_mh, k_mh⟩ := hI.1.2 55 (by decide)
  obtain ⟨v_mh_f, rfl⟩ := kd_55.mp k_mh
  obtain ⟨e_mn, wf_mn, k_mn⟩ := hI.1.2 56 (by decide)
  obtain ⟨v_mn_f, rfl⟩ := kd_56.mp k_mn
  obtain ⟨e_mt, wf_mt, k_mt⟩ := hI.1.2 57 (by decide)
  obtain ⟨v_mt_f, rfl⟩ := kd_57.mp k_mt
  obtain ⟨e_mz, wf_mz, k_mz⟩ := hI.1.2 58 (by decide)
  obtain ⟨v_mz_f, rfl⟩ := kd_58.mp k_mz
  obtain ⟨e_mc_, wf_mc_, k_mc_⟩ := hI.1.2 59 (by decide)
  obtain ⟨v_mc__f, rfl⟩ := kd_59.mp k_mc_
  obtain ⟨e_mq, wf_mq, k_mq⟩ := hI.1.2 60 (by decide)
  obtain ⟨v_mq_h, rfl⟩ := kd_60.mp k_mq
  obtain ⟨e_mgr, wf_mgr, k_mgr⟩ := hI.1.2 61 (by decide)
  obtain ⟨v_mgr_f, rfl⟩ := kd_61.mp k_mgr
  have hsz0 := hI.sz
  obtain ⟨m9, hm9⟩ : ∃ m9, u.1 3 = m9 + 1 := ⟨u.1 3 - 1, by omega⟩
  have hm4 : u.1 4 = m9 + 1 := by have := hsz0.2.2.2.2.1; omega
  refine y_of (by decide) rfl (Nat.le_of_ble_eq_true rfl) (y_base (cs := [((ad 52), .inr (12, [.int v_m_th, .ref (ad 53), .int (nI t.2.2.2.1), .ref (ad 54), .ref (ad 55), .ref (ad 56), .ref (ad 57), .ref (ad 58), .ref (ad 59), .ref (ad 60), .ref (ad 61), .int v_m_cl, .int v_m_wa, .int v_m_co_, .int v_m_fi, .int v_m_bu, .int v_m_ho, .ref (ad 62), .ref (ad 63), .ref (ad 64), .int v_m_lh, .int v_m_mg, .int v_m_wd, .int (t.2.2.2.2 3), .int (t.2.2.2.2 4), .ref (ad 65), .ref (ad 66), .ref (ad 67), .ref (ad 68), .long v_m_po, .long v_m_de])), ((ad 63), .inl (0, 4, .inl v_mi_f)), ((ad 64), .inl (3, 16, .inr (.inl v_mr_f))), ((ad 54), .inl (0, 108, .inl v_mf_f)), ((ad 55), .inl (0, 108, .inl v_mh_f)), ((ad 56), .inl (0, 108, .inl v_mn_f)), ((ad 57), .inl (0, 108, .inl v_mt_f)), ((ad 58), .inl (0, 108, .inl v_mz_f)), ((ad 59), .inl (2, 108, .inl v_mc__f)), ((ad 60), .inl (0, 108, .inl (fun k => nI (v_mq_h k)))), ((ad 61), .inl (0, 108, .inl v_mgr_f))]) (hI.1.I [52, 63, 64, 54, 55, 56, 57, 58, 59, 60, 61] _ rfl (by decide) (by decide) (List.forall_mem_cons.mpr ⟨wf_m, (List.forall_mem_cons.mpr ⟨wf_mi, (List.forall_mem_cons.mpr ⟨wf_mr, (List.forall_mem_cons.mpr ⟨wf_mf, (List.forall_mem_cons.mpr ⟨wf_mh, (List.forall_mem_cons.mpr ⟨wf_mn, (List.forall_mem_cons.mpr ⟨wf_mt, (List.forall_mem_cons.mpr ⟨wf_mz, (List.forall_mem_cons.mpr ⟨wf_mc_, (List.forall_mem_cons.mpr ⟨wf_mq, (List.forall_mem_cons.mpr ⟨wf_mgr, (fun _ h => nomatch h)⟩)⟩)⟩)⟩)⟩)⟩)⟩)⟩)⟩)⟩)⟩)) ?_)
  refine y_lvE (lv2 := [(0, .ref (ad 52))]) rfl ?_
  refine y_aload_n d_Mm_pour_0 rfl 0 rfl ?_
  refine y_iconst d_Mm_pour_1 (v := 0) (by decide) ?_
  refine y_put fp_Mm_84 d_Mm_pour_2 (fun h => nomatch h) rfl rfl (q0 := 0) rfl (Nat.le_of_ble_eq_true rfl) (cs' := [((ad 52), .inr (12, [.int 0, .ref (ad 53), .int (nI t.2.2.2.1), .ref (ad 54), .ref (ad 55), .ref (ad 56), .ref (ad 57), .ref (ad 58), .ref (ad 59), .ref (ad 60), .ref (ad 61), .int v_m_cl, .int v_m_wa, .int v_m_co_, .int v_m_fi, .int v_m_bu, .int v_m_ho, .ref (ad 62), .ref (ad 63), .ref (ad 64), .int v_m_lh, .int v_m_mg, .int v_m_wd, .int (t.2.2.2.2 3), .int (t.2.2.2.2 4), .ref (ad 65), .ref (ad 66), .ref (ad 67), .ref (ad 68), .long v_m_po, .long v_m_de])), ((ad 63), .inl (0, 4, .inl v_mi_f)), ((ad 64), .inl (3, 16, .inr (.inl v_mr_f))), ((ad 54), .inl (0, 108, .inl v_mf_f)), ((ad 55), .inl (0, 108, .inl v_mh_f)), ((ad 56), .inl (0, 108, .inl v_mn_f)), ((ad 57), .inl (0, 108, .inl v_mt_f)), ((ad 58), .inl (0, 108, .inl v_mz_f)), ((ad 59), .inl (2, 108, .inl v_mc__f)), ((ad 60), .inl (0, 108, .inl (fun k => nI (v_mq_h k)))), ((ad 61), .inl (0, 108, .inl v_mgr_f))]) rfl ?_
  refine y_aload_n d_Mm_pour_5 rfl 0 rfl ?_
  refine y_aload_n d_Mm_pour_6 rfl 0 rfl ?_
  refine y_get fs_Mm_72 d_Mm_pour_7 (q0 := 0) rfl rfl ?_
  refine yw_callVL (As := []) (rest := [.ref (ad 52)]) (ci := 13) rfl (fun wA hA => ((hI.gen (t2 := t) (is := [52, 63, 64, 54, 55, 56, 57, 58, 59, 60, 61]) (L2 := []) hA rfl ⟨kd_52.mpr ⟨_, _, _, _, _, _, _, _, _, _, _, _, rfl⟩, kd_63.mpr ⟨_, rfl⟩, kd_64.mpr ⟨_, rfl⟩, kd_54.mpr ⟨_, rfl⟩, kd_55.mpr ⟨_, rfl⟩, kd_56.mpr ⟨_, rfl⟩, kd_57.mpr ⟨_, rfl⟩, kd_58.mpr ⟨_, rfl⟩, kd_59.mpr ⟨_, rfl⟩, kd_60.mpr ⟨_, rfl⟩, kd_61.mpr ⟨_, rfl⟩, trivial⟩ (by decide) (by decide) (fun _ h => nomatch h) (fun _ h => nomatch h) (fun _ _ _ _ h => h) (fun h => h)).2.1.1 3 (by decide)).ob) ln_Mm_289 w_im_AL_isEmpty w_se_AL_isEmpty ok_Mm_pour_AL_isEmpty d_Mm_pour_10 (fun wA hA => Q_isEmpty ((hI.gen (t2 := t) (is := [52, 63, 64, 54, 55, 56, 57, 58, 59, 60, 61]) (L2 := []) hA rfl ⟨kd_52.mpr ⟨_, _, _, _, _, _, _, _, _, _, _, _, rfl⟩, kd_63.mpr ⟨_, rfl⟩, kd_64.mpr ⟨_, rfl⟩, kd_54.mpr ⟨_, rfl⟩, kd_55.mpr ⟨_, rfl⟩, kd_56.mpr ⟨_, rfl⟩, kd_57.mpr ⟨_, rfl⟩, kd_58.mpr ⟨_, rfl⟩, kd_59.mpr ⟨_, rfl⟩, kd_60.mpr ⟨_, rfl⟩, kd_61.mpr ⟨_, rfl⟩, trivial⟩ (by decide) (by decide) (fun _ h => nomatch h) (fun _ h => nomatch h) (fun _ _ _ _ h => h) (fun h => h)).2.1.1 3 (by decide))) rfl rfl (Nat.le_of_ble_eq_true rfl) (by omega) (by omega) (fun wA10 hA10 E wB10 hx => ?_) (fun wA10 hA10 v wB10 hx => ?_)
  · exact absurd hx.1 (by simp)
  · obtain ⟨e1, e2⟩ := hx
    rw [if_neg h0] at e1
    cases e1
    refine yw_st (st2 := [.int 0, .ref (ad 52)]) rfl ?_
    subst e2
    refine y_go hA10 ?_
    refine y_iconst d_Mm_pour_13 (v := 1) (by decide) ?_
    refine y_callV (As := [.int 0, .int 1]) (rest := []) (csC := [((ad 52), .inr (12, [.int 0, .ref (ad 53), .int (nI t.2.2.2.1), .ref (ad 54), .ref (ad 55), .ref (ad 56), .ref (ad 57), .ref (ad 58), .ref (ad 59), .ref (ad 60), .ref (ad 61), .int v_m_cl, .int v_m_wa, .int v_m_co_, .int v_m_fi, .int v_m_bu, .int v_m_ho, .ref (ad 62), .ref (ad 63), .ref (ad 64), .int v_m_lh, .int v_m_mg, .int v_m_wd, .int (t.2.2.2.2 3), .int (t.2.2.2.2 4), .ref (ad 65), .ref (ad 66), .ref (ad 67), .ref (ad 68), .long v_m_po, .long v_m_de]))]) (is := [0]) (q0 := 0) rfl rfl ln_Mm_103 w_im_Mm_fails w_se_Mm_fails ok_Mm_pour_Mm_fails d_Mm_pour_14 (C_Mm_fails0 g (ad 52) (ad 53) (ad 54) (ad 55) (ad 56) (ad 57) (ad 58) (ad 59) (ad 60) (ad 61) (ad 62) (ad 63) (ad 64) (ad 65) (ad 66) (ad 67) (ad 68) 0 (nI t.2.2.2.1) v_m_cl v_m_wa v_m_co_ v_m_fi v_m_bu v_m_ho v_m_lh v_m_mg v_m_wd (t.2.2.2.2 3) (t.2.2.2.2 4) v_m_po v_m_de 1) rfl rfl (Nat.le_of_ble_eq_true rfl) rfl (by decide) (by omega) (by omega) (fun E cs1 hx => ?_) (fun v cs1 hx => ?_)
    · exact absurd hx.1 (by simp)
    · obtain ⟨e1, rfl⟩ := hx
      cases e1
      refine ⟨rfl, ?_⟩
      refine y_st (st2 := [.int 0]) rfl ?_
      refine y_cs (cs2 := [((ad 52), .inr (12, [.int 0, .ref (ad 53), .int (nI t.2.2.2.1), .ref (ad 54), .ref (ad 55), .ref (ad 56), .ref (ad 57), .ref (ad 58), .ref (ad 59), .ref (ad 60), .ref (ad 61), .int v_m_cl, .int v_m_wa, .int v_m_co_, .int v_m_fi, .int v_m_bu, .int v_m_ho, .ref (ad 62), .ref (ad 63), .ref (ad 64), .int v_m_lh, .int v_m_mg, .int v_m_wd, .int (t.2.2.2.2 3), .int (t.2.2.2.2 4), .ref (ad 65), .ref (ad 66), .ref (ad 67), .ref (ad 68), .long v_m_po, .long v_m_de])), ((ad 63), .inl (0, 4, .inl v_mi_f)), ((ad 64), .inl (3, 16, .inr (.inl v_mr_f))), ((ad 54), .inl (0, 108, .inl v_mf_f)), ((ad 55), .inl (0, 108, .inl v_mh_f)), ((ad 56), .inl (0, 108, .inl v_mn_f)), ((ad 57), .inl (0, 108, .inl v_mt_f)), ((ad 58), .inl (0, 108, .inl v_mz_f)), ((ad 59), .inl (2, 108, .inl v_mc__f)), ((ad 60), .inl (0, 108, .inl (fun k => nI (v_mq_h k)))), ((ad 61), .inl (0, 108, .inl v_mgr_f))]) rfl ?_
      refine y_if_ne (tgt := 77) d_Mm_pour_17 (by decide) (fun c_17 => ?_) (fun c_17 => ?_)
      · exact absurd c_17 (by decide)
      · refine y_aload_n d_Mm_pour_20 rfl 0 rfl ?_
        refine y_aload_n d_Mm_pour_21 rfl 0 rfl ?_
        refine y_get fs_Mm_62 d_Mm_pour_22 (q0 := 0) rfl rfl ?_
        refine y_iconst d_Mm_pour_25 (v := 1) (by decide) ?_
        refine y_iald d_Mm_pour_26 (q0 := 1) rfl (fun q => q.elim (by decide) (by decide)) (v := v_mi_f 1) rfl ?_
        refine y_if_eq (tgt := 40) d_Mm_pour_27 (by decide) (fun c_27 => ?_) (fun c_27 => ?_)
        · refine y_iconst d_Mm_pour_40 (v := 1) (by decide) ?_
          refine y_goto (tgt := 45) d_Mm_pour_41 (by decide) ?_
          refine y_iconst d_Mm_pour_45 (v := 2) (by decide) ?_
          refine y_callV (As := [.int 1, .int 2]) (rest := []) (csC := [((ad 52), .inr (12, [.int 0, .ref (ad 53), .int (nI t.2.2.2.1), .ref (ad 54), .ref (ad 55), .ref (ad 56), .ref (ad 57), .ref (ad 58), .ref (ad 59), .ref (ad 60), .ref (ad 61), .int v_m_cl, .int v_m_wa, .int v_m_co_, .int v_m_fi, .int v_m_bu, .int v_m_ho, .ref (ad 62), .ref (ad 63), .ref (ad 64), .int v_m_lh, .int v_m_mg, .int v_m_wd, .int (t.2.2.2.2 3), .int (t.2.2.2.2 4), .ref (ad 65), .ref (ad 66), .ref (ad 67), .ref (ad 68), .long v_m_po, .long v_m_de]))]) (is := [0]) (q0 := 0) rfl rfl ln_Mm_103 w_im_Mm_fails w_se_Mm_fails ok_Mm_pour_Mm_fails d_Mm_pour_46 (C_Mm_fails2 g (ad 52) (ad 53) (ad 54) (ad 55) (ad 56) (ad 57) (ad 58) (ad 59) (ad 60) (ad 61) (ad 62) (ad 63) (ad 64) (ad 65) (ad 66) (ad 67) (ad 68) 0 (nI t.2.2.2.1) v_m_cl v_m_wa v_m_co_ v_m_fi v_m_bu v_m_ho v_m_lh v_m_mg v_m_wd (t.2.2.2.2 3) (t.2.2.2.2 4) v_m_po v_m_de) rfl rfl (Nat.le_of_ble_eq_true rfl) rfl (by decide) (by omega) (by omega) (fun E cs1 hx => ?_) (fun v cs1 hx => ?_)
          · exact absurd hx.1 (by simp)
          · obtain ⟨e1, rfl⟩ := hx
            cases e1
            refine ⟨rfl, ?_⟩
            refine y_st (st2 := [.int 1]) rfl ?_
            refine y_cs (cs2 := [((ad 52), .inr (12, [.int 2, .ref (ad 53), .int (nI t.2.2.2.1), .ref (ad 54), .ref (ad 55), .ref (ad 56), .ref (ad 57), .ref (ad 58), .ref (ad 59), .ref (ad 60), .ref (ad 61), .int v_m_cl, .int v_m_wa, .int v_m_co_, .int v_m_fi, .int v_m_bu, .int v_m_ho, .ref (ad 62), .ref (ad 63), .ref (ad 64), .int v_m_lh, .int v_m_mg, .int v_m_wd, .int (t.2.2.2.2 3), .int (t.2.2.2.2 4), .ref (ad 65), .ref (ad 66), .ref (ad 67), .ref (ad 68), .long v_m_po, .long v_m_de])), ((ad 63), .inl (0, 4, .inl v_mi_f)), ((ad 64), .inl (3, 16, .inr (.inl v_mr_f))), ((ad 54), .inl (0, 108, .inl v_mf_f)), ((ad 55), .inl (0, 108, .inl v_mh_f)), ((ad 56), .inl (0, 108, .inl v_mn_f)), ((ad 57), .inl (0, 108, .inl v_mt_f)), ((ad 58), .inl (0, 108, .inl v_mz_f)), ((ad 59), .inl (2, 108, .inl v_mc__f)), ((ad 60), .inl (0, 108, .inl (fun k => nI (v_mq_h k)))), ((ad 61), .inl (0, 108, .inl v_mgr_f))]) rfl ?_
            refine y_if_ne (tgt := 77) d_Mm_pour_49 (by decide) (fun c_49 => ?_) (fun c_49 => ?_)
            · refine y_iconst d_Mm_pour_77 (v := 0) (by decide) ?_
              refine y_iret d_Mm_pour_78 rfl rfl ?_
              exact fun w1 h1 => ⟨⟨_, rfl⟩, ⟨_, (hI.gen (t2 := t) (is := [52, 63, 64, 54, 55, 56, 57, 58, 59, 60, 61]) (L2 := []) h1 rfl ⟨kd_52.mpr ⟨_, _, _, _, _, _, _, _, _, _, _, _, rfl⟩, kd_63.mpr ⟨_, rfl⟩, kd_64.mpr ⟨_, rfl⟩, kd_54.mpr ⟨_, rfl⟩, kd_55.mpr ⟨_, rfl⟩, kd_56.mpr ⟨_, rfl⟩, kd_57.mpr ⟨_, rfl⟩, kd_58.mpr ⟨_, rfl⟩, kd_59.mpr ⟨_, rfl⟩, kd_60.mpr ⟨_, rfl⟩, kd_61.mpr ⟨_, rfl⟩, trivial⟩ (by decide) (by decide) (fun _ h => nomatch h) (fun _ h => nomatch h) (fun _ _ _ _ h => h) (fun h => h))⟩⟩
            · exact absurd c_49 (by decide)
        · refine y_aload_n d_Mm_pour_30 rfl 0 rfl ?_
          refine y_get fs_Mm_257 d_Mm_pour_31 (q0 := 0) rfl rfl ?_
          refine y_sipush d_Mm_pour_34 (v := 1250) (by decide) ?_
          refine y_icmp_ge (tgt := 44) d_Mm_pour_37 (by decide) (fun c_37 => ?_) (fun c_37 => ?_)
          · refine y_iconst d_Mm_pour_44 (v := 0) (by decide) ?_
            refine y_iconst d_Mm_pour_45 (v := 2) (by decide) ?_
            refine y_callV (As := [.int 0, .int 2]) (rest := []) (csC := [((ad 52), .inr (12, [.int 0, .ref (ad 53), .int (nI t.2.2.2.1), .ref (ad 54), .ref (ad 55), .ref (ad 56), .ref (ad 57), .ref (ad 58), .ref (ad 59), .ref (ad 60), .ref (ad 61), .int v_m_cl, .int v_m_wa, .int v_m_co_, .int v_m_fi, .int v_m_bu, .int v_m_ho, .ref (ad 62), .ref (ad 63), .ref (ad 64), .int v_m_lh, .int v_m_mg, .int v_m_wd, .int (t.2.2.2.2 3), .int (t.2.2.2.2 4), .ref (ad 65), .ref (ad 66), .ref (ad 67), .ref (ad 68), .long v_m_po, .long v_m_de]))]) (is := [0]) (q0 := 0) rfl rfl ln_Mm_103 w_im_Mm_fails w_se_Mm_fails ok_Mm_pour_Mm_fails d_Mm_pour_46 (C_Mm_fails0 g (ad 52) (ad 53) (ad 54) (ad 55) (ad 56) (ad 57) (ad 58) (ad 59) (ad 60) (ad 61) (ad 62) (ad 63) (ad 64) (ad 65) (ad 66) (ad 67) (ad 68) 0 (nI t.2.2.2.1) v_m_cl v_m_wa v_m_co_ v_m_fi v_m_bu v_m_ho v_m_lh v_m_mg v_m_wd (t.2.2.2.2 3) (t.2.2.2.2 4) v_m_po v_m_de 2) rfl rfl (Nat.le_of_ble_eq_true rfl) rfl (by decide) (by omega) (by omega) (fun E cs1 hx => ?_) (fun v cs1 hx => ?_)
            · exact absurd hx.1 (by simp)
            · obtain ⟨e1, rfl⟩ := hx
              cases e1
              refine ⟨rfl, ?_⟩
              refine y_st (st2 := [.int 0]) rfl ?_
              refine y_cs (cs2 := [((ad 52), .inr (12, [.int 0, .ref (ad 53), .int (nI t.2.2.2.1), .ref (ad 54), .ref (ad 55), .ref (ad 56), .ref (ad 57), .ref (ad 58), .ref (ad 59), .ref (ad 60), .ref (ad 61), .int v_m_cl, .int v_m_wa, .int v_m_co_, .int v_m_fi, .int v_m_bu, .int v_m_ho, .ref (ad 62), .ref (ad 63), .ref (ad 64), .int v_m_lh, .int v_m_mg, .int v_m_wd, .int (t.2.2.2.2 3), .int (t.2.2.2.2 4), .ref (ad 65), .ref (ad 66), .ref (ad 67), .ref (ad 68), .long v_m_po, .long v_m_de])), ((ad 63), .inl (0, 4, .inl v_mi_f)), ((ad 64), .inl (3, 16, .inr (.inl v_mr_f))), ((ad 54), .inl (0, 108, .inl v_mf_f)), ((ad 55), .inl (0, 108, .inl v_mh_f)), ((ad 56), .inl (0, 108, .inl v_mn_f)), ((ad 57), .inl (0, 108, .inl v_mt_f)), ((ad 58), .inl (0, 108, .inl v_mz_f)), ((ad 59), .inl (2, 108, .inl v_mc__f)), ((ad 60), .inl (0, 108, .inl (fun k => nI (v_mq_h k)))), ((ad 61), .inl (0, 108, .inl v_mgr_f))]) rfl ?_
              refine y_if_ne (tgt := 77) d_Mm_pour_49 (by decide) (fun c_49 => ?_) (fun c_49 => ?_)
              · exact absurd c_49 (by decide)
              · refine y_aload_n d_Mm_pour_52 rfl 0 rfl ?_
                refine y_aload_n d_Mm_pour_53 rfl 0 rfl ?_
                refine y_get fs_Mm_78 d_Mm_pour_54 (q0 := 0) rfl rfl ?_
                refine yw_callVL (As := []) (rest := [.ref (ad 52)]) (ci := 13) rfl (fun wA hA => ((hI.gen (t2 := t) (is := [52, 63, 64, 54, 55, 56, 57, 58, 59, 60, 61]) (L2 := []) hA rfl ⟨kd_52.mpr ⟨_, _, _, _, _, _, _, _, _, _, _, _, rfl⟩, kd_63.mpr ⟨_, rfl⟩, kd_64.mpr ⟨_, rfl⟩, kd_54.mpr ⟨_, rfl⟩, kd_55.mpr ⟨_, rfl⟩, kd_56.mpr ⟨_, rfl⟩, kd_57.mpr ⟨_, rfl⟩, kd_58.mpr ⟨_, rfl⟩, kd_59.mpr ⟨_, rfl⟩, kd_60.mpr ⟨_, rfl⟩, kd_61.mpr ⟨_, rfl⟩, trivial⟩ (by decide) (by decide) (fun _ h => nomatch h) (fun _ h => nomatch h) (fun _ _ _ _ h => h) (fun h => h)).2.1.1 5 (by decide)).ob) ln_Mm_208 w_im_AL_size w_se_AL_size ok_Mm_pour_AL_size d_Mm_pour_57 (fun wA hA => Q_size ((hI.gen (t2 := t) (is := [52, 63, 64, 54, 55, 56, 57, 58, 59, 60, 61]) (L2 := []) hA rfl ⟨kd_52.mpr ⟨_, _, _, _, _, _, _, _, _, _, _, _, rfl⟩, kd_63.mpr ⟨_, rfl⟩, kd_64.mpr ⟨_, rfl⟩, kd_54.mpr ⟨_, rfl⟩, kd_55.mpr ⟨_, rfl⟩, kd_56.mpr ⟨_, rfl⟩, kd_57.mpr ⟨_, rfl⟩, kd_58.mpr ⟨_, rfl⟩, kd_59.mpr ⟨_, rfl⟩, kd_60.mpr ⟨_, rfl⟩, kd_61.mpr ⟨_, rfl⟩, trivial⟩ (by decide) (by decide) (fun _ h => nomatch h) (fun _ h => nomatch h) (fun _ _ _ _ h => h) (fun h => h)).2.1.1 5 (by decide))) rfl rfl (Nat.le_of_ble_eq_true rfl) (by omega) (by omega) (fun wA57 hA57 E wB57 hx => ?_) (fun wA57 hA57 v wB57 hx => ?_)
                · exact absurd hx.1 (by simp)
                · obtain ⟨e1, e2⟩ := hx
                  cases e1
                  refine yw_st (st2 := [.int (nI (u.1 5)), .ref (ad 52)]) rfl ?_
                  subst e2
                  refine y_go hA57 ?_
                  refine y_bipush d_Mm_pour_60 (v := 30) (by decide) ?_
                  refine y_icmp_ne (tgt := 69) d_Mm_pour_62 (by decide) (fun c_62 => ?_) (fun c_62 => ?_)
                  · refine y_iconst d_Mm_pour_69 (v := 0) (by decide) ?_
                    refine y_iconst d_Mm_pour_70 (v := 3) (by decide) ?_
                    refine y_callV (As := [.int 0, .int 3]) (rest := []) (csC := [((ad 52), .inr (12, [.int 0, .ref (ad 53), .int (nI t.2.2.2.1), .ref (ad 54), .ref (ad 55), .ref (ad 56), .ref (ad 57), .ref (ad 58), .ref (ad 59), .ref (ad 60), .ref (ad 61), .int v_m_cl, .int v_m_wa, .int v_m_co_, .int v_m_fi, .int v_m_bu, .int v_m_ho, .ref (ad 62), .ref (ad 63), .ref (ad 64), .int v_m_lh, .int v_m_mg, .int v_m_wd, .int (t.2.2.2.2 3), .int (t.2.2.2.2 4), .ref (ad 65), .ref (ad 66), .ref (ad 67), .ref (ad 68), .long v_m_po, .long v_m_de]))]) (is := [0]) (q0 := 0) rfl rfl ln_Mm_103 w_im_Mm_fails w_se_Mm_fails ok_Mm_pour_Mm_fails d_Mm_pour_71 (C_Mm_fails0 g (ad 52) (ad 53) (ad 54) (ad 55) (ad 56) (ad 57) (ad 58) (ad 59) (ad 60) (ad 61) (ad 62) (ad 63) (ad 64) (ad 65) (ad 66) (ad 67) (ad 68) 0 (nI t.2.2.2.1) v_m_cl v_m_wa v_m_co_ v_m_fi v_m_bu v_m_ho v_m_lh v_m_mg v_m_wd (t.2.2.2.2 3) (t.2.2.2.2 4) v_m_po v_m_de 3) rfl rfl (Nat.le_of_ble_eq_true rfl) rfl (by decide) (by omega) (by omega) (fun E cs1 hx => ?_) (fun v cs1 hx => ?_)
                    · exact absurd hx.1 (by simp)
                    · obtain ⟨e1, rfl⟩ := hx
                      cases e1
                      refine ⟨rfl, ?_⟩
                      refine y_st (st2 := [.int 0]) rfl ?_
                      refine y_cs (cs2 := [((ad 52), .inr (12, [.int 0, .ref (ad 53), .int (nI t.2.2.2.1), .ref (ad 54), .ref (ad 55), .ref (ad 56), .ref (ad 57), .ref (ad 58), .ref (ad 59), .ref (ad 60), .ref (ad 61), .int v_m_cl, .int v_m_wa, .int v_m_co_, .int v_m_fi, .int v_m_bu, .int v_m_ho, .ref (ad 62), .ref (ad 63), .ref (ad 64), .int v_m_lh, .int v_m_mg, .int v_m_wd, .int (t.2.2.2.2 3), .int (t.2.2.2.2 4), .ref (ad 65), .ref (ad 66), .ref (ad 67), .ref (ad 68), .long v_m_po, .long v_m_de])), ((ad 63), .inl (0, 4, .inl v_mi_f)), ((ad 64), .inl (3, 16, .inr (.inl v_mr_f))), ((ad 54), .inl (0, 108, .inl v_mf_f)), ((ad 55), .inl (0, 108, .inl v_mh_f)), ((ad 56), .inl (0, 108, .inl v_mn_f)), ((ad 57), .inl (0, 108, .inl v_mt_f)), ((ad 58), .inl (0, 108, .inl v_mz_f)), ((ad 59), .inl (2, 108, .inl v_mc__f)), ((ad 60), .inl (0, 108, .inl (fun k => nI (v_mq_h k)))), ((ad 61), .inl (0, 108, .inl v_mgr_f))]) rfl ?_
                      refine y_if_eq (tgt := 79) d_Mm_pour_74 (by decide) (fun c_74 => ?_) (fun c_74 => ?_)
                      · refine y_aload_n d_Mm_pour_79 rfl 0 rfl ?_
                        refine y_get fs_Mm_72 d_Mm_pour_80 (q0 := 0) rfl rfl ?_
                        refine y_iconst d_Mm_pour_83 (v := 0) (by decide) ?_
                        refine yw_callVL (As := [.int 0]) (rest := []) (ci := 13) rfl (fun wA hA => ((hI.gen (t2 := t) (is := [52, 63, 64, 54, 55, 56, 57, 58, 59, 60, 61]) (L2 := []) hA rfl ⟨kd_52.mpr ⟨_, _, _, _, _, _, _, _, _, _, _, _, rfl⟩, kd_63.mpr ⟨_, rfl⟩, kd_64.mpr ⟨_, rfl⟩, kd_54.mpr ⟨_, rfl⟩, kd_55.mpr ⟨_, rfl⟩, kd_56.mpr ⟨_, rfl⟩, kd_57.mpr ⟨_, rfl⟩, kd_58.mpr ⟨_, rfl⟩, kd_59.mpr ⟨_, rfl⟩, kd_60.mpr ⟨_, rfl⟩, kd_61.mpr ⟨_, rfl⟩, trivial⟩ (by decide) (by decide) (fun _ h => nomatch h) (fun _ h => nomatch h) (fun _ _ _ _ h => h) (fun h => h)).2.1.1 3 (by decide)).ob) ln_Mm_229 w_im_AL_remove w_se_AL_remove ok_Mm_pour_AL_remove d_Mm_pour_84 (fun wA hA => Q_rem (i := 0) (m := m9) ((hI.gen (t2 := t) (is := [52, 63, 64, 54, 55, 56, 57, 58, 59, 60, 61]) (L2 := []) hA rfl ⟨kd_52.mpr ⟨_, _, _, _, _, _, _, _, _, _, _, _, rfl⟩, kd_63.mpr ⟨_, rfl⟩, kd_64.mpr ⟨_, rfl⟩, kd_54.mpr ⟨_, rfl⟩, kd_55.mpr ⟨_, rfl⟩, kd_56.mpr ⟨_, rfl⟩, kd_57.mpr ⟨_, rfl⟩, kd_58.mpr ⟨_, rfl⟩, kd_59.mpr ⟨_, rfl⟩, kd_60.mpr ⟨_, rfl⟩, kd_61.mpr ⟨_, rfl⟩, trivial⟩ (by decide) (by decide) (fun _ h => nomatch h) (fun _ h => nomatch h) (fun _ _ _ _ h => h) (fun h => h)).2.1.1 3 (by decide)) hm9 (fun k hk => ((hI.gen (t2 := t) (is := [52, 63, 64, 54, 55, 56, 57, 58, 59, 60, 61]) (L2 := []) hA rfl ⟨kd_52.mpr ⟨_, _, _, _, _, _, _, _, _, _, _, _, rfl⟩, kd_63.mpr ⟨_, rfl⟩, kd_64.mpr ⟨_, rfl⟩, kd_54.mpr ⟨_, rfl⟩, kd_55.mpr ⟨_, rfl⟩, kd_56.mpr ⟨_, rfl⟩, kd_57.mpr ⟨_, rfl⟩, kd_58.mpr ⟨_, rfl⟩, kd_59.mpr ⟨_, rfl⟩, kd_60.mpr ⟨_, rfl⟩, kd_61.mpr ⟨_, rfl⟩, trivial⟩ (by decide) (by decide) (fun _ h => nomatch h) (fun _ h => nomatch h) (fun _ _ _ _ h => h) (fun h => h)).2.1.2.1 3 (by decide) k (show k < u.1 3 by omega)).elt3) (Nat.zero_le _)) rfl rfl (Nat.le_of_ble_eq_true rfl) (by omega) (by omega) (fun wA84 hA84 E wB84 hx => ?_) (fun wA84 hA84 v wB84 hx => ?_)
                        · exact absurd hx.1 (by simp)
                        · obtain ⟨e1, e2, e3⟩ := hx
                          cases e1
                          refine yw_st (st2 := [.ref (u.2.2 3 0)]) rfl ?_
                          have hsz := (hI.gen (t2 := t) (is := [52, 63, 64, 54, 55, 56, 57, 58, 59, 60, 61]) (L2 := []) hA84 rfl ⟨kd_52.mpr ⟨_, _, _, _, _, _, _, _, _, _, _, _, rfl⟩, kd_63.mpr ⟨_, rfl⟩, kd_64.mpr ⟨_, rfl⟩, kd_54.mpr ⟨_, rfl⟩, kd_55.mpr ⟨_, rfl⟩, kd_56.mpr ⟨_, rfl⟩, kd_57.mpr ⟨_, rfl⟩, kd_58.mpr ⟨_, rfl⟩, kd_59.mpr ⟨_, rfl⟩, kd_60.mpr ⟨_, rfl⟩, kd_61.mpr ⟨_, rfl⟩, trivial⟩ (by decide) (by decide) (fun _ h => nomatch h) (fun _ h => nomatch h) (fun _ _ _ _ h => h) (fun h => h)).sz
                          have hI8 := (hI.gen (t2 := t) (is := [52, 63, 64, 54, 55, 56, 57, 58, 59, 60, 61]) (L2 := []) hA84 rfl ⟨kd_52.mpr ⟨_, _, _, _, _, _, _, _, _, _, _, _, rfl⟩, kd_63.mpr ⟨_, rfl⟩, kd_64.mpr ⟨_, rfl⟩, kd_54.mpr ⟨_, rfl⟩, kd_55.mpr ⟨_, rfl⟩, kd_56.mpr ⟨_, rfl⟩, kd_57.mpr ⟨_, rfl⟩, kd_58.mpr ⟨_, rfl⟩, kd_59.mpr ⟨_, rfl⟩, kd_60.mpr ⟨_, rfl⟩, kd_61.mpr ⟨_, rfl⟩, trivial⟩ (by decide) (by decide) (fun _ h => nomatch h) (fun _ h => nomatch h) (fun _ _ _ _ h => h) (fun h => h)).iw
                          obtain ⟨nf_i, f_i, hw0_i, hch_i, hg_i⟩ := hI8.2.1.2.1 3 (by decide) 0 (show 0 < u.1 3 by omega)
                          have hw_i := hI8.kp (L := 3) (by decide) nf_i hw0_i (Or.inr (show (1 : Nat) < 5 by decide)) e3
                          have hF84_mi := hI8.kpF (L := 3) (i := 63) (by decide) (by decide) (by decide) (hA84.at (q0 := 1) rfl) e3
                          have hI := hI8.rem (L := 3) (m := m9) (by decide) hm9 (Nat.zero_le _) e2 e3
                          obtain ⟨e_m, wf_m, k_m⟩ := hI.1.2 52 (by decide)
                          obtain ⟨v_m_th, v_m_cl, v_m_wa, v_m_co_, v_m_fi, v_m_bu, v_m_ho, v_m_lh, v_m_mg, v_m_wd, v_m_po, v_m_de, rfl⟩ := kd_52.mp k_m
                          obtain ⟨e_mr, wf_mr, k_mr⟩ := hI.1.2 64 (by decide)
                          obtain ⟨v_mr_f, rfl⟩ := kd_64.mp k_mr
                          obtain ⟨e_mf, wf_mf, k_mf⟩ := hI.1.2 54 (by decide)
                          obtain ⟨v_mf_f, rfl⟩ := kd_54.mp k_mf
                          obtain ⟨e_mh, wf_mh, k_mh⟩ := hI.1.2 55 (by decide)
                          obtain ⟨v_mh_f, rfl⟩ := kd_55.mp k_mh
                          obtain ⟨e_mn, wf_mn, k_mn⟩ := hI.1.2 56 (by decide)
                          obtain ⟨v_mn_f, rfl⟩ := kd_56.mp k_mn
                          obtain ⟨e_mt, wf_mt, k_mt⟩ := hI.1.2 57 (by decide)
                          obtain ⟨v_mt_f, rfl⟩ := kd_57.mp k_mt
                          obtain ⟨e_mz, wf_mz, k_mz⟩ := hI.1.2 58 (by decide)
                          obtain ⟨v_mz_f, rfl⟩ := kd_58.mp k_mz
                          obtain ⟨e_mc_, wf_mc_, k_mc_⟩ := hI.1.2 59 (by decide)
                          obtain ⟨v_mc__f, rfl⟩ := kd_59.mp k_mc_
                          obtain ⟨e_mq, wf_mq, k_mq⟩ := hI.1.2 60 (by decide)
                          obtain ⟨v_mq_h, rfl⟩ := kd_60.mp k_mq
                          obtain ⟨e_mgr, wf_mgr, k_mgr⟩ := hI.1.2 61 (by decide)
                          obtain ⟨v_mgr_f, rfl⟩ := kd_61.mp k_mgr
                          refine y_base (cs := [((ad 52), .inr (12, [.int v_m_th, .ref (ad 53), .int (nI t.2.2.2.1), .ref (ad 54), .ref (ad 55), .ref (ad 56), .ref (ad 57), .ref (ad 58), .ref (ad 59), .ref (ad 60), .ref (ad 61), .int v_m_cl, .int v_m_wa, .int v_m_co_, .int v_m_fi, .int v_m_bu, .int v_m_ho, .ref (ad 62), .ref (ad 63), .ref (ad 64), .int v_m_lh, .int v_m_mg, .int v_m_wd, .int (t.2.2.2.2 3), .int (t.2.2.2.2 4), .ref (ad 65), .ref (ad 66), .ref (ad 67), .ref (ad 68), .long v_m_po, .long v_m_de])), ((ad 63), .inl (0, 4, .inl v_mi_f)), ((ad 64), .inl (3, 16, .inr (.inl v_mr_f))), ((ad 54), .inl (0, 108, .inl v_mf_f)), ((ad 55), .inl (0, 108, .inl v_mh_f)), ((ad 56), .inl (0, 108, .inl v_mn_f)), ((ad 57), .inl (0, 108, .inl v_mt_f)), ((ad 58), .inl (0, 108, .inl v_mz_f)), ((ad 59), .inl (2, 108, .inl v_mc__f)), ((ad 60), .inl (0, 108, .inl (fun k => nI (v_mq_h k)))), ((ad 61), .inl (0, 108, .inl v_mgr_f)), ((u.2.2 3 0), .inl (1, 108, .inl f_i))]) (hI.1.B [52, 63, 64, 54, 55, 56, 57, 58, 59, 60, 61] [((ad 52), .inr (12, [.int v_m_th, .ref (ad 53), .int (nI t.2.2.2.1), .ref (ad 54), .ref (ad 55), .ref (ad 56), .ref (ad 57), .ref (ad 58), .ref (ad 59), .ref (ad 60), .ref (ad 61), .int v_m_cl, .int v_m_wa, .int v_m_co_, .int v_m_fi, .int v_m_bu, .int v_m_ho, .ref (ad 62), .ref (ad 63), .ref (ad 64), .int v_m_lh, .int v_m_mg, .int v_m_wd, .int (t.2.2.2.2 3), .int (t.2.2.2.2 4), .ref (ad 65), .ref (ad 66), .ref (ad 67), .ref (ad 68), .long v_m_po, .long v_m_de])), ((ad 63), .inl (0, 4, .inl v_mi_f)), ((ad 64), .inl (3, 16, .inr (.inl v_mr_f))), ((ad 54), .inl (0, 108, .inl v_mf_f)), ((ad 55), .inl (0, 108, .inl v_mh_f)), ((ad 56), .inl (0, 108, .inl v_mn_f)), ((ad 57), .inl (0, 108, .inl v_mt_f)), ((ad 58), .inl (0, 108, .inl v_mz_f)), ((ad 59), .inl (2, 108, .inl v_mc__f)), ((ad 60), .inl (0, 108, .inl (fun k => nI (v_mq_h k)))), ((ad 61), .inl (0, 108, .inl v_mgr_f))] [((u.2.2 3 0), .inl (1, 108, .inl f_i))] rfl (by decide) (by decide) (List.forall_mem_cons.mpr ⟨wf_m, (List.forall_mem_cons.mpr ⟨hF84_mi, (List.forall_mem_cons.mpr ⟨wf_mr, (List.forall_mem_cons.mpr ⟨wf_mf, (List.forall_mem_cons.mpr ⟨wf_mh, (List.forall_mem_cons.mpr ⟨wf_mn, (List.forall_mem_cons.mpr ⟨wf_mt, (List.forall_mem_cons.mpr ⟨wf_mz, (List.forall_mem_cons.mpr ⟨wf_mc_, (List.forall_mem_cons.mpr ⟨wf_mq, (List.forall_mem_cons.mpr ⟨wf_mgr, (fun _ h => nomatch h)⟩)⟩)⟩)⟩)⟩)⟩)⟩)⟩)⟩)⟩)⟩) (List.forall_mem_cons.mpr ⟨hw_i, (fun _ h => nomatch h)⟩) (List.forall_mem_cons.mpr ⟨nf_i, (fun _ h => nomatch h)⟩) (by simp [z_kd])) ?_
                          refine y_castA (t := 1) (by decide) lk_Mm_292 d_Mm_pour_87 (q0 := 11) rfl ?_
                          refine y_astore_n (lv' := [(1, .ref (u.2.2 3 0)), (0, .ref (ad 52))]) d_Mm_pour_90 rfl (by decide) rfl ?_
                          refine y_aload_n d_Mm_pour_91 rfl 1 rfl ?_
                          refine y_get fs_Mm_75 d_Mm_pour_92 (q0 := 0) rfl rfl ?_
                          refine y_iconst d_Mm_pour_95 (v := 0) (by decide) ?_
                          refine yw_callVL (As := [.int 0]) (rest := []) (ci := 13) rfl (fun wA hA => ((hI.gen (t2 := t) (is := [52, 63, 64, 54, 55, 56, 57, 58, 59, 60, 61]) (L2 := [(u.2.2 3 0)]) hA rfl ⟨kd_52.mpr ⟨_, _, _, _, _, _, _, _, _, _, _, _, rfl⟩, kd_63.mpr ⟨_, rfl⟩, kd_64.mpr ⟨_, rfl⟩, kd_54.mpr ⟨_, rfl⟩, kd_55.mpr ⟨_, rfl⟩, kd_56.mpr ⟨_, rfl⟩, kd_57.mpr ⟨_, rfl⟩, kd_58.mpr ⟨_, rfl⟩, kd_59.mpr ⟨_, rfl⟩, kd_60.mpr ⟨_, rfl⟩, kd_61.mpr ⟨_, rfl⟩, trivial⟩ (by decide) (by decide) (List.forall_mem_cons.mpr ⟨nf_i, (fun _ h => nomatch h)⟩) (List.forall_mem_cons.mpr ⟨⟨_, _, hw_i, hA.at (q0 := 11) rfl, Or.inl rfl⟩, (fun _ h => nomatch h)⟩) (fun _ _ _ _ h => h) (fun h => h)).2.1.1 4 (by decide)).ob) ln_Mm_229 w_im_AL_remove w_se_AL_remove ok_Mm_pour_AL_remove d_Mm_pour_96 (fun wA hA => Q_rem (i := 0) (m := m9) ((hI.gen (t2 := t) (is := [52, 63, 64, 54, 55, 56, 57, 58, 59, 60, 61]) (L2 := [(u.2.2 3 0)]) hA rfl ⟨kd_52.mpr ⟨_, _, _, _, _, _, _, _, _, _, _, _, rfl⟩, kd_63.mpr ⟨_, rfl⟩, kd_64.mpr ⟨_, rfl⟩, kd_54.mpr ⟨_, rfl⟩, kd_55.mpr ⟨_, rfl⟩, kd_56.mpr ⟨_, rfl⟩, kd_57.mpr ⟨_, rfl⟩, kd_58.mpr ⟨_, rfl⟩, kd_59.mpr ⟨_, rfl⟩, kd_60.mpr ⟨_, rfl⟩, kd_61.mpr ⟨_, rfl⟩, trivial⟩ (by decide) (by decide) (List.forall_mem_cons.mpr ⟨nf_i, (fun _ h => nomatch h)⟩) (List.forall_mem_cons.mpr ⟨⟨_, _, hw_i, hA.at (q0 := 11) rfl, Or.inl rfl⟩, (fun _ h => nomatch h)⟩) (fun _ _ _ _ h => h) (fun h => h)).2.1.1 4 (by decide)) hm4 (fun k hk => ((hI.gen (t2 := t) (is := [52, 63, 64, 54, 55, 56, 57, 58, 59, 60, 61]) (L2 := [(u.2.2 3 0)]) hA rfl ⟨kd_52.mpr ⟨_, _, _, _, _, _, _, _, _, _, _, _, rfl⟩, kd_63.mpr ⟨_, rfl⟩, kd_64.mpr ⟨_, rfl⟩, kd_54.mpr ⟨_, rfl⟩, kd_55.mpr ⟨_, rfl⟩, kd_56.mpr ⟨_, rfl⟩, kd_57.mpr ⟨_, rfl⟩, kd_58.mpr ⟨_, rfl⟩, kd_59.mpr ⟨_, rfl⟩, kd_60.mpr ⟨_, rfl⟩, kd_61.mpr ⟨_, rfl⟩, trivial⟩ (by decide) (by decide) (List.forall_mem_cons.mpr ⟨nf_i, (fun _ h => nomatch h)⟩) (List.forall_mem_cons.mpr ⟨⟨_, _, hw_i, hA.at (q0 := 11) rfl, Or.inl rfl⟩, (fun _ h => nomatch h)⟩) (fun _ _ _ _ h => h) (fun h => h)).2.1.2.1 4 (by decide) k (show k < u.1 4 by omega)).elt4) (Nat.zero_le _)) rfl rfl (Nat.le_of_ble_eq_true rfl) (by omega) (by omega) (fun wA96 hA96 E wB96 hx => ?_) (fun wA96 hA96 v wB96 hx => ?_)
                          · exact absurd hx.1 (by simp)
                          · obtain ⟨e1, e2, e3⟩ := hx
                            cases e1
                            refine yw_st (st2 := [.ref (u.2.2 4 0)]) rfl ?_
                            have hI8 := (hI.gen (t2 := t) (is := [52, 63, 64, 54, 55, 56, 57, 58, 59, 60, 61]) (L2 := [(u.2.2 3 0)]) hA96 rfl ⟨kd_52.mpr ⟨_, _, _, _, _, _, _, _, _, _, _, _, rfl⟩, kd_63.mpr ⟨_, rfl⟩, kd_64.mpr ⟨_, rfl⟩, kd_54.mpr ⟨_, rfl⟩, kd_55.mpr ⟨_, rfl⟩, kd_56.mpr ⟨_, rfl⟩, kd_57.mpr ⟨_, rfl⟩, kd_58.mpr ⟨_, rfl⟩, kd_59.mpr ⟨_, rfl⟩, kd_60.mpr ⟨_, rfl⟩, kd_61.mpr ⟨_, rfl⟩, trivial⟩ (by decide) (by decide) (List.forall_mem_cons.mpr ⟨nf_i, (fun _ h => nomatch h)⟩) (List.forall_mem_cons.mpr ⟨⟨_, _, hw_i, hA96.at (q0 := 11) rfl, Or.inl rfl⟩, (fun _ h => nomatch h)⟩) (fun _ _ _ _ h => h) (fun h => h))
                            obtain ⟨nf_n, f_n, p_n, hw0_n, h0_n, hp_n⟩ := hI8.2.1.2.1 4 (by decide) 0 (show 0 < u.1 4 by omega)
                            have hw_n := hI8.kp (L := 4) (by decide) nf_n hw0_n (Or.inr (show (0 : Nat) < 5 by decide)) e3
                            have hc96_11 := hI8.kp (L := 4) (by decide) nf_i (hA96.at (q0 := 11) rfl) (Or.inr (show (1 : Nat) < 5 by decide)) e3
                            have hF96_mi := hI8.kpF (L := 4) (i := 63) (by decide) (by decide) (by decide) (hA96.at (q0 := 1) rfl) e3
                            have hI := (hI8.rem (L := 4) (m := m9) (by decide) hm4 (Nat.zero_le _) e2 e3).iv (hsz.s34 (by have h9 : u.1 3 ≤ 10 := hsz.2.2.2.1; omega) rfl)
                            obtain ⟨e_m, wf_m, k_m⟩ := hI.1.2 52 (by decide)
                            obtain ⟨v_m_th, v_m_cl, v_m_wa, v_m_co_, v_m_fi, v_m_bu, v_m_ho, v_m_lh, v_m_mg, v_m_wd, v_m_po, v_m_de, rfl⟩ := kd_52.mp k_m
                            obtain ⟨e_mr, wf_mr, k_mr⟩ := hI.1.2 64 (by decide)
                            obtain ⟨v_mr_f, rfl⟩ := kd_64.mp k_mr
                            obtain ⟨e_mf, wf_mf, k_mf⟩ := hI.1.2 54 (by decide)
                            obtain ⟨v_mf_f, rfl⟩ := kd_54.mp k_mf
                            obtain ⟨e_mh, wf_mh, k_mh⟩ := hI.1.2 55 (by decide)
                            obtain ⟨v_mh_f, rfl⟩ := kd_55.mp k_mh
                            obtain ⟨e_mn, wf_mn, k_mn⟩ := hI.1.2 56 (by decide)
                            obtain ⟨v_mn_f, rfl⟩ := kd_56.mp k_mn
                            obtain ⟨e_mt, wf_mt, k_mt⟩ := hI.1.2 57 (by decide)
                            obtain ⟨v_mt_f, rfl⟩ := kd_57.mp k_mt
                            obtain ⟨e_mz, wf_mz, k_mz⟩ := hI.1.2 58 (by decide)
                            obtain ⟨v_mz_f, rfl⟩ := kd_58.mp k_mz
                            obtain ⟨e_mc_, wf_mc_, k_mc_⟩ := hI.1.2 59 (by decide)
                            obtain ⟨v_mc__f, rfl⟩ := kd_59.mp k_mc_
                            obtain ⟨e_mq, wf_mq, k_mq⟩ := hI.1.2 60 (by decide)
                            obtain ⟨v_mq_h, rfl⟩ := kd_60.mp k_mq
                            obtain ⟨e_mgr, wf_mgr, k_mgr⟩ := hI.1.2 61 (by decide)
                            obtain ⟨v_mgr_f, rfl⟩ := kd_61.mp k_mgr
                            refine y_base (cs := [((ad 52), .inr (12, [.int v_m_th, .ref (ad 53), .int (nI t.2.2.2.1), .ref (ad 54), .ref (ad 55), .ref (ad 56), .ref (ad 57), .ref (ad 58), .ref (ad 59), .ref (ad 60), .ref (ad 61), .int v_m_cl, .int v_m_wa, .int v_m_co_, .int v_m_fi, .int v_m_bu, .int v_m_ho, .ref (ad 62), .ref (ad 63), .ref (ad 64), .int v_m_lh, .int v_m_mg, .int v_m_wd, .int (t.2.2.2.2 3), .int (t.2.2.2.2 4), .ref (ad 65), .ref (ad 66), .ref (ad 67), .ref (ad 68), .long v_m_po, .long v_m_de])), ((ad 63), .inl (0, 4, .inl v_mi_f)), ((ad 64), .inl (3, 16, .inr (.inl v_mr_f))), ((ad 54), .inl (0, 108, .inl v_mf_f)), ((ad 55), .inl (0, 108, .inl v_mh_f)), ((ad 56), .inl (0, 108, .inl v_mn_f)), ((ad 57), .inl (0, 108, .inl v_mt_f)), ((ad 58), .inl (0, 108, .inl v_mz_f)), ((ad 59), .inl (2, 108, .inl v_mc__f)), ((ad 60), .inl (0, 108, .inl (fun k => nI (v_mq_h k)))), ((ad 61), .inl (0, 108, .inl v_mgr_f)), ((u.2.2 3 0), .inl (1, 108, .inl f_i)), ((u.2.2 4 0), .inl (0, 5, .inl f_n))]) (hI.1.B [52, 63, 64, 54, 55, 56, 57, 58, 59, 60, 61] [((ad 52), .inr (12, [.int v_m_th, .ref (ad 53), .int (nI t.2.2.2.1), .ref (ad 54), .ref (ad 55), .ref (ad 56), .ref (ad 57), .ref (ad 58), .ref (ad 59), .ref (ad 60), .ref (ad 61), .int v_m_cl, .int v_m_wa, .int v_m_co_, .int v_m_fi, .int v_m_bu, .int v_m_ho, .ref (ad 62), .ref (ad 63), .ref (ad 64), .int v_m_lh, .int v_m_mg, .int v_m_wd, .int (t.2.2.2.2 3), .int (t.2.2.2.2 4), .ref (ad 65), .ref (ad 66), .ref (ad 67), .ref (ad 68), .long v_m_po, .long v_m_de])), ((ad 63), .inl (0, 4, .inl v_mi_f)), ((ad 64), .inl (3, 16, .inr (.inl v_mr_f))), ((ad 54), .inl (0, 108, .inl v_mf_f)), ((ad 55), .inl (0, 108, .inl v_mh_f)), ((ad 56), .inl (0, 108, .inl v_mn_f)), ((ad 57), .inl (0, 108, .inl v_mt_f)), ((ad 58), .inl (0, 108, .inl v_mz_f)), ((ad 59), .inl (2, 108, .inl v_mc__f)), ((ad 60), .inl (0, 108, .inl (fun k => nI (v_mq_h k)))), ((ad 61), .inl (0, 108, .inl v_mgr_f))] [((u.2.2 3 0), .inl (1, 108, .inl f_i)), ((u.2.2 4 0), .inl (0, 5, .inl f_n))] rfl (by decide) (by decide) (List.forall_mem_cons.mpr ⟨wf_m, (List.forall_mem_cons.mpr ⟨hF96_mi, (List.forall_mem_cons.mpr ⟨wf_mr, (List.forall_mem_cons.mpr ⟨wf_mf, (List.forall_mem_cons.mpr ⟨wf_mh, (List.forall_mem_cons.mpr ⟨wf_mn, (List.forall_mem_cons.mpr ⟨wf_mt, (List.forall_mem_cons.mpr ⟨wf_mz, (List.forall_mem_cons.mpr ⟨wf_mc_, (List.forall_mem_cons.mpr ⟨wf_mq, (List.forall_mem_cons.mpr ⟨wf_mgr, (fun _ h => nomatch h)⟩)⟩)⟩)⟩)⟩)⟩)⟩)⟩)⟩)⟩)⟩) (List.forall_mem_cons.mpr ⟨hc96_11, (List.forall_mem_cons.mpr ⟨hw_n, (fun _ h => nomatch h)⟩)⟩) (List.forall_mem_cons.mpr ⟨nf_i, (List.forall_mem_cons.mpr ⟨nf_n, (fun _ h => nomatch h)⟩)⟩) (by simp [z_kd])) ?_
                            refine y_castA (t := 0) (by decide) lk_Mm_215 d_Mm_pour_99 (q0 := 12) rfl ?_
                            refine y_astore_n (lv' := [(2, .ref (u.2.2 4 0)), (1, .ref (u.2.2 3 0)), (0, .ref (ad 52))]) d_Mm_pour_102 rfl (by decide) rfl ?_
                            refine y_iconst d_Mm_pour_103 (v := 2) (by decide) ?_
                            refine y_aload_n d_Mm_pour_104 rfl 1 rfl ?_
                            refine y_callS (As := [.ref (u.2.2 3 0)]) (rest := [.int 2]) (csC := [((u.2.2 3 0), .inl (1, 108, .inl f_i))]) (is := [11]) ln_Mm_134 w_st_Mm_cellsIn ok_Mm_pour_Mm_cellsIn d_Mm_pour_105 (C_Mm_cellsIn g (u.2.2 3 0) f_i) rfl rfl (Nat.le_of_ble_eq_true rfl) rfl (by decide) (by omega) (by omega) (fun E cs1 hx => ?_) (fun v cs1 hx => ?_)
                            · exact absurd hx.1 (by simp)
                            · obtain ⟨e1, rfl⟩ := hx
                              cases e1
                              refine ⟨rfl, ?_⟩
                              refine y_st (st2 := [.int (nI (fa_cnt (fun k => tmB (f_i k)) 108)), .int 2]) rfl ?_
                              refine y_cs (cs2 := [((ad 52), .inr (12, [.int v_m_th, .ref (ad 53), .int (nI t.2.2.2.1), .ref (ad 54), .ref (ad 55), .ref (ad 56), .ref (ad 57), .ref (ad 58), .ref (ad 59), .ref (ad 60), .ref (ad 61), .int v_m_cl, .int v_m_wa, .int v_m_co_, .int v_m_fi, .int v_m_bu, .int v_m_ho, .ref (ad 62), .ref (ad 63), .ref (ad 64), .int v_m_lh, .int v_m_mg, .int v_m_wd, .int (t.2.2.2.2 3), .int (t.2.2.2.2 4), .ref (ad 65), .ref (ad 66), .ref (ad 67), .ref (ad 68), .long v_m_po, .long v_m_de])), ((ad 63), .inl (0, 4, .inl v_mi_f)), ((ad 64), .inl (3, 16, .inr (.inl v_mr_f))), ((ad 54), .inl (0, 108, .inl v_mf_f)), ((ad 55), .inl (0, 108, .inl v_mh_f)), ((ad 56), .inl (0, 108, .inl v_mn_f)), ((ad 57), .inl (0, 108, .inl v_mt_f)), ((ad 58), .inl (0, 108, .inl v_mz_f)), ((ad 59), .inl (2, 108, .inl v_mc__f)), ((ad 60), .inl (0, 108, .inl (fun k => nI (v_mq_h k)))), ((ad 61), .inl (0, 108, .inl v_mgr_f)), ((u.2.2 3 0), .inl (1, 108, .inl f_i)), ((u.2.2 4 0), .inl (0, 5, .inl f_n))]) rfl ?_
                              refine y_imul d_Mm_pour_108 (v := nI (2 * (fa_cnt (fun k => tmB (f_i k)) 108))) (pk_mul _ _) ?_
                              refine y_istore_n (lv' := [(3, .int (nI (2 * (fa_cnt (fun k => tmB (f_i k)) 108)))), (2, .ref (u.2.2 4 0)), (1, .ref (u.2.2 3 0)), (0, .ref (ad 52))]) d_Mm_pour_109 rfl (by decide) rfl ?_
                              refine y_iload_n d_Mm_pour_110 rfl 0 rfl ?_
                              refine y_aload_n d_Mm_pour_111 rfl 3 rfl ?_
                              refine y_get fs_Mm_62 d_Mm_pour_112 (q0 := 0) rfl rfl ?_
                              refine y_iconst d_Mm_pour_115 (v := 1) (by decide) ?_
                              refine y_iald d_Mm_pour_116 (q0 := 1) rfl (fun q => q.elim (by decide) (by decide)) (v := v_mi_f 1) rfl ?_
                              refine y_min (v := (if v_mi_f 1 < nI (2 * (fa_cnt (fun k => tmB (f_i k)) 108)) then v_mi_f 1 else nI (2 * (fa_cnt (fun k => tmB (f_i k)) 108)))) ln_Mm_182 w_mmin w_mi w_cmin d_Mm_pour_117 (by decide) (by decide) (Nat.le_of_ble_eq_true rfl) rfl ?_
                              refine y_istore (lv' := [(4, .int (if v_mi_f 1 < nI (2 * (fa_cnt (fun k => tmB (f_i k)) 108)) then v_mi_f 1 else nI (2 * (fa_cnt (fun k => tmB (f_i k)) 108)))), (3, .int (nI (2 * (fa_cnt (fun k => tmB (f_i k)) 108)))), (2, .ref (u.2.2 4 0)), (1, .ref (u.2.2 3 0)), (0, .ref (ad 52))]) d_Mm_pour_120 (by decide) rfl ?_
                              have hall := c_27
                              have hT0 : ¬ (if v_mi_f 1 < nI (2 * (fa_cnt (fun k => tmB (f_i k)) 108)) then v_mi_f 1 else nI (2 * (fa_cnt (fun k => tmB (f_i k)) 108))) = 0 := min_ne c_27 (fun q => cnt_pos hg_i (by have h9 := fa_cnt_le (fun k => tmB (f_i k)) 108; have h8 := nI_z (by omega) q; omega))
                              generalize htk : (if v_mi_f 1 < nI (2 * (fa_cnt (fun k => tmB (f_i k)) 108)) then v_mi_f 1 else nI (2 * (fa_cnt (fun k => tmB (f_i k)) 108))) = tk
                              rw [htk] at hT0
                              have hT := hT0
                              refine y_bipush d_Mm_pour_122 (v := 6) (by decide) ?_
                              refine y_newa_int (N := 6) ac_int d_Mm_pour_124 (by decide) (by decide) (by decide) (by omega) (by omega) (fun q124 => ?_)
                              refine y_cs (cs2 := [((ad 52), .inr (12, [.int v_m_th, .ref (ad 53), .int (nI t.2.2.2.1), .ref (ad 54), .ref (ad 55), .ref (ad 56), .ref (ad 57), .ref (ad 58), .ref (ad 59), .ref (ad 60), .ref (ad 61), .int v_m_cl, .int v_m_wa, .int v_m_co_, .int v_m_fi, .int v_m_bu, .int v_m_ho, .ref (ad 62), .ref (ad 63), .ref (ad 64), .int v_m_lh, .int v_m_mg, .int v_m_wd, .int (t.2.2.2.2 3), .int (t.2.2.2.2 4), .ref (ad 65), .ref (ad 66), .ref (ad 67), .ref (ad 68), .long v_m_po, .long v_m_de])), ((ad 63), .inl (0, 4, .inl v_mi_f)), ((ad 64), .inl (3, 16, .inr (.inl v_mr_f))), ((ad 54), .inl (0, 108, .inl v_mf_f)), ((ad 55), .inl (0, 108, .inl v_mh_f)), ((ad 56), .inl (0, 108, .inl v_mn_f)), ((ad 57), .inl (0, 108, .inl v_mt_f)), ((ad 58), .inl (0, 108, .inl v_mz_f)), ((ad 59), .inl (2, 108, .inl v_mc__f)), ((ad 60), .inl (0, 108, .inl (fun k => nI (v_mq_h k)))), ((ad 61), .inl (0, 108, .inl v_mgr_f)), ((u.2.2 3 0), .inl (1, 108, .inl f_i)), ((u.2.2 4 0), .inl (0, 5, .inl f_n)), (q124, .inl (0, 6, .inl (fun _ => 0)))]) rfl ?_
                              refine y_astore (lv' := [(5, .ref q124), (4, .int tk), (3, .int (nI (2 * (fa_cnt (fun k => tmB (f_i k)) 108)))), (2, .ref (u.2.2 4 0)), (1, .ref (u.2.2 3 0)), (0, .ref (ad 52))]) d_Mm_pour_126 (by decide) rfl ?_
                              refine y_iconst d_Mm_pour_128 (v := 4) (by decide) ?_
                              refine y_newa_long (N := 4) ac_long d_Mm_pour_129 (by decide) (by decide) (by decide) (by omega) (by omega) (fun q129 => ?_)
                              refine y_cs (cs2 := [((ad 52), .inr (12, [.int v_m_th, .ref (ad 53), .int (nI t.2.2.2.1), .ref (ad 54), .ref (ad 55), .ref (ad 56), .ref (ad 57), .ref (ad 58), .ref (ad 59), .ref (ad 60), .ref (ad 61), .int v_m_cl, .int v_m_wa, .int v_m_co_, .int v_m_fi, .int v_m_bu, .int v_m_ho, .ref (ad 62), .ref (ad 63), .ref (ad 64), .int v_m_lh, .int v_m_mg, .int v_m_wd, .int (t.2.2.2.2 3), .int (t.2.2.2.2 4), .ref (ad 65), .ref (ad 66), .ref (ad 67), .ref (ad 68), .long v_m_po, .long v_m_de])), ((ad 63), .inl (0, 4, .inl v_mi_f)), ((ad 64), .inl (3, 16, .inr (.inl v_mr_f))), ((ad 54), .inl (0, 108, .inl v_mf_f)), ((ad 55), .inl (0, 108, .inl v_mh_f)), ((ad 56), .inl (0, 108, .inl v_mn_f)), ((ad 57), .inl (0, 108, .inl v_mt_f)), ((ad 58), .inl (0, 108, .inl v_mz_f)), ((ad 59), .inl (2, 108, .inl v_mc__f)), ((ad 60), .inl (0, 108, .inl (fun k => nI (v_mq_h k)))), ((ad 61), .inl (0, 108, .inl v_mgr_f)), ((u.2.2 3 0), .inl (1, 108, .inl f_i)), ((u.2.2 4 0), .inl (0, 5, .inl f_n)), (q124, .inl (0, 6, .inl (fun _ => 0))), (q129, .inl (3, 4, .inr (.inl (fun _ => 0))))]) rfl ?_
                              refine y_astore (lv' := [(6, .ref q129), (5, .ref q124), (4, .int tk), (3, .int (nI (2 * (fa_cnt (fun k => tmB (f_i k)) 108)))), (2, .ref (u.2.2 4 0)), (1, .ref (u.2.2 3 0)), (0, .ref (ad 52))]) d_Mm_pour_131 (by decide) rfl ?_
                              refine y_aload_n d_Mm_pour_133 rfl 6 rfl ?_
                              refine y_get fs_Mm_62 d_Mm_pour_134 (q0 := 0) rfl rfl ?_
                              refine y_iconst d_Mm_pour_137 (v := 1) (by decide) ?_
                              refine y_iald d_Mm_pour_138 (q0 := 1) rfl (fun q => q.elim (by decide) (by decide)) (v := v_mi_f 1) rfl ?_
                              refine y_istore (lv' := [(7, .int (v_mi_f 1)), (6, .ref q129), (5, .ref q124), (4, .int tk), (3, .int (nI (2 * (fa_cnt (fun k => tmB (f_i k)) 108)))), (2, .ref (u.2.2 4 0)), (1, .ref (u.2.2 3 0)), (0, .ref (ad 52))]) d_Mm_pour_139 (by decide) rfl ?_
                              refine y_iconst d_Mm_pour_141 (v := 0) (by decide) ?_
                              refine y_istore (lv' := [(8, .int 0), (7, .int (v_mi_f 1)), (6, .ref q129), (5, .ref q124), (4, .int tk), (3, .int (nI (2 * (fa_cnt (fun k => tmB (f_i k)) 108)))), (2, .ref (u.2.2 4 0)), (1, .ref (u.2.2 3 0)), (0, .ref (ad 52))]) d_Mm_pour_142 (by decide) rfl ?_
                              refine LK_pour g v_m_th v_m_cl v_m_wa v_m_co_ v_m_fi v_m_bu v_m_ho v_m_lh v_m_mg v_m_wd v_m_po v_m_de v_mf_f v_mh_f v_mn_f v_mt_f v_mz_f v_mc__f v_mgr_f f_i f_n v_mi_f v_mq_h (u.2.2 3 0) (u.2.2 4 0) q124 q129 tk (nI (2 * (fa_cnt (fun k => tmB (f_i k)) 108))) hall (fun gr9 mg9 => ?_) (4 + 1) 0 _ _ (Nat.zero_le _) (by omega)
                              refine y_aload_n d_Mm_pour_195 rfl 6 rfl ?_
                              refine y_get fs_Mm_62 d_Mm_pour_196 (q0 := 0) rfl rfl ?_
                              refine y_iconst d_Mm_pour_199 (v := 1) (by decide) ?_
                              refine y_dup2_11 d_Mm_pour_200 rfl rfl ?_
                              refine y_iald d_Mm_pour_201 (q0 := 1) rfl (fun q => q.elim (by decide) (by decide)) (v := v_mi_f 1) rfl ?_
                              refine y_iload d_Mm_pour_202 2 rfl ?_
                              refine y_isub d_Mm_pour_204 (v := (v_mi_f 1) - tk) rfl ?_
                              refine y_iast d_Mm_pour_205 (q0 := 1) rfl (fun q => q.elim (by decide) (by decide)) (f' := upd v_mi_f 1 ((v_mi_f 1) - tk)) rfl (cs' := [((ad 52), .inr (12, [.int v_m_th, .ref (ad 53), .int (nI t.2.2.2.1), .ref (ad 54), .ref (ad 55), .ref (ad 56), .ref (ad 57), .ref (ad 58), .ref (ad 59), .ref (ad 60), .ref (ad 61), .int v_m_cl, .int v_m_wa, .int v_m_co_, .int v_m_fi, .int v_m_bu, .int v_m_ho, .ref (ad 62), .ref (ad 63), .ref (ad 64), .int v_m_lh, .int v_m_mg, .int v_m_wd, .int (t.2.2.2.2 3), .int (t.2.2.2.2 4), .ref (ad 65), .ref (ad 66), .ref (ad 67), .ref (ad 68), .long v_m_po, .long v_m_de])), ((ad 63), .inl (0, 4, .inl (upd v_mi_f 1 ((v_mi_f 1) - tk)))), ((ad 64), .inl (3, 16, .inr (.inl gr9))), ((ad 54), .inl (0, 108, .inl v_mf_f)), ((ad 55), .inl (0, 108, .inl v_mh_f)), ((ad 56), .inl (0, 108, .inl v_mn_f)), ((ad 57), .inl (0, 108, .inl v_mt_f)), ((ad 58), .inl (0, 108, .inl v_mz_f)), ((ad 59), .inl (2, 108, .inl v_mc__f)), ((ad 60), .inl (0, 108, .inl (fun k => nI (v_mq_h k)))), ((ad 61), .inl (0, 108, .inl v_mgr_f)), ((u.2.2 3 0), .inl (1, 108, .inl f_i)), ((u.2.2 4 0), .inl (0, 5, .inl f_n)), (q124, .inl (0, 6, .inl (fun _ => 0))), (q129, .inl (3, 4, .inr (.inl mg9)))]) rfl ?_
                              refine y_aload_n d_Mm_pour_206 rfl 6 rfl ?_
                              refine y_dup d_Mm_pour_207 rfl ?_
                              refine y_get fs_Mm_293 d_Mm_pour_208 (q0 := 0) rfl rfl ?_
                              refine y_iload d_Mm_pour_211 2 rfl ?_
                              refine y_i2l d_Mm_pour_213 (v := tk.toInt64) rfl ?_
                              refine y_ladd d_Mm_pour_214 (v := v_m_po + tk.toInt64) rfl ?_
                              refine y_put fp_Mm_293 d_Mm_pour_215 (fun h => nomatch h) rfl rfl (q0 := 0) rfl (Nat.le_of_ble_eq_true rfl) (cs' := [((ad 52), .inr (12, [.int v_m_th, .ref (ad 53), .int (nI t.2.2.2.1), .ref (ad 54), .ref (ad 55), .ref (ad 56), .ref (ad 57), .ref (ad 58), .ref (ad 59), .ref (ad 60), .ref (ad 61), .int v_m_cl, .int v_m_wa, .int v_m_co_, .int v_m_fi, .int v_m_bu, .int v_m_ho, .ref (ad 62), .ref (ad 63), .ref (ad 64), .int v_m_lh, .int v_m_mg, .int v_m_wd, .int (t.2.2.2.2 3), .int (t.2.2.2.2 4), .ref (ad 65), .ref (ad 66), .ref (ad 67), .ref (ad 68), .long (v_m_po + tk.toInt64), .long v_m_de])), ((ad 63), .inl (0, 4, .inl (upd v_mi_f 1 ((v_mi_f 1) - tk)))), ((ad 64), .inl (3, 16, .inr (.inl gr9))), ((ad 54), .inl (0, 108, .inl v_mf_f)), ((ad 55), .inl (0, 108, .inl v_mh_f)), ((ad 56), .inl (0, 108, .inl v_mn_f)), ((ad 57), .inl (0, 108, .inl v_mt_f)), ((ad 58), .inl (0, 108, .inl v_mz_f)), ((ad 59), .inl (2, 108, .inl v_mc__f)), ((ad 60), .inl (0, 108, .inl (fun k => nI (v_mq_h k)))), ((ad 61), .inl (0, 108, .inl v_mgr_f)), ((u.2.2 3 0), .inl (1, 108, .inl f_i)), ((u.2.2 4 0), .inl (0, 5, .inl f_n)), (q124, .inl (0, 6, .inl (fun _ => 0))), (q129, .inl (3, 4, .inr (.inl mg9)))]) rfl ?_
                              refine y_aload d_Mm_pour_218 1 rfl ?_
                              refine y_iconst d_Mm_pour_220 (v := 0) (by decide) ?_
                              refine y_iload d_Mm_pour_221 2 rfl ?_
                              refine y_iast d_Mm_pour_223 (q0 := 13) rfl (fun q => q.elim (by decide) (by decide)) (f' := upd (fun _ => 0) 0 tk) rfl (cs' := [((ad 52), .inr (12, [.int v_m_th, .ref (ad 53), .int (nI t.2.2.2.1), .ref (ad 54), .ref (ad 55), .ref (ad 56), .ref (ad 57), .ref (ad 58), .ref (ad 59), .ref (ad 60), .ref (ad 61), .int v_m_cl, .int v_m_wa, .int v_m_co_, .int v_m_fi, .int v_m_bu, .int v_m_ho, .ref (ad 62), .ref (ad 63), .ref (ad 64), .int v_m_lh, .int v_m_mg, .int v_m_wd, .int (t.2.2.2.2 3), .int (t.2.2.2.2 4), .ref (ad 65), .ref (ad 66), .ref (ad 67), .ref (ad 68), .long (v_m_po + tk.toInt64), .long v_m_de])), ((ad 63), .inl (0, 4, .inl (upd v_mi_f 1 ((v_mi_f 1) - tk)))), ((ad 64), .inl (3, 16, .inr (.inl gr9))), ((ad 54), .inl (0, 108, .inl v_mf_f)), ((ad 55), .inl (0, 108, .inl v_mh_f)), ((ad 56), .inl (0, 108, .inl v_mn_f)), ((ad 57), .inl (0, 108, .inl v_mt_f)), ((ad 58), .inl (0, 108, .inl v_mz_f)), ((ad 59), .inl (2, 108, .inl v_mc__f)), ((ad 60), .inl (0, 108, .inl (fun k => nI (v_mq_h k)))), ((ad 61), .inl (0, 108, .inl v_mgr_f)), ((u.2.2 3 0), .inl (1, 108, .inl f_i)), ((u.2.2 4 0), .inl (0, 5, .inl f_n)), (q124, .inl (0, 6, .inl (upd (fun _ => 0) 0 tk))), (q129, .inl (3, 4, .inr (.inl mg9)))]) rfl ?_
                              refine y_aload d_Mm_pour_224 1 rfl ?_
                              refine y_iconst d_Mm_pour_226 (v := 1) (by decide) ?_
                              refine y_aload_n d_Mm_pour_227 rfl 6 rfl ?_
                              refine y_get fs_Mm_260 d_Mm_pour_228 (q0 := 0) rfl rfl ?_
                              refine y_iast d_Mm_pour_231 (q0 := 13) rfl (fun q => q.elim (by decide) (by decide)) (f' := upd (upd (fun _ => 0) 0 tk) 1 v_m_mg) rfl (cs' := [((ad 52), .inr (12, [.int v_m_th, .ref (ad 53), .int (nI t.2.2.2.1), .ref (ad 54), .ref (ad 55), .ref (ad 56), .ref (ad 57), .ref (ad 58), .ref (ad 59), .ref (ad 60), .ref (ad 61), .int v_m_cl, .int v_m_wa, .int v_m_co_, .int v_m_fi, .int v_m_bu, .int v_m_ho, .ref (ad 62), .ref (ad 63), .ref (ad 64), .int v_m_lh, .int v_m_mg, .int v_m_wd, .int (t.2.2.2.2 3), .int (t.2.2.2.2 4), .ref (ad 65), .ref (ad 66), .ref (ad 67), .ref (ad 68), .long (v_m_po + tk.toInt64), .long v_m_de])), ((ad 63), .inl (0, 4, .inl (upd v_mi_f 1 ((v_mi_f 1) - tk)))), ((ad 64), .inl (3, 16, .inr (.inl gr9))), ((ad 54), .inl (0, 108, .inl v_mf_f)), ((ad 55), .inl (0, 108, .inl v_mh_f)), ((ad 56), .inl (0, 108, .inl v_mn_f)), ((ad 57), .inl (0, 108, .inl v_mt_f)), ((ad 58), .inl (0, 108, .inl v_mz_f)), ((ad 59), .inl (2, 108, .inl v_mc__f)), ((ad 60), .inl (0, 108, .inl (fun k => nI (v_mq_h k)))), ((ad 61), .inl (0, 108, .inl v_mgr_f)), ((u.2.2 3 0), .inl (1, 108, .inl f_i)), ((u.2.2 4 0), .inl (0, 5, .inl f_n)), (q124, .inl (0, 6, .inl (upd (upd (fun _ => 0) 0 tk) 1 v_m_mg))), (q129, .inl (3, 4, .inr (.inl mg9)))]) rfl ?_
                              refine y_aload d_Mm_pour_232 1 rfl ?_
                              refine y_iconst d_Mm_pour_234 (v := 3) (by decide) ?_
                              refine y_aload_n d_Mm_pour_235 rfl 6 rfl ?_
                              refine y_aload_n d_Mm_pour_236 rfl 5 rfl ?_
                              refine y_aload_n d_Mm_pour_237 rfl 6 rfl ?_
                              refine y_get fs_Mm_257 d_Mm_pour_238 (q0 := 0) rfl rfl ?_
                              refine y_callV (As := [.ref (u.2.2 3 0), .int v_m_lh]) (rest := [.int 3, .ref q124]) (csC := [((ad 52), .inr (12, [.int v_m_th, .ref (ad 53), .int (nI t.2.2.2.1), .ref (ad 54), .ref (ad 55), .ref (ad 56), .ref (ad 57), .ref (ad 58), .ref (ad 59), .ref (ad 60), .ref (ad 61), .int v_m_cl, .int v_m_wa, .int v_m_co_, .int v_m_fi, .int v_m_bu, .int v_m_ho, .ref (ad 62), .ref (ad 63), .ref (ad 64), .int v_m_lh, .int v_m_mg, .int v_m_wd, .int (t.2.2.2.2 3), .int (t.2.2.2.2 4), .ref (ad 65), .ref (ad 66), .ref (ad 67), .ref (ad 68), .long (v_m_po + tk.toInt64), .long v_m_de])), ((u.2.2 3 0), .inl (1, 108, .inl f_i)), ((ad 54), .inl (0, 108, .inl v_mf_f)), ((ad 55), .inl (0, 108, .inl v_mh_f)), ((ad 57), .inl (0, 108, .inl v_mt_f)), ((ad 58), .inl (0, 108, .inl v_mz_f)), ((ad 56), .inl (0, 108, .inl v_mn_f)), ((ad 59), .inl (2, 108, .inl v_mc__f)), ((ad 60), .inl (0, 108, .inl (fun k => nI (v_mq_h k))))]) (is := [0, 11, 3, 4, 6, 7, 5, 8, 9]) (q0 := 0) rfl rfl ln_Mm_173 w_im_Mm_shrunkOf w_se_Mm_shrunkOf ok_Mm_pour_Mm_shrunkOf d_Mm_pour_241 (C_Mm_shrunkOfW g (ad 52) (ad 53) (ad 54) (ad 55) (ad 56) (ad 57) (ad 58) (ad 59) (ad 60) (ad 61) (ad 62) (ad 63) (ad 64) (ad 65) (ad 66) (ad 67) (ad 68) v_m_th (nI t.2.2.2.1) v_m_cl v_m_wa v_m_co_ v_m_fi v_m_bu v_m_ho v_m_lh v_m_mg v_m_wd (t.2.2.2.2 3) (t.2.2.2.2 4) (v_m_po + tk.toInt64) v_m_de (u.2.2 3 0) f_i v_mf_f v_mh_f v_mn_f v_mt_f v_mz_f v_mc__f v_mq_h v_m_lh) rfl rfl (Nat.le_of_ble_eq_true rfl) rfl (by decide) (by omega) (by omega) (fun E cs1 hx => ?_) (fun v cs1 hx => ?_)
                              · obtain ⟨v9_241, fl9_241, he9_241, nx9_241, mt9_241, fz9_241, ic9_241, qn9_241, e1, -⟩ := hx
                                cases e1
                              · obtain ⟨v9_241, fl9_241, he9_241, nx9_241, mt9_241, fz9_241, ic9_241, qn9_241, e1, rfl⟩ := hx
                                cases e1
                                refine ⟨rfl, ?_⟩
                                refine y_st (st2 := [.int v9_241, .int 3, .ref q124]) rfl ?_
                                refine y_cs (cs2 := [((ad 52), .inr (12, [.int v_m_th, .ref (ad 53), .int (nI t.2.2.2.1), .ref (ad 54), .ref (ad 55), .ref (ad 56), .ref (ad 57), .ref (ad 58), .ref (ad 59), .ref (ad 60), .ref (ad 61), .int v_m_cl, .int v_m_wa, .int v_m_co_, .int v_m_fi, .int v_m_bu, .int v_m_ho, .ref (ad 62), .ref (ad 63), .ref (ad 64), .int v_m_lh, .int v_m_mg, .int v_m_wd, .int (t.2.2.2.2 3), .int (t.2.2.2.2 4), .ref (ad 65), .ref (ad 66), .ref (ad 67), .ref (ad 68), .long (v_m_po + tk.toInt64), .long v_m_de])), ((ad 63), .inl (0, 4, .inl (upd v_mi_f 1 ((v_mi_f 1) - tk)))), ((ad 64), .inl (3, 16, .inr (.inl gr9))), ((ad 54), .inl (0, 108, .inl fl9_241)), ((ad 55), .inl (0, 108, .inl he9_241)), ((ad 56), .inl (0, 108, .inl nx9_241)), ((ad 57), .inl (0, 108, .inl mt9_241)), ((ad 58), .inl (0, 108, .inl fz9_241)), ((ad 59), .inl (2, 108, .inl ic9_241)), ((ad 60), .inl (0, 108, .inl (fun k => nI (qn9_241 k)))), ((ad 61), .inl (0, 108, .inl v_mgr_f)), ((u.2.2 3 0), .inl (1, 108, .inl f_i)), ((u.2.2 4 0), .inl (0, 5, .inl f_n)), (q124, .inl (0, 6, .inl (upd (upd (fun _ => 0) 0 tk) 1 v_m_mg))), (q129, .inl (3, 4, .inr (.inl mg9)))]) rfl ?_
                                refine y_iast d_Mm_pour_244 (q0 := 13) rfl (fun q => q.elim (by decide) (by decide)) (f' := upd (upd (upd (fun _ => 0) 0 tk) 1 v_m_mg) 3 v9_241) rfl (cs' := [((ad 52), .inr (12, [.int v_m_th, .ref (ad 53), .int (nI t.2.2.2.1), .ref (ad 54), .ref (ad 55), .ref (ad 56), .ref (ad 57), .ref (ad 58), .ref (ad 59), .ref (ad 60), .ref (ad 61), .int v_m_cl, .int v_m_wa, .int v_m_co_, .int v_m_fi, .int v_m_bu, .int v_m_ho, .ref (ad 62), .ref (ad 63), .ref (ad 64), .int v_m_lh, .int v_m_mg, .int v_m_wd, .int (t.2.2.2.2 3), .int (t.2.2.2.2 4), .ref (ad 65), .ref (ad 66), .ref (ad 67), .ref (ad 68), .long (v_m_po + tk.toInt64), .long v_m_de])), ((ad 63), .inl (0, 4, .inl (upd v_mi_f 1 ((v_mi_f 1) - tk)))), ((ad 64), .inl (3, 16, .inr (.inl gr9))), ((ad 54), .inl (0, 108, .inl fl9_241)), ((ad 55), .inl (0, 108, .inl he9_241)), ((ad 56), .inl (0, 108, .inl nx9_241)), ((ad 57), .inl (0, 108, .inl mt9_241)), ((ad 58), .inl (0, 108, .inl fz9_241)), ((ad 59), .inl (2, 108, .inl ic9_241)), ((ad 60), .inl (0, 108, .inl (fun k => nI (qn9_241 k)))), ((ad 61), .inl (0, 108, .inl v_mgr_f)), ((u.2.2 3 0), .inl (1, 108, .inl f_i)), ((u.2.2 4 0), .inl (0, 5, .inl f_n)), (q124, .inl (0, 6, .inl (upd (upd (upd (fun _ => 0) 0 tk) 1 v_m_mg) 3 v9_241))), (q129, .inl (3, 4, .inr (.inl mg9)))]) rfl ?_
                                refine J1_pour g v_m_th v_m_cl v_m_wa v_m_co_ v_m_fi v_m_bu v_m_ho v_m_lh v_m_mg v_m_wd (v_m_po + tk.toInt64) v_m_de fl9_241 he9_241 nx9_241 mt9_241 fz9_241 ic9_241 v_mgr_f f_i f_n (upd v_mi_f 1 ((v_mi_f 1) - tk)) (upd (upd (upd (fun _ => 0) 0 tk) 1 v_m_mg) 3 v9_241) qn9_241 gr9 mg9 (u.2.2 3 0) (u.2.2 4 0) q124 q129 p_n tk (nI (2 * (fa_cnt (fun k => tmB (f_i k)) 108))) hT hch_i hg_i h0_n hp_n (fun x11 x4 gp qn => ?_)
                                refine y_aload d_Mm_pour_461 2 rfl ?_
                                refine y_iconst d_Mm_pour_463 (v := 2) (by decide) ?_
                                refine y_iload d_Mm_pour_464 0 rfl ?_
                                refine y_iast d_Mm_pour_466 (q0 := 13) rfl (fun q => q.elim (by decide) (by decide)) (f' := upd (upd (upd (upd (upd (fun _ => 0) 0 tk) 1 v_m_mg) 3 v9_241) 4 x4) 2 x11) rfl (cs' := [((ad 52), .inr (12, [.int v_m_th, .ref (ad 53), .int (nI t.2.2.2.1), .ref (ad 54), .ref (ad 55), .ref (ad 56), .ref (ad 57), .ref (ad 58), .ref (ad 59), .ref (ad 60), .ref (ad 61), .int v_m_cl, .int v_m_wa, .int v_m_co_, .int v_m_fi, .int v_m_bu, .int v_m_ho, .ref (ad 62), .ref (ad 63), .ref (ad 64), .int v_m_lh, .int v_m_mg, .int v_m_wd, .int (t.2.2.2.2 3), .int (t.2.2.2.2 4), .ref (ad 65), .ref (ad 66), .ref (ad 67), .ref (ad 68), .long (v_m_po + tk.toInt64), .long v_m_de])), ((ad 63), .inl (0, 4, .inl (upd v_mi_f 1 ((v_mi_f 1) - tk)))), ((ad 64), .inl (3, 16, .inr (.inl gr9))), ((ad 54), .inl (0, 108, .inl fl9_241)), ((ad 55), .inl (0, 108, .inl he9_241)), ((ad 56), .inl (0, 108, .inl nx9_241)), ((ad 57), .inl (0, 108, .inl mt9_241)), ((ad 58), .inl (0, 108, .inl fz9_241)), ((ad 59), .inl (2, 108, .inl ic9_241)), ((ad 60), .inl (0, 108, .inl (fun k => nI (qn k)))), ((ad 61), .inl (0, 108, .inl gp)), ((u.2.2 3 0), .inl (1, 108, .inl f_i)), ((u.2.2 4 0), .inl (0, 5, .inl f_n)), (q124, .inl (0, 6, .inl (upd (upd (upd (upd (upd (fun _ => 0) 0 tk) 1 v_m_mg) 3 v9_241) 4 x4) 2 x11))), (q129, .inl (3, 4, .inr (.inl mg9)))]) rfl ?_
                                refine y_aload_n d_Mm_pour_467 rfl 3 rfl ?_
                                refine y_get fs_Mm_78 d_Mm_pour_468 (q0 := 0) rfl rfl ?_
                                refine y_aload d_Mm_pour_471 2 rfl ?_
                                refine yw_callVL (As := [.ref q124]) (rest := []) (ci := 13) rfl (fun wA hA => ((hI.gen (t2 := t) (is := [52, 63, 64, 54, 55, 56, 57, 58, 59, 60, 61]) (L2 := [(u.2.2 3 0), (u.2.2 4 0)]) hA rfl ⟨kd_52.mpr ⟨_, _, _, _, _, _, _, _, _, _, _, _, rfl⟩, kd_63.mpr ⟨_, rfl⟩, kd_64.mpr ⟨_, rfl⟩, kd_54.mpr ⟨_, rfl⟩, kd_55.mpr ⟨_, rfl⟩, kd_56.mpr ⟨_, rfl⟩, kd_57.mpr ⟨_, rfl⟩, kd_58.mpr ⟨_, rfl⟩, kd_59.mpr ⟨_, rfl⟩, kd_60.mpr ⟨_, rfl⟩, kd_61.mpr ⟨_, rfl⟩, trivial⟩ (by decide) (by decide) (List.forall_mem_cons.mpr ⟨nf_i, (List.forall_mem_cons.mpr ⟨nf_n, (fun _ h => nomatch h)⟩)⟩) (List.forall_mem_cons.mpr ⟨⟨_, _, hc96_11, hA.at (q0 := 11) rfl, Or.inl rfl⟩, (List.forall_mem_cons.mpr ⟨⟨_, _, hw_n, hA.at (q0 := 12) rfl, Or.inl rfl⟩, (fun _ h => nomatch h)⟩)⟩) (fun _ _ _ _ h => h) (fun h => h)).2.1.1 5 (by decide)).ob) ln_Mm_219 w_im_AL_add_0 w_se_AL_add_0 ok_Mm_pour_AL_add_0 d_Mm_pour_473 (fun wA hA => Q_add ((hI.gen (t2 := t) (is := [52, 63, 64, 54, 55, 56, 57, 58, 59, 60, 61]) (L2 := [(u.2.2 3 0), (u.2.2 4 0)]) hA rfl ⟨kd_52.mpr ⟨_, _, _, _, _, _, _, _, _, _, _, _, rfl⟩, kd_63.mpr ⟨_, rfl⟩, kd_64.mpr ⟨_, rfl⟩, kd_54.mpr ⟨_, rfl⟩, kd_55.mpr ⟨_, rfl⟩, kd_56.mpr ⟨_, rfl⟩, kd_57.mpr ⟨_, rfl⟩, kd_58.mpr ⟨_, rfl⟩, kd_59.mpr ⟨_, rfl⟩, kd_60.mpr ⟨_, rfl⟩, kd_61.mpr ⟨_, rfl⟩, trivial⟩ (by decide) (by decide) (List.forall_mem_cons.mpr ⟨nf_i, (List.forall_mem_cons.mpr ⟨nf_n, (fun _ h => nomatch h)⟩)⟩) (List.forall_mem_cons.mpr ⟨⟨_, _, hc96_11, hA.at (q0 := 11) rfl, Or.inl rfl⟩, (List.forall_mem_cons.mpr ⟨⟨_, _, hw_n, hA.at (q0 := 12) rfl, Or.inl rfl⟩, (fun _ h => nomatch h)⟩)⟩) (fun _ _ _ _ h => h) (fun h => h)).2.1.1 5 (by decide)) (fun k hk => ((hI.gen (t2 := t) (is := [52, 63, 64, 54, 55, 56, 57, 58, 59, 60, 61]) (L2 := [(u.2.2 3 0), (u.2.2 4 0)]) hA rfl ⟨kd_52.mpr ⟨_, _, _, _, _, _, _, _, _, _, _, _, rfl⟩, kd_63.mpr ⟨_, rfl⟩, kd_64.mpr ⟨_, rfl⟩, kd_54.mpr ⟨_, rfl⟩, kd_55.mpr ⟨_, rfl⟩, kd_56.mpr ⟨_, rfl⟩, kd_57.mpr ⟨_, rfl⟩, kd_58.mpr ⟨_, rfl⟩, kd_59.mpr ⟨_, rfl⟩, kd_60.mpr ⟨_, rfl⟩, kd_61.mpr ⟨_, rfl⟩, trivial⟩ (by decide) (by decide) (List.forall_mem_cons.mpr ⟨nf_i, (List.forall_mem_cons.mpr ⟨nf_n, (fun _ h => nomatch h)⟩)⟩) (List.forall_mem_cons.mpr ⟨⟨_, _, hc96_11, hA.at (q0 := 11) rfl, Or.inl rfl⟩, (List.forall_mem_cons.mpr ⟨⟨_, _, hw_n, hA.at (q0 := 12) rfl, Or.inl rfl⟩, (fun _ h => nomatch h)⟩)⟩) (fun _ _ _ _ h => h) (fun h => h)).2.1.2.1 5 (by decide) k hk).elt5) (EL.elt5 ((⟨hI.1.nfr (hA.nw (k := 13) rfl (Nat.le_of_ble_eq_true rfl)), _, hA.at (q0 := 13) rfl, hT⟩ : EL ad 5 _ _))) (by have h9 : u.1 5 ≤ 30 := hsz0.2.2.2.2.2.1; show u.1 5 < 33; omega)) rfl rfl (Nat.le_of_ble_eq_true rfl) (by omega) (by omega) (fun wA473 hA473 E wB473 hx => ?_) (fun wA473 hA473 v wB473 hx => ?_)
                                · exact absurd hx.1 (by simp)
                                · obtain ⟨e1, bk9, e2, e3, e4⟩ := hx
                                  cases e1
                                  refine yw_st (st2 := [.int 1]) rfl ?_
                                  have hsz := (hI.gen (t2 := t) (is := [52, 63, 64, 54, 55, 56, 57, 58, 59, 60, 61]) (L2 := [(u.2.2 3 0), (u.2.2 4 0)]) hA473 rfl ⟨kd_52.mpr ⟨_, _, _, _, _, _, _, _, _, _, _, _, rfl⟩, kd_63.mpr ⟨_, rfl⟩, kd_64.mpr ⟨_, rfl⟩, kd_54.mpr ⟨_, rfl⟩, kd_55.mpr ⟨_, rfl⟩, kd_56.mpr ⟨_, rfl⟩, kd_57.mpr ⟨_, rfl⟩, kd_58.mpr ⟨_, rfl⟩, kd_59.mpr ⟨_, rfl⟩, kd_60.mpr ⟨_, rfl⟩, kd_61.mpr ⟨_, rfl⟩, trivial⟩ (by decide) (by decide) (List.forall_mem_cons.mpr ⟨nf_i, (List.forall_mem_cons.mpr ⟨nf_n, (fun _ h => nomatch h)⟩)⟩) (List.forall_mem_cons.mpr ⟨⟨_, _, hc96_11, hA473.at (q0 := 11) rfl, Or.inl rfl⟩, (List.forall_mem_cons.mpr ⟨⟨_, _, hw_n, hA473.at (q0 := 12) rfl, Or.inl rfl⟩, (fun _ h => nomatch h)⟩)⟩) (fun _ _ _ _ h => h) (fun h => h)).sz
                                  have hI8 := (hI.gen (t2 := t) (is := [52, 63, 64, 54, 55, 56, 57, 58, 59, 60, 61]) (L2 := [(u.2.2 3 0), (u.2.2 4 0)]) hA473 rfl ⟨kd_52.mpr ⟨_, _, _, _, _, _, _, _, _, _, _, _, rfl⟩, kd_63.mpr ⟨_, rfl⟩, kd_64.mpr ⟨_, rfl⟩, kd_54.mpr ⟨_, rfl⟩, kd_55.mpr ⟨_, rfl⟩, kd_56.mpr ⟨_, rfl⟩, kd_57.mpr ⟨_, rfl⟩, kd_58.mpr ⟨_, rfl⟩, kd_59.mpr ⟨_, rfl⟩, kd_60.mpr ⟨_, rfl⟩, kd_61.mpr ⟨_, rfl⟩, trivial⟩ (by decide) (by decide) (List.forall_mem_cons.mpr ⟨nf_i, (List.forall_mem_cons.mpr ⟨nf_n, (fun _ h => nomatch h)⟩)⟩) (List.forall_mem_cons.mpr ⟨⟨_, _, hc96_11, hA473.at (q0 := 11) rfl, Or.inl rfl⟩, (List.forall_mem_cons.mpr ⟨⟨_, _, hw_n, hA473.at (q0 := 12) rfl, Or.inl rfl⟩, (fun _ h => nomatch h)⟩)⟩) (fun _ _ _ _ h => h) (fun h => h)).iw
                                  have hE8 := (⟨hI.1.nfr (hA473.nw (k := 13) rfl (Nat.le_of_ble_eq_true rfl)), _, hA473.at (q0 := 13) rfl, hT⟩ : EL ad 5 _ _)
                                  have nf_q129 := hI.1.nfr (hA473.nw (k := 14) rfl (Nat.le_of_ble_eq_true rfl))
                                  obtain ⟨fx_q129, hc473_14⟩ : ∃ fx_q129 : Nat → Int64, wB473 q129 = some (.inl (3, 4, .inr (.inl fx_q129))) := ⟨_, hI8.kp (L := 5) (by decide) nf_q129 (hA473.at (q0 := 14) rfl) (Or.inr (show (3 : Nat) < 5 by decide)) e4⟩
                                  have hI := hI8.app (L := 5) (by decide) hE8 e2 e3 e4
                                  obtain ⟨e_m, wf_m, k_m⟩ := hI.1.2 52 (by decide)
                                  obtain ⟨v_m_th, v_m_cl, v_m_wa, v_m_co_, v_m_fi, v_m_bu, v_m_ho, v_m_lh, v_m_mg, v_m_wd, v_m_po, v_m_de, rfl⟩ := kd_52.mp k_m
                                  refine y_base (cs := [((ad 52), .inr (12, [.int v_m_th, .ref (ad 53), .int (nI t.2.2.2.1), .ref (ad 54), .ref (ad 55), .ref (ad 56), .ref (ad 57), .ref (ad 58), .ref (ad 59), .ref (ad 60), .ref (ad 61), .int v_m_cl, .int v_m_wa, .int v_m_co_, .int v_m_fi, .int v_m_bu, .int v_m_ho, .ref (ad 62), .ref (ad 63), .ref (ad 64), .int v_m_lh, .int v_m_mg, .int v_m_wd, .int (t.2.2.2.2 3), .int (t.2.2.2.2 4), .ref (ad 65), .ref (ad 66), .ref (ad 67), .ref (ad 68), .long v_m_po, .long v_m_de])), (q129, .inl (3, 4, .inr (.inl fx_q129)))]) (hI.1.B [52] [((ad 52), .inr (12, [.int v_m_th, .ref (ad 53), .int (nI t.2.2.2.1), .ref (ad 54), .ref (ad 55), .ref (ad 56), .ref (ad 57), .ref (ad 58), .ref (ad 59), .ref (ad 60), .ref (ad 61), .int v_m_cl, .int v_m_wa, .int v_m_co_, .int v_m_fi, .int v_m_bu, .int v_m_ho, .ref (ad 62), .ref (ad 63), .ref (ad 64), .int v_m_lh, .int v_m_mg, .int v_m_wd, .int (t.2.2.2.2 3), .int (t.2.2.2.2 4), .ref (ad 65), .ref (ad 66), .ref (ad 67), .ref (ad 68), .long v_m_po, .long v_m_de]))] [(q129, .inl (3, 4, .inr (.inl fx_q129)))] rfl (by decide) (by decide) (List.forall_mem_cons.mpr ⟨wf_m, (fun _ h => nomatch h)⟩) (List.forall_mem_cons.mpr ⟨hc473_14, (fun _ h => nomatch h)⟩) (List.forall_mem_cons.mpr ⟨nf_q129, (fun _ h => nomatch h)⟩) (by simp [z_kd])) ?_
                                  refine y_pop d_Mm_pour_476 rfl ?_
                                  refine y_aload_n d_Mm_pour_477 rfl 3 rfl ?_
                                  refine y_get fs_Mm_81 d_Mm_pour_478 (q0 := 0) rfl rfl ?_
                                  refine y_aload d_Mm_pour_481 1 rfl ?_
                                  refine yw_callVL (As := [.ref q129]) (rest := []) (ci := 13) rfl (fun wA hA => ((hI.gen (t2 := t) (is := [52]) (L2 := [q129]) hA rfl ⟨kd_52.mpr ⟨_, _, _, _, _, _, _, _, _, _, _, _, rfl⟩, trivial⟩ (by decide) (by decide) (List.forall_mem_cons.mpr ⟨nf_q129, (fun _ h => nomatch h)⟩) (List.forall_mem_cons.mpr ⟨⟨_, _, hc473_14, hA.at (q0 := 1) rfl, Or.inl rfl⟩, (fun _ h => nomatch h)⟩) (fun _ _ _ _ h => h) (fun h => h)).2.1.1 6 (by decide)).ob) ln_Mm_219 w_im_AL_add_0 w_se_AL_add_0 ok_Mm_pour_AL_add_0 d_Mm_pour_483 (fun wA hA => Q_add ((hI.gen (t2 := t) (is := [52]) (L2 := [q129]) hA rfl ⟨kd_52.mpr ⟨_, _, _, _, _, _, _, _, _, _, _, _, rfl⟩, trivial⟩ (by decide) (by decide) (List.forall_mem_cons.mpr ⟨nf_q129, (fun _ h => nomatch h)⟩) (List.forall_mem_cons.mpr ⟨⟨_, _, hc473_14, hA.at (q0 := 1) rfl, Or.inl rfl⟩, (fun _ h => nomatch h)⟩) (fun _ _ _ _ h => h) (fun h => h)).2.1.1 6 (by decide)) (fun k hk => ((hI.gen (t2 := t) (is := [52]) (L2 := [q129]) hA rfl ⟨kd_52.mpr ⟨_, _, _, _, _, _, _, _, _, _, _, _, rfl⟩, trivial⟩ (by decide) (by decide) (List.forall_mem_cons.mpr ⟨nf_q129, (fun _ h => nomatch h)⟩) (List.forall_mem_cons.mpr ⟨⟨_, _, hc473_14, hA.at (q0 := 1) rfl, Or.inl rfl⟩, (fun _ h => nomatch h)⟩) (fun _ _ _ _ h => h) (fun h => h)).2.1.2.1 6 (by decide) k hk).elt6) (EL.elt6 ((⟨nf_q129, _, hA.at (q0 := 1) rfl⟩ : EL ad 6 _ _))) (by have h9 : u.1 5 ≤ 30 := hsz0.2.2.2.2.2.1; have h8 : u.1 6 = u.1 5 := hsz0.2.2.2.2.2.2; show u.1 6 < 33; omega)) rfl rfl (Nat.le_of_ble_eq_true rfl) (by omega) (by omega) (fun wA483 hA483 E wB483 hx => ?_) (fun wA483 hA483 v wB483 hx => ?_)
                                  · exact absurd hx.1 (by simp)
                                  · obtain ⟨e1, bk9, e2, e3, e4⟩ := hx
                                    cases e1
                                    refine yw_st (st2 := [.int 1]) rfl ?_
                                    have hI8 := (hI.gen (t2 := t) (is := [52]) (L2 := [q129]) hA483 rfl ⟨kd_52.mpr ⟨_, _, _, _, _, _, _, _, _, _, _, _, rfl⟩, trivial⟩ (by decide) (by decide) (List.forall_mem_cons.mpr ⟨nf_q129, (fun _ h => nomatch h)⟩) (List.forall_mem_cons.mpr ⟨⟨_, _, hc473_14, hA483.at (q0 := 1) rfl, Or.inl rfl⟩, (fun _ h => nomatch h)⟩) (fun _ _ _ _ h => h) (fun h => h))
                                    have hE8 := (⟨nf_q129, _, hA483.at (q0 := 1) rfl⟩ : EL ad 6 _ _)
                                    have hI := (hI8.app (L := 6) (by decide) hE8 e2 e3 e4).iv (hsz.s56 (by have h1 : u.1 5 ≤ 30 := hsz0.2.2.2.2.2.1; have h2 : ¬ u.1 5 = 30 := (fun q => c_62 (by rw [q]; rfl)); show u.1 5 + 1 ≤ 30; omega) (by have h8 : u.1 6 = u.1 5 := hsz0.2.2.2.2.2.2; show u.1 6 + 1 = u.1 5 + 1; omega))
                                    obtain ⟨e_m, wf_m, k_m⟩ := hI.1.2 52 (by decide)
                                    obtain ⟨v_m_th, v_m_cl, v_m_wa, v_m_co_, v_m_fi, v_m_bu, v_m_ho, v_m_lh, v_m_mg, v_m_wd, v_m_po, v_m_de, rfl⟩ := kd_52.mp k_m
                                    refine y_base (cs := [((ad 52), .inr (12, [.int v_m_th, .ref (ad 53), .int (nI t.2.2.2.1), .ref (ad 54), .ref (ad 55), .ref (ad 56), .ref (ad 57), .ref (ad 58), .ref (ad 59), .ref (ad 60), .ref (ad 61), .int v_m_cl, .int v_m_wa, .int v_m_co_, .int v_m_fi, .int v_m_bu, .int v_m_ho, .ref (ad 62), .ref (ad 63), .ref (ad 64), .int v_m_lh, .int v_m_mg, .int v_m_wd, .int (t.2.2.2.2 3), .int (t.2.2.2.2 4), .ref (ad 65), .ref (ad 66), .ref (ad 67), .ref (ad 68), .long v_m_po, .long v_m_de]))]) (hI.1.B [52] [((ad 52), .inr (12, [.int v_m_th, .ref (ad 53), .int (nI t.2.2.2.1), .ref (ad 54), .ref (ad 55), .ref (ad 56), .ref (ad 57), .ref (ad 58), .ref (ad 59), .ref (ad 60), .ref (ad 61), .int v_m_cl, .int v_m_wa, .int v_m_co_, .int v_m_fi, .int v_m_bu, .int v_m_ho, .ref (ad 62), .ref (ad 63), .ref (ad 64), .int v_m_lh, .int v_m_mg, .int v_m_wd, .int (t.2.2.2.2 3), .int (t.2.2.2.2 4), .ref (ad 65), .ref (ad 66), .ref (ad 67), .ref (ad 68), .long v_m_po, .long v_m_de]))] [] rfl (by decide) (by decide) (List.forall_mem_cons.mpr ⟨wf_m, (fun _ h => nomatch h)⟩) (fun _ h => nomatch h) (fun _ h => nomatch h) (by simp [z_kd])) ?_
                                    refine y_pop d_Mm_pour_486 rfl ?_
                                    refine y_aload_n d_Mm_pour_487 rfl 3 rfl ?_
                                    refine y_get fs_Mm_78 d_Mm_pour_488 (q0 := 0) rfl rfl ?_
                                    refine yw_callVL (As := []) (rest := []) (ci := 13) rfl (fun wA hA => ((hI.gen (t2 := t) (is := [52]) (L2 := []) hA rfl ⟨kd_52.mpr ⟨_, _, _, _, _, _, _, _, _, _, _, _, rfl⟩, trivial⟩ (by decide) (by decide) (fun _ h => nomatch h) (fun _ h => nomatch h) (fun _ _ _ _ h => h) (fun h => h)).2.1.1 5 (by decide)).ob) ln_Mm_208 w_im_AL_size w_se_AL_size ok_Mm_pour_AL_size d_Mm_pour_491 (fun wA hA => Q_size ((hI.gen (t2 := t) (is := [52]) (L2 := []) hA rfl ⟨kd_52.mpr ⟨_, _, _, _, _, _, _, _, _, _, _, _, rfl⟩, trivial⟩ (by decide) (by decide) (fun _ h => nomatch h) (fun _ h => nomatch h) (fun _ _ _ _ h => h) (fun h => h)).2.1.1 5 (by decide))) rfl rfl (Nat.le_of_ble_eq_true rfl) (by omega) (by omega) (fun wA491 hA491 E wB491 hx => ?_) (fun wA491 hA491 v wB491 hx => ?_)
                                    · exact absurd hx.1 (by simp)
                                    · obtain ⟨e1, e2⟩ := hx
                                      generalize nI _ = s5 at e1
                                      cases e1
                                      refine yw_st (st2 := [.int s5]) rfl ?_
                                      subst e2
                                      refine y_go hA491 ?_
                                      refine y_iconst d_Mm_pour_494 (v := 1) (by decide) ?_
                                      refine y_isub d_Mm_pour_495 (v := s5 - 1) rfl ?_
                                      refine y_iret d_Mm_pour_496 rfl rfl ?_
                                      exact fun w1 h1 => ⟨⟨_, rfl⟩, ⟨_, (hI.gen (t2 := t) (is := [52]) (L2 := []) h1 rfl ⟨kd_52.mpr ⟨_, _, _, _, _, _, _, _, _, _, _, _, rfl⟩, trivial⟩ (by decide) (by decide) (fun _ h => nomatch h) (fun _ h => nomatch h) (fun _ _ _ _ h => h) (fun h => h))⟩⟩
                      · exact absurd c_74 (by decide)
                  · refine y_iconst d_Mm_pour_65 (v := 1) (by decide) ?_
                    refine y_goto (tgt := 70) d_Mm_pour_66 (by decide) ?_
                    refine y_iconst d_Mm_pour_70 (v := 3) (by decide) ?_
                    refine y_callV (As := [.int 1, .int 3]) (rest := []) (csC := [((ad 52), .inr (12, [.int 0, .ref (ad 53), .int (nI t.2.2.2.1), .ref (ad 54), .ref (ad 55), .ref (ad 56), .ref (ad 57), .ref (ad 58), .ref (ad 59), .ref (ad 60), .ref (ad 61), .int v_m_cl, .int v_m_wa, .int v_m_co_, .int v_m_fi, .int v_m_bu, .int v_m_ho, .ref (ad 62), .ref (ad 63), .ref (ad 64), .int v_m_lh, .int v_m_mg, .int v_m_wd, .int (t.2.2.2.2 3), .int (t.2.2.2.2 4), .ref (ad 65), .ref (ad 66), .ref (ad 67), .ref (ad 68), .long v_m_po, .long v_m_de]))]) (is := [0]) (q0 := 0) rfl rfl ln_Mm_103 w_im_Mm_fails w_se_Mm_fails ok_Mm_pour_Mm_fails d_Mm_pour_71 (C_Mm_fails3 g (ad 52) (ad 53) (ad 54) (ad 55) (ad 56) (ad 57) (ad 58) (ad 59) (ad 60) (ad 61) (ad 62) (ad 63) (ad 64) (ad 65) (ad 66) (ad 67) (ad 68) 0 (nI t.2.2.2.1) v_m_cl v_m_wa v_m_co_ v_m_fi v_m_bu v_m_ho v_m_lh v_m_mg v_m_wd (t.2.2.2.2 3) (t.2.2.2.2 4) v_m_po v_m_de) rfl rfl (Nat.le_of_ble_eq_true rfl) rfl (by decide) (by omega) (by omega) (fun E cs1 hx => ?_) (fun v cs1 hx => ?_)
                    · exact absurd hx.1 (by simp)
                    · obtain ⟨e1, rfl⟩ := hx
                      cases e1
                      refine ⟨rfl, ?_⟩
                      refine y_st (st2 := [.int 1]) rfl ?_
                      refine y_cs (cs2 := [((ad 52), .inr (12, [.int 3, .ref (ad 53), .int (nI t.2.2.2.1), .ref (ad 54), .ref (ad 55), .ref (ad 56), .ref (ad 57), .ref (ad 58), .ref (ad 59), .ref (ad 60), .ref (ad 61), .int v_m_cl, .int v_m_wa, .int v_m_co_, .int v_m_fi, .int v_m_bu, .int v_m_ho, .ref (ad 62), .ref (ad 63), .ref (ad 64), .int v_m_lh, .int v_m_mg, .int v_m_wd, .int (t.2.2.2.2 3), .int (t.2.2.2.2 4), .ref (ad 65), .ref (ad 66), .ref (ad 67), .ref (ad 68), .long v_m_po, .long v_m_de])), ((ad 63), .inl (0, 4, .inl v_mi_f)), ((ad 64), .inl (3, 16, .inr (.inl v_mr_f))), ((ad 54), .inl (0, 108, .inl v_mf_f)), ((ad 55), .inl (0, 108, .inl v_mh_f)), ((ad 56), .inl (0, 108, .inl v_mn_f)), ((ad 57), .inl (0, 108, .inl v_mt_f)), ((ad 58), .inl (0, 108, .inl v_mz_f)), ((ad 59), .inl (2, 108, .inl v_mc__f)), ((ad 60), .inl (0, 108, .inl (fun k => nI (v_mq_h k)))), ((ad 61), .inl (0, 108, .inl v_mgr_f))]) rfl ?_
                      refine y_if_eq (tgt := 79) d_Mm_pour_74 (by decide) (fun c_74 => ?_) (fun c_74 => ?_)
                      · exact absurd c_74 (by decide)
                      · refine y_iconst d_Mm_pour_77 (v := 0) (by decide) ?_
                        refine y_iret d_Mm_pour_78 rfl rfl ?_
                        exact fun w1 h1 => ⟨⟨_, rfl⟩, ⟨_, (hI.gen (t2 := t) (is := [52, 63, 64, 54, 55, 56, 57, 58, 59, 60, 61]) (L2 := []) h1 rfl ⟨kd_52.mpr ⟨_, _, _, _, _, _, _, _, _, _, _, _, rfl⟩, kd_63.mpr ⟨_, rfl⟩, kd_64.mpr ⟨_, rfl⟩, kd_54.mpr ⟨_, rfl⟩, kd_55.mpr ⟨_, rfl⟩, kd_56.mpr ⟨_, rfl⟩, kd_57.mpr ⟨_, rfl⟩, kd_58.mpr ⟨_, rfl⟩, kd_59.mpr ⟨_, rfl⟩, kd_60.mpr ⟨_, rfl⟩, kd_61.mpr ⟨_, rfl⟩, trivial⟩ (by decide) (by decide) (fun _ h => nomatch h) (fun _ h => nomatch h) (fun _ _ _ _ h => h) (fun h => h))⟩⟩
          · refine y_iconst d_Mm_pour_40 (v := 1) (by decide) ?_
            refine y_goto (tgt := 45) d_Mm_pour_41 (by decide) ?_
            refine y_iconst d_Mm_pour_45 (v := 2) (by decide) ?_
            refine y_callV (As := [.int 1, .int 2]) (rest := []) (csC := [((ad 52), .inr (12, [.int 0, .ref (ad 53), .int (nI t.2.2.2.1), .ref (ad 54), .ref (ad 55), .ref (ad 56), .ref (ad 57), .ref (ad 58), .ref (ad 59), .ref (ad 60), .ref (ad 61), .int v_m_cl, .int v_m_wa, .int v_m_co_, .int v_m_fi, .int v_m_bu, .int v_m_ho, .ref (ad 62), .ref (ad 63), .ref (ad 64), .int v_m_lh, .int v_m_mg, .int v_m_wd, .int (t.2.2.2.2 3), .int (t.2.2.2.2 4), .ref (ad 65), .ref (ad 66), .ref (ad 67), .ref (ad 68), .long v_m_po, .long v_m_de]))]) (is := [0]) (q0 := 0) rfl rfl ln_Mm_103 w_im_Mm_fails w_se_Mm_fails ok_Mm_pour_Mm_fails d_Mm_pour_46 (C_Mm_fails2 g (ad 52) (ad 53) (ad 54) (ad 55) (ad 56) (ad 57) (ad 58) (ad 59) (ad 60) (ad 61) (ad 62) (ad 63) (ad 64) (ad 65) (ad 66) (ad 67) (ad 68) 0 (nI t.2.2.2.1) v_m_cl v_m_wa v_m_co_ v_m_fi v_m_bu v_m_ho v_m_lh v_m_mg v_m_wd (t.2.2.2.2 3) (t.2.2.2.2 4) v_m_po v_m_de) rfl rfl (Nat.le_of_ble_eq_true rfl) rfl (by decide) (by omega) (by omega) (fun E cs1 hx => ?_) (fun v cs1 hx => ?_)
            · exact absurd hx.1 (by simp)
            · obtain ⟨e1, rfl⟩ := hx
              cases e1
              refine ⟨rfl, ?_⟩
              refine y_st (st2 := [.int 1]) rfl ?_
              refine y_cs (cs2 := [((ad 52), .inr (12, [.int 2, .ref (ad 53), .int (nI t.2.2.2.1), .ref (ad 54), .ref (ad 55), .ref (ad 56), .ref (ad 57), .ref (ad 58), .ref (ad 59), .ref (ad 60), .ref (ad 61), .int v_m_cl, .int v_m_wa, .int v_m_co_, .int v_m_fi, .int v_m_bu, .int v_m_ho, .ref (ad 62), .ref (ad 63), .ref (ad 64), .int v_m_lh, .int v_m_mg, .int v_m_wd, .int (t.2.2.2.2 3), .int (t.2.2.2.2 4), .ref (ad 65), .ref (ad 66), .ref (ad 67), .ref (ad 68), .long v_m_po, .long v_m_de])), ((ad 63), .inl (0, 4, .inl v_mi_f)), ((ad 64), .inl (3, 16, .inr (.inl v_mr_f))), ((ad 54), .inl (0, 108, .inl v_mf_f)), ((ad 55), .inl (0, 108, .inl v_mh_f)), ((ad 56), .inl (0, 108, .inl v_mn_f)), ((ad 57), .inl (0, 108, .inl v_mt_f)), ((ad 58), .inl (0, 108, .inl v_mz_f)), ((ad 59), .inl (2, 108, .inl v_mc__f)), ((ad 60), .inl (0, 108, .inl (fun k => nI (v_mq_h k)))), ((ad 61), .inl (0, 108, .inl v_mgr_f))]) rfl ?_
              refine y_if_ne (tgt := 77) d_Mm_pour_49 (by decide) (fun c_49 => ?_) (fun c_49 => ?_)
              · refine y_iconst d_Mm_pour_77 (v := 0) (by decide) ?_
                refine y_iret d_Mm_pour_78 rfl rfl ?_
                exact fun w1 h1 => ⟨⟨_, rfl⟩, ⟨_, (hI.gen (t2 := t) (is := [52, 63, 64, 54, 55, 56, 57, 58, 59, 60, 61]) (L2 := []) h1 rfl ⟨kd_52.mpr ⟨_, _, _, _, _, _, _, _, _, _, _, _, rfl⟩, kd_63.mpr ⟨_, rfl⟩, kd_64.mpr ⟨_, rfl⟩, kd_54.mpr ⟨_, rfl⟩, kd_55.mpr ⟨_, rfl⟩, kd_56.mpr ⟨_, rfl⟩, kd_57.mpr ⟨_, rfl⟩, kd_58.mpr ⟨_, rfl⟩, kd_59.mpr ⟨_, rfl⟩, kd_60.mpr ⟨_, rfl⟩, kd_61.mpr ⟨_, rfl⟩, trivial⟩ (by decide) (by decide) (fun _ h => nomatch h) (fun _ h => nomatch h) (fun _ _ _ _ h => h) (fun h => h))⟩⟩
              · exact absurd c_49 (by decide)
