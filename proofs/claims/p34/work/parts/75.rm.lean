theorem cnt_pos {f : Nat → Int32} (h : ¬ fa_cnt (fun k => decide (f k = 103)) 12 = 0) : ¬ fa_cnt (fun k => tmB (f k)) 108 = 0 := fun q => h (by
  have key : ∀ n, fa_cnt (fun k => tmB (f k)) n = 0 → ∀ k, k < n → tmB (f k) = false := by
    intro n
    induction n with
    | zero => intro _ k hk; omega
    | succ n ih =>
      intro e k hk
      rw [fa_cnt] at e
      by_cases hb : tmB (f n) = true
      · rw [if_pos hb] at e; omega
      · rw [if_neg hb] at e
        by_cases hkn : k = n
        · subst hkn; simpa using hb
        · exact ih (by omega) k (by omega)
  have k2 : ∀ n, n ≤ 12 → fa_cnt (fun k => decide (f k = 103)) n = 0 := by
    intro n
    induction n with
    | zero => intro _; rfl
    | succ n ih =>
      intro hn
      have e1 := key 108 q n (by omega)
      rw [fa_cnt, if_neg (fun e2 => ?_), ih (by omega)]
      rw [show f n = 103 from of_decide_eq_true e2] at e1
      exact absurd e1 (by decide)
  exact k2 12 (Nat.le_refl _))
theorem min_ne {x y : Int32} (hx : ¬ x = 0) (hy : ¬ y = 0) : ¬ (if x < y then x else y) = 0 := by
  split
  · exact hx
  · exact hy
theorem d_Mm_mould_99 : decode prog_14_method_74_code 99 = .ok (.iload_n 3, 1) := by decide +kernel
theorem d_Mm_mould_100 : decode prog_14_method_74_code 100 = .ok (.bipush 108, 2) := by decide +kernel
theorem d_Mm_mould_102 : decode prog_14_method_74_code 102 = .ok (.if_icmp .ge 18, 3) := by decide +kernel
theorem d_Mm_mould_105 : decode prog_14_method_74_code 105 = .ok (.aload_n 2, 1) := by decide +kernel
theorem d_Mm_mould_106 : decode prog_14_method_74_code 106 = .ok (.iload_n 3, 1) := by decide +kernel
theorem d_Mm_mould_107 : decode prog_14_method_74_code 107 = .ok (.aload_n 0, 1) := by decide +kernel
theorem d_Mm_mould_108 : decode prog_14_method_74_code 108 = .ok (.getfield 7, 3) := by decide +kernel
theorem d_Mm_mould_111 : decode prog_14_method_74_code 111 = .ok (.iload_n 3, 1) := by decide +kernel
theorem d_Mm_mould_112 : decode prog_14_method_74_code 112 = .ok (.caload, 1) := by decide +kernel
theorem d_Mm_mould_113 : decode prog_14_method_74_code 113 = .ok (.castore, 1) := by decide +kernel
theorem d_Mm_mould_114 : decode prog_14_method_74_code 114 = .ok (.iinc 3 1, 3) := by decide +kernel
theorem d_Mm_mould_117 : decode prog_14_method_74_code 117 = .ok (.goto (-18), 3) := by decide +kernel
set_option maxHeartbeats 4000000 in
set_option maxRecDepth 100000 in
theorem LK_mould (g : zG) {Ψ : zO → zW → Prop} {w0 : zW} {n kc ks : Nat} {ad : Nat → Nat} {t : zTT} (v_m_cl v_m_wa v_m_co_ v_m_fi v_m_bu v_m_ho v_m_lh v_m_mg v_m_wd : Int32) (v_m_po v_m_de : Int64) (gp9_10 : Nat → Int32) (qn9_10 : Nat → Nat) (nn9_10 q94 : Nat) (hf : z_ch t.2.1) (K : ∀ (_ : Unit), DU g M_Mm_mould Ψ w0 n 120 [(2, .ref q94), (1, .int (nI nn9_10)), (0, .ref (ad 52))] [] [((ad 52), .inr (12, [.int 0, .ref (ad 53), .int (nI t.2.2.2.1), .ref (ad 54), .ref (ad 55), .ref (ad 56), .ref (ad 57), .ref (ad 58), .ref (ad 59), .ref (ad 60), .ref (ad 61), .int v_m_cl, .int v_m_wa, .int v_m_co_, .int v_m_fi, .int v_m_bu, .int v_m_ho, .ref (ad 62), .ref (ad 63), .ref (ad 64), .int v_m_lh, .int v_m_mg, .int v_m_wd, .int (t.2.2.2.2 3), .int (t.2.2.2.2 4), .ref (ad 65), .ref (ad 66), .ref (ad 67), .ref (ad 68), .long v_m_po, .long v_m_de])), ((ad 53), .inl (1, 108, .inl t.2.1)), ((ad 61), .inl (0, 108, .inl gp9_10)), ((ad 60), .inl (0, 108, .inl (fun k => nI (qn9_10 k)))), (q94, .inl (1, 108, .inl (fa_fill t.2.1 (fun _ => 0) 108)))] kc ks) : ∀ (d i : Nat), i ≤ 108 → 108 < i + d → DU g M_Mm_mould Ψ w0 n 99 [(3, .int (nI i)), (2, .ref q94), (1, .int (nI nn9_10)), (0, .ref (ad 52))] [] [((ad 52), .inr (12, [.int 0, .ref (ad 53), .int (nI t.2.2.2.1), .ref (ad 54), .ref (ad 55), .ref (ad 56), .ref (ad 57), .ref (ad 58), .ref (ad 59), .ref (ad 60), .ref (ad 61), .int v_m_cl, .int v_m_wa, .int v_m_co_, .int v_m_fi, .int v_m_bu, .int v_m_ho, .ref (ad 62), .ref (ad 63), .ref (ad 64), .int v_m_lh, .int v_m_mg, .int v_m_wd, .int (t.2.2.2.2 3), .int (t.2.2.2.2 4), .ref (ad 65), .ref (ad 66), .ref (ad 67), .ref (ad 68), .long v_m_po, .long v_m_de])), ((ad 53), .inl (1, 108, .inl t.2.1)), ((ad 61), .inl (0, 108, .inl gp9_10)), ((ad 60), .inl (0, 108, .inl (fun k => nI (qn9_10 k)))), (q94, .inl (1, 108, .inl (fa_fill t.2.1 (fun _ => 0) i)))] kc ks := by
  intro d
  induction d with
  | zero => intro i  h1 h2; exact absurd h2 (by omega)
  | succ d ih =>
    intro i  h1 h2
    refine y_iload_n d_Mm_mould_99 rfl 0 rfl ?_
    refine y_bipush d_Mm_mould_100 (v := 108) (by decide) ?_
    refine y_icmp_ge (tgt := 120) d_Mm_mould_102 (by decide) (fun c_102 => ?_) (fun c_102 => ?_)
    · have hn := z_le (a := 108) (by omega) (by decide) c_102
      obtain rfl : i = 108 := by omega
      refine y_lv (lv' := [(2, .ref q94), (1, .int (nI nn9_10)), (0, .ref (ad 52))]) [1, 2, 3] rfl ?_
      exact K ()
    · have hn := z_nle (a := 108) (by omega) (by decide) c_102
      refine y_aload_n d_Mm_mould_105 rfl 1 rfl ?_
      refine y_iload_n d_Mm_mould_106 rfl 0 rfl ?_
      refine y_aload_n d_Mm_mould_107 rfl 3 rfl ?_
      refine y_get fs_Mm_7 d_Mm_mould_108 (q0 := 0) rfl rfl ?_
      refine y_iload_n d_Mm_mould_111 rfl 0 rfl ?_
      refine y_cald d_Mm_mould_112 (q0 := 1) rfl (vp_in_nI (by omega) (by omega)) (v := t.2.1 i) (by rw [nI_clamp (by omega)]) ?_
      refine y_cast d_Mm_mould_113 (q0 := 4) rfl (vp_in_nI (by omega) (by omega)) (f' := fa_fill t.2.1 (fun _ => 0) (i + 1)) (by rw [nI_clamp (by omega), z_narc (hf i (by omega))]; exact fa_fill_succ t.2.1 (fun _ => 0) i) (cs' := [((ad 52), .inr (12, [.int 0, .ref (ad 53), .int (nI t.2.2.2.1), .ref (ad 54), .ref (ad 55), .ref (ad 56), .ref (ad 57), .ref (ad 58), .ref (ad 59), .ref (ad 60), .ref (ad 61), .int v_m_cl, .int v_m_wa, .int v_m_co_, .int v_m_fi, .int v_m_bu, .int v_m_ho, .ref (ad 62), .ref (ad 63), .ref (ad 64), .int v_m_lh, .int v_m_mg, .int v_m_wd, .int (t.2.2.2.2 3), .int (t.2.2.2.2 4), .ref (ad 65), .ref (ad 66), .ref (ad 67), .ref (ad 68), .long v_m_po, .long v_m_de])), ((ad 53), .inl (1, 108, .inl t.2.1)), ((ad 61), .inl (0, 108, .inl gp9_10)), ((ad 60), .inl (0, 108, .inl (fun k => nI (qn9_10 k)))), (q94, .inl (1, 108, .inl (fa_fill t.2.1 (fun _ => 0) (i + 1))))]) rfl ?_
      refine y_iinc (lv' := [(3, .int (nI (i + 1))), (2, .ref q94), (1, .int (nI nn9_10)), (0, .ref (ad 52))]) (v := nI (i + 1)) d_Mm_mould_114 (j := 0) rfl (nI_add _ _) (by decide) rfl ?_
      refine y_goto (tgt := 99) d_Mm_mould_117 (by decide) ?_
      exact ih (i + 1)  (by omega) (by omega)
theorem d_Mm_mould_25 : decode prog_14_method_74_code 25 = .ok (.aload_n 0, 1) := by decide +kernel
theorem d_Mm_mould_26 : decode prog_14_method_74_code 26 = .ok (.invokevirtual 281, 3) := by decide +kernel
theorem ok_Mm_mould_Mm_hasCasting : z_ok M_Mm_mould M_Mm_hasCasting 0 := ⟨z_mem (i := 1964) (by decide +kernel) (by decide +kernel), rfl, ⟨by decide +kernel, by decide +kernel, by decide +kernel⟩, ⟨by decide, by decide⟩, z_mem (i := 71) (by decide +kernel) (by decide +kernel), rfl⟩
theorem ln_Mm_281 : Cond.methodLink "IronpourModel" 281 M_Mm_hasCasting.1 ∈ z_gw := z_mem (i := 1961) (by decide +kernel) (by decide +kernel)
theorem w_im_Mm_hasCasting : Cond.instanceMethod M_Mm_hasCasting.1 ∈ z_gw := z_mem (i := 1963) (by decide +kernel) (by decide +kernel)
theorem w_se_Mm_hasCasting : Cond.selects M_Mm_hasCasting.1.cls M_Mm_hasCasting.1 M_Mm_hasCasting.1 ∈ z_gw := z_mem (i := 50) (by decide +kernel) (by decide +kernel)
theorem d_Mm_mould_29 : decode prog_14_method_74_code 29 = .ok (.ifCond .ne 7, 3) := by decide +kernel
theorem d_Mm_mould_36 : decode prog_14_method_74_code 36 = .ok (.iconst 0, 1) := by decide +kernel
theorem d_Mm_mould_44 : decode prog_14_method_74_code 44 = .ok (.aload_n 0, 1) := by decide +kernel
theorem d_Mm_mould_45 : decode prog_14_method_74_code 45 = .ok (.iload_n 1, 1) := by decide +kernel
theorem d_Mm_mould_46 : decode prog_14_method_74_code 46 = .ok (.aload_n 0, 1) := by decide +kernel
theorem d_Mm_mould_47 : decode prog_14_method_74_code 47 = .ok (.invokevirtual 226, 3) := by decide +kernel
theorem ok_Mm_mould_Mm_good : z_ok M_Mm_mould M_Mm_good 0 := ⟨z_mem (i := 1876) (by decide +kernel) (by decide +kernel), rfl, ⟨by decide +kernel, by decide +kernel, by decide +kernel⟩, ⟨by decide, by decide⟩, z_mem (i := 71) (by decide +kernel) (by decide +kernel), rfl⟩
theorem d_Mm_mould_50 : decode prog_14_method_74_code 50 = .ok (.if_icmp .le 7, 3) := by decide +kernel
theorem d_Mm_mould_57 : decode prog_14_method_74_code 57 = .ok (.iconst 0, 1) := by decide +kernel
theorem d_Mm_mould_58 : decode prog_14_method_74_code 58 = .ok (.iconst 2, 1) := by decide +kernel
theorem d_Mm_mould_59 : decode prog_14_method_74_code 59 = .ok (.invokevirtual 103, 3) := by decide +kernel
theorem d_Mm_mould_62 : decode prog_14_method_74_code 62 = .ok (.ifCond .ne 28, 3) := by decide +kernel
theorem d_Mm_mould_65 : decode prog_14_method_74_code 65 = .ok (.aload_n 0, 1) := by decide +kernel
theorem d_Mm_mould_66 : decode prog_14_method_74_code 66 = .ok (.aload_n 0, 1) := by decide +kernel
theorem d_Mm_mould_67 : decode prog_14_method_74_code 67 = .ok (.getfield 72, 3) := by decide +kernel
theorem d_Mm_mould_70 : decode prog_14_method_74_code 70 = .ok (.invokevirtual 208, 3) := by decide +kernel
theorem ok_Mm_mould_AL_size : z_ok M_Mm_mould M_AL_size 0 := ⟨z_mem (i := 469) (by decide +kernel) (by decide +kernel), rfl, ⟨by decide +kernel, by decide +kernel, by decide +kernel⟩, ⟨by decide, by decide⟩, z_mem (i := 70) (by decide +kernel) (by decide +kernel), rfl⟩
theorem d_Mm_mould_73 : decode prog_14_method_74_code 73 = .ok (.bipush 10, 2) := by decide +kernel
theorem d_Mm_mould_75 : decode prog_14_method_74_code 75 = .ok (.if_icmp .ne 7, 3) := by decide +kernel
theorem d_Mm_mould_82 : decode prog_14_method_74_code 82 = .ok (.iconst 0, 1) := by decide +kernel
theorem d_Mm_mould_83 : decode prog_14_method_74_code 83 = .ok (.iconst 3, 1) := by decide +kernel
theorem d_Mm_mould_84 : decode prog_14_method_74_code 84 = .ok (.invokevirtual 103, 3) := by decide +kernel
theorem d_Mm_mould_87 : decode prog_14_method_74_code 87 = .ok (.ifCond .eq 5, 3) := by decide +kernel
theorem d_Mm_mould_92 : decode prog_14_method_74_code 92 = .ok (.bipush 108, 2) := by decide +kernel
theorem d_Mm_mould_94 : decode prog_14_method_74_code 94 = .ok (.newarray .char, 2) := by decide +kernel
theorem d_Mm_mould_96 : decode prog_14_method_74_code 96 = .ok (.astore_n 2, 1) := by decide +kernel
theorem d_Mm_mould_97 : decode prog_14_method_74_code 97 = .ok (.iconst 0, 1) := by decide +kernel
theorem d_Mm_mould_98 : decode prog_14_method_74_code 98 = .ok (.istore_n 3, 1) := by decide +kernel
theorem d_Mm_mould_120 : decode prog_14_method_74_code 120 = .ok (.iconst 5, 1) := by decide +kernel
theorem d_Mm_mould_121 : decode prog_14_method_74_code 121 = .ok (.newarray .int, 2) := by decide +kernel
theorem d_Mm_mould_123 : decode prog_14_method_74_code 123 = .ok (.astore_n 3, 1) := by decide +kernel
theorem d_Mm_mould_124 : decode prog_14_method_74_code 124 = .ok (.aload_n 3, 1) := by decide +kernel
theorem d_Mm_mould_125 : decode prog_14_method_74_code 125 = .ok (.iconst 0, 1) := by decide +kernel
theorem d_Mm_mould_126 : decode prog_14_method_74_code 126 = .ok (.aload_n 0, 1) := by decide +kernel
theorem d_Mm_mould_127 : decode prog_14_method_74_code 127 = .ok (.getfield 13, 3) := by decide +kernel
theorem d_Mm_mould_130 : decode prog_14_method_74_code 130 = .ok (.iastore, 1) := by decide +kernel
theorem d_Mm_mould_131 : decode prog_14_method_74_code 131 = .ok (.aload_n 3, 1) := by decide +kernel
theorem d_Mm_mould_132 : decode prog_14_method_74_code 132 = .ok (.iconst 1, 1) := by decide +kernel
theorem d_Mm_mould_133 : decode prog_14_method_74_code 133 = .ok (.aload_n 0, 1) := by decide +kernel
theorem d_Mm_mould_134 : decode prog_14_method_74_code 134 = .ok (.invokevirtual 199, 3) := by decide +kernel
theorem ok_Mm_mould_Mm_strength : z_ok M_Mm_mould M_Mm_strength 0 := ⟨z_mem (i := 1846) (by decide +kernel) (by decide +kernel), rfl, ⟨by decide +kernel, by decide +kernel, by decide +kernel⟩, ⟨by decide, by decide⟩, z_mem (i := 71) (by decide +kernel) (by decide +kernel), rfl⟩
theorem d_Mm_mould_137 : decode prog_14_method_74_code 137 = .ok (.iastore, 1) := by decide +kernel
theorem d_Mm_mould_138 : decode prog_14_method_74_code 138 = .ok (.aload_n 3, 1) := by decide +kernel
theorem d_Mm_mould_139 : decode prog_14_method_74_code 139 = .ok (.iconst 2, 1) := by decide +kernel
theorem d_Mm_mould_140 : decode prog_14_method_74_code 140 = .ok (.aload_n 0, 1) := by decide +kernel
theorem d_Mm_mould_141 : decode prog_14_method_74_code 141 = .ok (.invokevirtual 205, 3) := by decide +kernel
theorem ok_Mm_mould_Mm_draught : z_ok M_Mm_mould M_Mm_draught 0 := ⟨z_mem (i := 1856) (by decide +kernel) (by decide +kernel), rfl, ⟨by decide +kernel, by decide +kernel, by decide +kernel⟩, ⟨by decide, by decide⟩, z_mem (i := 71) (by decide +kernel) (by decide +kernel), rfl⟩
theorem d_Mm_mould_144 : decode prog_14_method_74_code 144 = .ok (.iastore, 1) := by decide +kernel
theorem d_Mm_mould_145 : decode prog_14_method_74_code 145 = .ok (.aload_n 3, 1) := by decide +kernel
theorem d_Mm_mould_146 : decode prog_14_method_74_code 146 = .ok (.iconst 3, 1) := by decide +kernel
theorem d_Mm_mould_147 : decode prog_14_method_74_code 147 = .ok (.aload_n 0, 1) := by decide +kernel
theorem d_Mm_mould_148 : decode prog_14_method_74_code 148 = .ok (.getfield 46, 3) := by decide +kernel
theorem d_Mm_mould_151 : decode prog_14_method_74_code 151 = .ok (.iastore, 1) := by decide +kernel
theorem d_Mm_mould_152 : decode prog_14_method_74_code 152 = .ok (.aload_n 0, 1) := by decide +kernel
theorem d_Mm_mould_153 : decode prog_14_method_74_code 153 = .ok (.getfield 72, 3) := by decide +kernel
theorem d_Mm_mould_156 : decode prog_14_method_74_code 156 = .ok (.aload_n 2, 1) := by decide +kernel
theorem d_Mm_mould_157 : decode prog_14_method_74_code 157 = .ok (.invokevirtual 219, 3) := by decide +kernel
theorem ok_Mm_mould_AL_add_0 : z_ok M_Mm_mould M_AL_add_0 1 := ⟨z_mem (i := 1291) (by decide +kernel) (by decide +kernel), rfl, ⟨by decide +kernel, by decide +kernel, by decide +kernel⟩, ⟨by decide, by decide⟩, z_mem (i := 70) (by decide +kernel) (by decide +kernel), rfl⟩
theorem d_Mm_mould_160 : decode prog_14_method_74_code 160 = .ok (.pop, 1) := by decide +kernel
theorem d_Mm_mould_161 : decode prog_14_method_74_code 161 = .ok (.aload_n 0, 1) := by decide +kernel
theorem d_Mm_mould_162 : decode prog_14_method_74_code 162 = .ok (.getfield 75, 3) := by decide +kernel
theorem d_Mm_mould_165 : decode prog_14_method_74_code 165 = .ok (.aload_n 3, 1) := by decide +kernel
theorem d_Mm_mould_166 : decode prog_14_method_74_code 166 = .ok (.invokevirtual 219, 3) := by decide +kernel
theorem d_Mm_mould_169 : decode prog_14_method_74_code 169 = .ok (.pop, 1) := by decide +kernel
theorem d_Mm_mould_170 : decode prog_14_method_74_code 170 = .ok (.aload_n 0, 1) := by decide +kernel
theorem d_Mm_mould_171 : decode prog_14_method_74_code 171 = .ok (.iload_n 1, 1) := by decide +kernel
theorem d_Mm_mould_172 : decode prog_14_method_74_code 172 = .ok (.invokevirtual 285, 3) := by decide +kernel
theorem ok_Mm_mould_Mm_takeCores : z_ok M_Mm_mould M_Mm_takeCores 1 := ⟨z_mem (i := 1968) (by decide +kernel) (by decide +kernel), rfl, ⟨by decide +kernel, by decide +kernel, by decide +kernel⟩, ⟨by decide, by decide⟩, z_mem (i := 71) (by decide +kernel) (by decide +kernel), rfl⟩
theorem ln_Mm_285 : Cond.methodLink "IronpourModel" 285 M_Mm_takeCores.1 ∈ z_gw := z_mem (i := 1965) (by decide +kernel) (by decide +kernel)
theorem w_im_Mm_takeCores : Cond.instanceMethod M_Mm_takeCores.1 ∈ z_gw := z_mem (i := 1967) (by decide +kernel) (by decide +kernel)
theorem w_se_Mm_takeCores : Cond.selects M_Mm_takeCores.1.cls M_Mm_takeCores.1 M_Mm_takeCores.1 ∈ z_gw := z_mem (i := 51) (by decide +kernel) (by decide +kernel)
theorem d_Mm_mould_175 : decode prog_14_method_74_code 175 = .ok (.aload_n 0, 1) := by decide +kernel
theorem d_Mm_mould_176 : decode prog_14_method_74_code 176 = .ok (.aload_n 0, 1) := by decide +kernel
theorem d_Mm_mould_177 : decode prog_14_method_74_code 177 = .ok (.getfield 43, 3) := by decide +kernel
theorem d_Mm_mould_180 : decode prog_14_method_74_code 180 = .ok (.iconst 3, 1) := by decide +kernel
theorem d_Mm_mould_181 : decode prog_14_method_74_code 181 = .ok (.isub, 1) := by decide +kernel
theorem d_Mm_mould_182 : decode prog_14_method_74_code 182 = .ok (.invokestatic 196, 3) := by decide +kernel
theorem ok_Mm_mould_Mm_most : z_ok M_Mm_mould M_Mm_most 1 := ⟨z_mem (i := 1841) (by decide +kernel) (by decide +kernel), rfl, ⟨by decide +kernel, by decide +kernel, by decide +kernel⟩, ⟨by decide, by decide⟩, z_mem (i := 71) (by decide +kernel) (by decide +kernel), rfl⟩
theorem d_Mm_mould_185 : decode prog_14_method_74_code 185 = .ok (.putfield 43, 3) := by decide +kernel
theorem d_Mm_mould_188 : decode prog_14_method_74_code 188 = .ok (.aload_n 0, 1) := by decide +kernel
theorem d_Mm_mould_189 : decode prog_14_method_74_code 189 = .ok (.aload_n 0, 1) := by decide +kernel
theorem d_Mm_mould_190 : decode prog_14_method_74_code 190 = .ok (.getfield 46, 3) := by decide +kernel
theorem d_Mm_mould_193 : decode prog_14_method_74_code 193 = .ok (.bipush 8, 2) := by decide +kernel
theorem d_Mm_mould_195 : decode prog_14_method_74_code 195 = .ok (.isub, 1) := by decide +kernel
theorem d_Mm_mould_196 : decode prog_14_method_74_code 196 = .ok (.invokestatic 196, 3) := by decide +kernel
theorem d_Mm_mould_199 : decode prog_14_method_74_code 199 = .ok (.putfield 46, 3) := by decide +kernel
theorem d_Mm_mould_202 : decode prog_14_method_74_code 202 = .ok (.aload_n 0, 1) := by decide +kernel
theorem d_Mm_mould_203 : decode prog_14_method_74_code 203 = .ok (.aload_n 0, 1) := by decide +kernel
theorem d_Mm_mould_204 : decode prog_14_method_74_code 204 = .ok (.getfield 49, 3) := by decide +kernel
theorem d_Mm_mould_207 : decode prog_14_method_74_code 207 = .ok (.iconst 4, 1) := by decide +kernel
theorem d_Mm_mould_208 : decode prog_14_method_74_code 208 = .ok (.isub, 1) := by decide +kernel
theorem d_Mm_mould_209 : decode prog_14_method_74_code 209 = .ok (.invokestatic 196, 3) := by decide +kernel
theorem d_Mm_mould_212 : decode prog_14_method_74_code 212 = .ok (.putfield 49, 3) := by decide +kernel
theorem d_Mm_mould_215 : decode prog_14_method_74_code 215 = .ok (.aload_n 0, 1) := by decide +kernel
theorem d_Mm_mould_216 : decode prog_14_method_74_code 216 = .ok (.aload_n 0, 1) := by decide +kernel
theorem d_Mm_mould_217 : decode prog_14_method_74_code 217 = .ok (.getfield 52, 3) := by decide +kernel
theorem d_Mm_mould_220 : decode prog_14_method_74_code 220 = .ok (.iconst 2, 1) := by decide +kernel
theorem d_Mm_mould_221 : decode prog_14_method_74_code 221 = .ok (.iadd, 1) := by decide +kernel
theorem d_Mm_mould_222 : decode prog_14_method_74_code 222 = .ok (.invokestatic 196, 3) := by decide +kernel
theorem d_Mm_mould_225 : decode prog_14_method_74_code 225 = .ok (.putfield 52, 3) := by decide +kernel
theorem d_Mm_mould_228 : decode prog_14_method_74_code 228 = .ok (.aload_n 0, 1) := by decide +kernel
theorem d_Mm_mould_229 : decode prog_14_method_74_code 229 = .ok (.aload_n 0, 1) := by decide +kernel
theorem d_Mm_mould_230 : decode prog_14_method_74_code 230 = .ok (.getfield 190, 3) := by decide +kernel
theorem d_Mm_mould_233 : decode prog_14_method_74_code 233 = .ok (.bipush 10, 2) := by decide +kernel
theorem d_Mm_mould_235 : decode prog_14_method_74_code 235 = .ok (.iadd, 1) := by decide +kernel
theorem d_Mm_mould_236 : decode prog_14_method_74_code 236 = .ok (.aload_n 0, 1) := by decide +kernel
theorem d_Mm_mould_237 : decode prog_14_method_74_code 237 = .ok (.getfield 7, 3) := by decide +kernel
theorem d_Mm_mould_240 : decode prog_14_method_74_code 240 = .ok (.invokestatic 134, 3) := by decide +kernel
theorem ok_Mm_mould_Mm_cellsIn : z_ok M_Mm_mould M_Mm_cellsIn 1 := ⟨z_mem (i := 1744) (by decide +kernel) (by decide +kernel), rfl, ⟨by decide +kernel, by decide +kernel, by decide +kernel⟩, ⟨by decide, by decide⟩, z_mem (i := 71) (by decide +kernel) (by decide +kernel), rfl⟩
theorem d_Mm_mould_243 : decode prog_14_method_74_code 243 = .ok (.iconst 4, 1) := by decide +kernel
theorem d_Mm_mould_244 : decode prog_14_method_74_code 244 = .ok (.idiv, 1) := by decide +kernel
theorem d_Mm_mould_245 : decode prog_14_method_74_code 245 = .ok (.iadd, 1) := by decide +kernel
theorem d_Mm_mould_246 : decode prog_14_method_74_code 246 = .ok (.invokestatic 196, 3) := by decide +kernel
theorem d_Mm_mould_249 : decode prog_14_method_74_code 249 = .ok (.putfield 190, 3) := by decide +kernel
theorem d_Mm_mould_252 : decode prog_14_method_74_code 252 = .ok (.aload_n 0, 1) := by decide +kernel
theorem d_Mm_mould_253 : decode prog_14_method_74_code 253 = .ok (.getfield 72, 3) := by decide +kernel
theorem d_Mm_mould_256 : decode prog_14_method_74_code 256 = .ok (.invokevirtual 208, 3) := by decide +kernel
theorem d_Mm_mould_259 : decode prog_14_method_74_code 259 = .ok (.ireturn, 1) := by decide +kernel
theorem d_Mm_mould_78 : decode prog_14_method_74_code 78 = .ok (.iconst 1, 1) := by decide +kernel
theorem d_Mm_mould_79 : decode prog_14_method_74_code 79 = .ok (.goto 4, 3) := by decide +kernel
theorem d_Mm_mould_53 : decode prog_14_method_74_code 53 = .ok (.iconst 1, 1) := by decide +kernel
theorem d_Mm_mould_54 : decode prog_14_method_74_code 54 = .ok (.goto 4, 3) := by decide +kernel
set_option maxHeartbeats 4000000 in
set_option maxRecDepth 100000 in
theorem Q_Mm_mould {g : zG} {ad : Nat → Nat} {t : zTT} {u : zNN} {w : zW} (hI : IV g ad t u w) : zMB g M_Mm_mould [.ref (ad 52)] w (fun o w1 => (∃ v : Int32, o = .inl (some (.int v))) ∧ ∃ u2, IV g ad t u2 w1) 4 179 := by
  obtain ⟨e_m, wf_m, k_m⟩ := hI.1.2 52 (by decide)
  obtain ⟨v_m_th, v_m_cl, v_m_wa, v_m_co_, v_m_fi, v_m_bu, v_m_ho, v_m_lh, v_m_mg, v_m_wd, v_m_po, v_m_de, rfl⟩ := kd_52.mp k_m
  obtain ⟨e_mp, wf_mp, k_mp⟩ := hI.1.2 53 (by decide)
  obtain rfl := kd_53.mp k_mp
  obtain ⟨e_mgr, wf_mgr, k_mgr⟩ := hI.1.2 61 (by decide)
  obtain ⟨v_mgr_f, rfl⟩ := kd_61.mp k_mgr
  obtain ⟨e_mq, wf_mq, k_mq⟩ := hI.1.2 60 (by decide)
  obtain ⟨v_mq_h, rfl⟩ := kd_60.mp k_mq
  have hf := hI.2.2.2.1
  have hsz := hI.sz
  refine y_of (by decide) rfl (Nat.le_of_ble_eq_true rfl) (y_base (cs := [((ad 52), .inr (12, [.int v_m_th, .ref (ad 53), .int (nI t.2.2.2.1), .ref (ad 54), .ref (ad 55), .ref (ad 56), .ref (ad 57), .ref (ad 58), .ref (ad 59), .ref (ad 60), .ref (ad 61), .int v_m_cl, .int v_m_wa, .int v_m_co_, .int v_m_fi, .int v_m_bu, .int v_m_ho, .ref (ad 62), .ref (ad 63), .ref (ad 64), .int v_m_lh, .int v_m_mg, .int v_m_wd, .int (t.2.2.2.2 3), .int (t.2.2.2.2 4), .ref (ad 65), .ref (ad 66), .ref (ad 67), .ref (ad 68), .long v_m_po, .long v_m_de])), ((ad 53), .inl (1, 108, .inl t.2.1)), ((ad 61), .inl (0, 108, .inl v_mgr_f)), ((ad 60), .inl (0, 108, .inl (fun k => nI (v_mq_h k))))]) (hI.1.I [52, 53, 61, 60] _ rfl (by decide) (by decide) (List.forall_mem_cons.mpr ⟨wf_m, (List.forall_mem_cons.mpr ⟨wf_mp, (List.forall_mem_cons.mpr ⟨wf_mgr, (List.forall_mem_cons.mpr ⟨wf_mq, (fun _ h => nomatch h)⟩)⟩)⟩)⟩)) ?_)
  refine y_lvE (lv2 := [(0, .ref (ad 52))]) rfl ?_
  refine y_aload_n d_Mm_mould_0 rfl 0 rfl ?_
  refine y_iconst d_Mm_mould_1 (v := 0) (by decide) ?_
  refine y_put fp_Mm_84 d_Mm_mould_2 (fun h => nomatch h) rfl rfl (q0 := 0) rfl (Nat.le_of_ble_eq_true rfl) (cs' := [((ad 52), .inr (12, [.int 0, .ref (ad 53), .int (nI t.2.2.2.1), .ref (ad 54), .ref (ad 55), .ref (ad 56), .ref (ad 57), .ref (ad 58), .ref (ad 59), .ref (ad 60), .ref (ad 61), .int v_m_cl, .int v_m_wa, .int v_m_co_, .int v_m_fi, .int v_m_bu, .int v_m_ho, .ref (ad 62), .ref (ad 63), .ref (ad 64), .int v_m_lh, .int v_m_mg, .int v_m_wd, .int (t.2.2.2.2 3), .int (t.2.2.2.2 4), .ref (ad 65), .ref (ad 66), .ref (ad 67), .ref (ad 68), .long v_m_po, .long v_m_de])), ((ad 53), .inl (1, 108, .inl t.2.1)), ((ad 61), .inl (0, 108, .inl v_mgr_f)), ((ad 60), .inl (0, 108, .inl (fun k => nI (v_mq_h k))))]) rfl ?_
  refine y_aload_n d_Mm_mould_5 rfl 0 rfl ?_
  refine y_aload_n d_Mm_mould_6 rfl 0 rfl ?_
  refine y_get fs_Mm_7 d_Mm_mould_7 (q0 := 0) rfl rfl ?_
  refine y_callV (As := [.ref (ad 53)]) (rest := []) (csC := [((ad 52), .inr (12, [.int 0, .ref (ad 53), .int (nI t.2.2.2.1), .ref (ad 54), .ref (ad 55), .ref (ad 56), .ref (ad 57), .ref (ad 58), .ref (ad 59), .ref (ad 60), .ref (ad 61), .int v_m_cl, .int v_m_wa, .int v_m_co_, .int v_m_fi, .int v_m_bu, .int v_m_ho, .ref (ad 62), .ref (ad 63), .ref (ad 64), .int v_m_lh, .int v_m_mg, .int v_m_wd, .int (t.2.2.2.2 3), .int (t.2.2.2.2 4), .ref (ad 65), .ref (ad 66), .ref (ad 67), .ref (ad 68), .long v_m_po, .long v_m_de])), ((ad 53), .inl (1, 108, .inl t.2.1)), ((ad 61), .inl (0, 108, .inl v_mgr_f)), ((ad 60), .inl (0, 108, .inl (fun k => nI (v_mq_h k))))]) (is := [0, 1, 2, 3]) (q0 := 0) rfl rfl ln_Mm_123 w_im_Mm_groupIn w_se_Mm_groupIn ok_Mm_mould_Mm_groupIn d_Mm_mould_10 (C_Mm_groupInW g (ad 52) (ad 53) (ad 54) (ad 55) (ad 56) (ad 57) (ad 58) (ad 59) (ad 60) (ad 61) (ad 62) (ad 63) (ad 64) (ad 65) (ad 66) (ad 67) (ad 68) 0 (nI t.2.2.2.1) v_m_cl v_m_wa v_m_co_ v_m_fi v_m_bu v_m_ho v_m_lh v_m_mg v_m_wd (t.2.2.2.2 3) (t.2.2.2.2 4) v_m_po v_m_de (ad 53) t.2.1 v_mgr_f v_mq_h) rfl rfl (Nat.le_of_ble_eq_true rfl) rfl (by decide) (by omega) (by omega) (fun E cs1 hx => ?_) (fun v cs1 hx => ?_)
  · obtain ⟨nn9_10, gp9_10, qn9_10, p10_0, e1, -⟩ := hx
    cases e1
  · obtain ⟨nn9_10, gp9_10, qn9_10, p10_0, e1, rfl⟩ := hx
    cases e1
    refine ⟨rfl, ?_⟩
    refine y_st (st2 := [.int (nI nn9_10)]) rfl ?_
    refine y_cs (cs2 := [((ad 52), .inr (12, [.int 0, .ref (ad 53), .int (nI t.2.2.2.1), .ref (ad 54), .ref (ad 55), .ref (ad 56), .ref (ad 57), .ref (ad 58), .ref (ad 59), .ref (ad 60), .ref (ad 61), .int v_m_cl, .int v_m_wa, .int v_m_co_, .int v_m_fi, .int v_m_bu, .int v_m_ho, .ref (ad 62), .ref (ad 63), .ref (ad 64), .int v_m_lh, .int v_m_mg, .int v_m_wd, .int (t.2.2.2.2 3), .int (t.2.2.2.2 4), .ref (ad 65), .ref (ad 66), .ref (ad 67), .ref (ad 68), .long v_m_po, .long v_m_de])), ((ad 53), .inl (1, 108, .inl t.2.1)), ((ad 61), .inl (0, 108, .inl gp9_10)), ((ad 60), .inl (0, 108, .inl (fun k => nI (qn9_10 k))))]) rfl ?_
    refine y_istore_n (lv' := [(1, .int (nI nn9_10)), (0, .ref (ad 52))]) d_Mm_mould_13 rfl (by decide) rfl ?_
    refine y_aload_n d_Mm_mould_14 rfl 1 rfl ?_
    refine y_aload_n d_Mm_mould_15 rfl 1 rfl ?_
    refine y_get fs_Mm_7 d_Mm_mould_16 (q0 := 0) rfl rfl ?_
    refine y_callS (As := [.ref (ad 53)]) (rest := [.ref (ad 52)]) (csC := [((ad 53), .inl (1, 108, .inl t.2.1))]) (is := [1]) ln_Mm_137 w_st_Mm_gates ok_Mm_mould_Mm_gates d_Mm_mould_19 (C_Mm_gates g (ad 53) t.2.1) rfl rfl (Nat.le_of_ble_eq_true rfl) rfl (by decide) (by omega) (by omega) (fun E cs1 hx => ?_) (fun v cs1 hx => ?_)
    · exact absurd hx.1 (by simp)
    · obtain ⟨e1, rfl⟩ := hx
      cases e1
      refine ⟨rfl, ?_⟩
      refine y_st (st2 := [.int (nI (fa_cnt (fun k => decide (t.2.1 k = 103)) 12)), .ref (ad 52)]) rfl ?_
      refine y_cs (cs2 := [((ad 52), .inr (12, [.int 0, .ref (ad 53), .int (nI t.2.2.2.1), .ref (ad 54), .ref (ad 55), .ref (ad 56), .ref (ad 57), .ref (ad 58), .ref (ad 59), .ref (ad 60), .ref (ad 61), .int v_m_cl, .int v_m_wa, .int v_m_co_, .int v_m_fi, .int v_m_bu, .int v_m_ho, .ref (ad 62), .ref (ad 63), .ref (ad 64), .int v_m_lh, .int v_m_mg, .int v_m_wd, .int (t.2.2.2.2 3), .int (t.2.2.2.2 4), .ref (ad 65), .ref (ad 66), .ref (ad 67), .ref (ad 68), .long v_m_po, .long v_m_de])), ((ad 53), .inl (1, 108, .inl t.2.1)), ((ad 61), .inl (0, 108, .inl gp9_10)), ((ad 60), .inl (0, 108, .inl (fun k => nI (qn9_10 k))))]) rfl ?_
      refine y_if_eq (tgt := 32) d_Mm_mould_22 (by decide) (fun c_22 => ?_) (fun c_22 => ?_)
      · refine y_iconst d_Mm_mould_32 (v := 1) (by decide) ?_
        refine y_goto (tgt := 37) d_Mm_mould_33 (by decide) ?_
        refine y_iconst d_Mm_mould_37 (v := 1) (by decide) ?_
        refine y_callV (As := [.int 1, .int 1]) (rest := []) (csC := [((ad 52), .inr (12, [.int 0, .ref (ad 53), .int (nI t.2.2.2.1), .ref (ad 54), .ref (ad 55), .ref (ad 56), .ref (ad 57), .ref (ad 58), .ref (ad 59), .ref (ad 60), .ref (ad 61), .int v_m_cl, .int v_m_wa, .int v_m_co_, .int v_m_fi, .int v_m_bu, .int v_m_ho, .ref (ad 62), .ref (ad 63), .ref (ad 64), .int v_m_lh, .int v_m_mg, .int v_m_wd, .int (t.2.2.2.2 3), .int (t.2.2.2.2 4), .ref (ad 65), .ref (ad 66), .ref (ad 67), .ref (ad 68), .long v_m_po, .long v_m_de]))]) (is := [0]) (q0 := 0) rfl rfl ln_Mm_103 w_im_Mm_fails w_se_Mm_fails ok_Mm_mould_Mm_fails d_Mm_mould_38 (C_Mm_fails1 g (ad 52) (ad 53) (ad 54) (ad 55) (ad 56) (ad 57) (ad 58) (ad 59) (ad 60) (ad 61) (ad 62) (ad 63) (ad 64) (ad 65) (ad 66) (ad 67) (ad 68) 0 (nI t.2.2.2.1) v_m_cl v_m_wa v_m_co_ v_m_fi v_m_bu v_m_ho v_m_lh v_m_mg v_m_wd (t.2.2.2.2 3) (t.2.2.2.2 4) v_m_po v_m_de) rfl rfl (Nat.le_of_ble_eq_true rfl) rfl (by decide) (by omega) (by omega) (fun E cs1 hx => ?_) (fun v cs1 hx => ?_)
        · exact absurd hx.1 (by simp)
        · obtain ⟨e1, rfl⟩ := hx
          cases e1
          refine ⟨rfl, ?_⟩
          refine y_st (st2 := [.int 1]) rfl ?_
          refine y_cs (cs2 := [((ad 52), .inr (12, [.int 1, .ref (ad 53), .int (nI t.2.2.2.1), .ref (ad 54), .ref (ad 55), .ref (ad 56), .ref (ad 57), .ref (ad 58), .ref (ad 59), .ref (ad 60), .ref (ad 61), .int v_m_cl, .int v_m_wa, .int v_m_co_, .int v_m_fi, .int v_m_bu, .int v_m_ho, .ref (ad 62), .ref (ad 63), .ref (ad 64), .int v_m_lh, .int v_m_mg, .int v_m_wd, .int (t.2.2.2.2 3), .int (t.2.2.2.2 4), .ref (ad 65), .ref (ad 66), .ref (ad 67), .ref (ad 68), .long v_m_po, .long v_m_de])), ((ad 53), .inl (1, 108, .inl t.2.1)), ((ad 61), .inl (0, 108, .inl gp9_10)), ((ad 60), .inl (0, 108, .inl (fun k => nI (qn9_10 k))))]) rfl ?_
          refine y_if_ne (tgt := 90) d_Mm_mould_41 (by decide) (fun c_41 => ?_) (fun c_41 => ?_)
          · refine y_iconst d_Mm_mould_90 (v := 0) (by decide) ?_
            refine y_iret d_Mm_mould_91 rfl rfl ?_
            exact fun w1 h1 => ⟨⟨_, rfl⟩, ⟨_, (hI.gen (t2 := t) (is := [52, 53, 61, 60]) (L2 := []) h1 rfl ⟨kd_52.mpr ⟨_, _, _, _, _, _, _, _, _, _, _, _, rfl⟩, kd_53.mpr rfl, kd_61.mpr ⟨_, rfl⟩, kd_60.mpr ⟨_, rfl⟩, trivial⟩ (by decide) (by decide) (fun _ h => nomatch h) (fun _ h => nomatch h) (fun _ _ _ _ h => h) (fun h => h))⟩⟩
          · exact absurd c_41 (by decide)
      · refine y_aload_n d_Mm_mould_25 rfl 1 rfl ?_
        refine y_callV (As := []) (rest := [.ref (ad 52)]) (csC := [((ad 52), .inr (12, [.int 0, .ref (ad 53), .int (nI t.2.2.2.1), .ref (ad 54), .ref (ad 55), .ref (ad 56), .ref (ad 57), .ref (ad 58), .ref (ad 59), .ref (ad 60), .ref (ad 61), .int v_m_cl, .int v_m_wa, .int v_m_co_, .int v_m_fi, .int v_m_bu, .int v_m_ho, .ref (ad 62), .ref (ad 63), .ref (ad 64), .int v_m_lh, .int v_m_mg, .int v_m_wd, .int (t.2.2.2.2 3), .int (t.2.2.2.2 4), .ref (ad 65), .ref (ad 66), .ref (ad 67), .ref (ad 68), .long v_m_po, .long v_m_de])), ((ad 53), .inl (1, 108, .inl t.2.1))]) (is := [0, 1]) (q0 := 0) rfl rfl ln_Mm_281 w_im_Mm_hasCasting w_se_Mm_hasCasting ok_Mm_mould_Mm_hasCasting d_Mm_mould_26 (C_Mm_hasCastingW g (ad 52) (ad 53) (ad 54) (ad 55) (ad 56) (ad 57) (ad 58) (ad 59) (ad 60) (ad 61) (ad 62) (ad 63) (ad 64) (ad 65) (ad 66) (ad 67) (ad 68) 0 (nI t.2.2.2.1) v_m_cl v_m_wa v_m_co_ v_m_fi v_m_bu v_m_ho v_m_lh v_m_mg v_m_wd (t.2.2.2.2 3) (t.2.2.2.2 4) v_m_po v_m_de t.2.1) rfl rfl (Nat.le_of_ble_eq_true rfl) rfl (by decide) (by omega) (by omega) (fun E cs1 hx => ?_) (fun v cs1 hx => ?_)
        · obtain ⟨v9_26, p26_0, e1, -⟩ := hx
          cases e1
        · obtain ⟨v9_26, p26_0, e1, rfl⟩ := hx
          cases e1
          refine ⟨rfl, ?_⟩
          refine y_st (st2 := [.int v9_26, .ref (ad 52)]) rfl ?_
          refine y_cs (cs2 := [((ad 52), .inr (12, [.int 0, .ref (ad 53), .int (nI t.2.2.2.1), .ref (ad 54), .ref (ad 55), .ref (ad 56), .ref (ad 57), .ref (ad 58), .ref (ad 59), .ref (ad 60), .ref (ad 61), .int v_m_cl, .int v_m_wa, .int v_m_co_, .int v_m_fi, .int v_m_bu, .int v_m_ho, .ref (ad 62), .ref (ad 63), .ref (ad 64), .int v_m_lh, .int v_m_mg, .int v_m_wd, .int (t.2.2.2.2 3), .int (t.2.2.2.2 4), .ref (ad 65), .ref (ad 66), .ref (ad 67), .ref (ad 68), .long v_m_po, .long v_m_de])), ((ad 53), .inl (1, 108, .inl t.2.1)), ((ad 61), .inl (0, 108, .inl gp9_10)), ((ad 60), .inl (0, 108, .inl (fun k => nI (qn9_10 k))))]) rfl ?_
          refine y_if_ne (tgt := 36) d_Mm_mould_29 (by decide) (fun c_29 => ?_) (fun c_29 => ?_)
          · refine y_iconst d_Mm_mould_36 (v := 0) (by decide) ?_
            refine y_iconst d_Mm_mould_37 (v := 1) (by decide) ?_
            refine y_callV (As := [.int 0, .int 1]) (rest := []) (csC := [((ad 52), .inr (12, [.int 0, .ref (ad 53), .int (nI t.2.2.2.1), .ref (ad 54), .ref (ad 55), .ref (ad 56), .ref (ad 57), .ref (ad 58), .ref (ad 59), .ref (ad 60), .ref (ad 61), .int v_m_cl, .int v_m_wa, .int v_m_co_, .int v_m_fi, .int v_m_bu, .int v_m_ho, .ref (ad 62), .ref (ad 63), .ref (ad 64), .int v_m_lh, .int v_m_mg, .int v_m_wd, .int (t.2.2.2.2 3), .int (t.2.2.2.2 4), .ref (ad 65), .ref (ad 66), .ref (ad 67), .ref (ad 68), .long v_m_po, .long v_m_de]))]) (is := [0]) (q0 := 0) rfl rfl ln_Mm_103 w_im_Mm_fails w_se_Mm_fails ok_Mm_mould_Mm_fails d_Mm_mould_38 (C_Mm_fails0 g (ad 52) (ad 53) (ad 54) (ad 55) (ad 56) (ad 57) (ad 58) (ad 59) (ad 60) (ad 61) (ad 62) (ad 63) (ad 64) (ad 65) (ad 66) (ad 67) (ad 68) 0 (nI t.2.2.2.1) v_m_cl v_m_wa v_m_co_ v_m_fi v_m_bu v_m_ho v_m_lh v_m_mg v_m_wd (t.2.2.2.2 3) (t.2.2.2.2 4) v_m_po v_m_de 1) rfl rfl (Nat.le_of_ble_eq_true rfl) rfl (by decide) (by omega) (by omega) (fun E cs1 hx => ?_) (fun v cs1 hx => ?_)
            · exact absurd hx.1 (by simp)
            · obtain ⟨e1, rfl⟩ := hx
              cases e1
              refine ⟨rfl, ?_⟩
              refine y_st (st2 := [.int 0]) rfl ?_
              refine y_cs (cs2 := [((ad 52), .inr (12, [.int 0, .ref (ad 53), .int (nI t.2.2.2.1), .ref (ad 54), .ref (ad 55), .ref (ad 56), .ref (ad 57), .ref (ad 58), .ref (ad 59), .ref (ad 60), .ref (ad 61), .int v_m_cl, .int v_m_wa, .int v_m_co_, .int v_m_fi, .int v_m_bu, .int v_m_ho, .ref (ad 62), .ref (ad 63), .ref (ad 64), .int v_m_lh, .int v_m_mg, .int v_m_wd, .int (t.2.2.2.2 3), .int (t.2.2.2.2 4), .ref (ad 65), .ref (ad 66), .ref (ad 67), .ref (ad 68), .long v_m_po, .long v_m_de])), ((ad 53), .inl (1, 108, .inl t.2.1)), ((ad 61), .inl (0, 108, .inl gp9_10)), ((ad 60), .inl (0, 108, .inl (fun k => nI (qn9_10 k))))]) rfl ?_
              refine y_if_ne (tgt := 90) d_Mm_mould_41 (by decide) (fun c_41 => ?_) (fun c_41 => ?_)
              · exact absurd c_41 (by decide)
              · refine y_aload_n d_Mm_mould_44 rfl 1 rfl ?_
                refine y_iload_n d_Mm_mould_45 rfl 0 rfl ?_
                refine y_aload_n d_Mm_mould_46 rfl 1 rfl ?_
                refine yw_callV (As := []) (rest := [.int (nI nn9_10), .ref (ad 52)]) (q0 := 0) rfl rfl ln_Mm_226 w_im_Mm_good w_se_Mm_good ok_Mm_mould_Mm_good d_Mm_mould_47 (fun wA hA => Q_good (hI.gen (t2 := t) (is := [52, 53, 61, 60]) (L2 := []) hA rfl ⟨kd_52.mpr ⟨_, _, _, _, _, _, _, _, _, _, _, _, rfl⟩, kd_53.mpr rfl, kd_61.mpr ⟨_, rfl⟩, kd_60.mpr ⟨_, rfl⟩, trivial⟩ (by decide) (by decide) (fun _ h => nomatch h) (fun _ h => nomatch h) (fun _ _ _ _ h => h) (fun h => h))) rfl rfl (Nat.le_of_ble_eq_true rfl) (by omega) (by omega) (fun wA47 hA47 E wB47 hx => ?_) (fun wA47 hA47 v wB47 hx => ?_)
                · exact absurd hx.1 (by simp)
                · obtain ⟨⟨v9g, e1⟩, e2⟩ := hx
                  cases e1
                  refine yw_st (st2 := [.int v9g, .int (nI nn9_10), .ref (ad 52)]) rfl ?_
                  subst e2
                  refine y_go hA47 ?_
                  refine y_icmp_le (tgt := 57) d_Mm_mould_50 (by decide) (fun c_50 => ?_) (fun c_50 => ?_)
                  · refine y_iconst d_Mm_mould_57 (v := 0) (by decide) ?_
                    refine y_iconst d_Mm_mould_58 (v := 2) (by decide) ?_
                    refine y_callV (As := [.int 0, .int 2]) (rest := []) (csC := [((ad 52), .inr (12, [.int 0, .ref (ad 53), .int (nI t.2.2.2.1), .ref (ad 54), .ref (ad 55), .ref (ad 56), .ref (ad 57), .ref (ad 58), .ref (ad 59), .ref (ad 60), .ref (ad 61), .int v_m_cl, .int v_m_wa, .int v_m_co_, .int v_m_fi, .int v_m_bu, .int v_m_ho, .ref (ad 62), .ref (ad 63), .ref (ad 64), .int v_m_lh, .int v_m_mg, .int v_m_wd, .int (t.2.2.2.2 3), .int (t.2.2.2.2 4), .ref (ad 65), .ref (ad 66), .ref (ad 67), .ref (ad 68), .long v_m_po, .long v_m_de]))]) (is := [0]) (q0 := 0) rfl rfl ln_Mm_103 w_im_Mm_fails w_se_Mm_fails ok_Mm_mould_Mm_fails d_Mm_mould_59 (C_Mm_fails0 g (ad 52) (ad 53) (ad 54) (ad 55) (ad 56) (ad 57) (ad 58) (ad 59) (ad 60) (ad 61) (ad 62) (ad 63) (ad 64) (ad 65) (ad 66) (ad 67) (ad 68) 0 (nI t.2.2.2.1) v_m_cl v_m_wa v_m_co_ v_m_fi v_m_bu v_m_ho v_m_lh v_m_mg v_m_wd (t.2.2.2.2 3) (t.2.2.2.2 4) v_m_po v_m_de 2) rfl rfl (Nat.le_of_ble_eq_true rfl) rfl (by decide) (by omega) (by omega) (fun E cs1 hx => ?_) (fun v cs1 hx => ?_)
                    · exact absurd hx.1 (by simp)
                    · obtain ⟨e1, rfl⟩ := hx
                      cases e1
                      refine ⟨rfl, ?_⟩
                      refine y_st (st2 := [.int 0]) rfl ?_
                      refine y_cs (cs2 := [((ad 52), .inr (12, [.int 0, .ref (ad 53), .int (nI t.2.2.2.1), .ref (ad 54), .ref (ad 55), .ref (ad 56), .ref (ad 57), .ref (ad 58), .ref (ad 59), .ref (ad 60), .ref (ad 61), .int v_m_cl, .int v_m_wa, .int v_m_co_, .int v_m_fi, .int v_m_bu, .int v_m_ho, .ref (ad 62), .ref (ad 63), .ref (ad 64), .int v_m_lh, .int v_m_mg, .int v_m_wd, .int (t.2.2.2.2 3), .int (t.2.2.2.2 4), .ref (ad 65), .ref (ad 66), .ref (ad 67), .ref (ad 68), .long v_m_po, .long v_m_de])), ((ad 53), .inl (1, 108, .inl t.2.1)), ((ad 61), .inl (0, 108, .inl gp9_10)), ((ad 60), .inl (0, 108, .inl (fun k => nI (qn9_10 k))))]) rfl ?_
                      refine y_if_ne (tgt := 90) d_Mm_mould_62 (by decide) (fun c_62 => ?_) (fun c_62 => ?_)
                      · exact absurd c_62 (by decide)
                      · refine y_aload_n d_Mm_mould_65 rfl 1 rfl ?_
                        refine y_aload_n d_Mm_mould_66 rfl 1 rfl ?_
                        refine y_get fs_Mm_72 d_Mm_mould_67 (q0 := 0) rfl rfl ?_
                        refine yw_callVL (As := []) (rest := [.ref (ad 52)]) (ci := 13) rfl (fun wA hA => ((hI.gen (t2 := t) (is := [52, 53, 61, 60]) (L2 := []) hA rfl ⟨kd_52.mpr ⟨_, _, _, _, _, _, _, _, _, _, _, _, rfl⟩, kd_53.mpr rfl, kd_61.mpr ⟨_, rfl⟩, kd_60.mpr ⟨_, rfl⟩, trivial⟩ (by decide) (by decide) (fun _ h => nomatch h) (fun _ h => nomatch h) (fun _ _ _ _ h => h) (fun h => h)).2.1.1 3 (by decide)).ob) ln_Mm_208 w_im_AL_size w_se_AL_size ok_Mm_mould_AL_size d_Mm_mould_70 (fun wA hA => Q_size ((hI.gen (t2 := t) (is := [52, 53, 61, 60]) (L2 := []) hA rfl ⟨kd_52.mpr ⟨_, _, _, _, _, _, _, _, _, _, _, _, rfl⟩, kd_53.mpr rfl, kd_61.mpr ⟨_, rfl⟩, kd_60.mpr ⟨_, rfl⟩, trivial⟩ (by decide) (by decide) (fun _ h => nomatch h) (fun _ h => nomatch h) (fun _ _ _ _ h => h) (fun h => h)).2.1.1 3 (by decide))) rfl rfl (Nat.le_of_ble_eq_true rfl) (by omega) (by omega) (fun wA70 hA70 E wB70 hx => ?_) (fun wA70 hA70 v wB70 hx => ?_)
                        · exact absurd hx.1 (by simp)
                        · obtain ⟨e1, e2⟩ := hx
                          cases e1
                          refine yw_st (st2 := [.int (nI (u.1 3)), .ref (ad 52)]) rfl ?_
                          subst e2
                          refine y_go hA70 ?_
                          refine y_bipush d_Mm_mould_73 (v := 10) (by decide) ?_
                          refine y_icmp_ne (tgt := 82) d_Mm_mould_75 (by decide) (fun c_75 => ?_) (fun c_75 => ?_)
                          · refine y_iconst d_Mm_mould_82 (v := 0) (by decide) ?_
                            refine y_iconst d_Mm_mould_83 (v := 3) (by decide) ?_
                            refine y_callV (As := [.int 0, .int 3]) (rest := []) (csC := [((ad 52), .inr (12, [.int 0, .ref (ad 53), .int (nI t.2.2.2.1), .ref (ad 54), .ref (ad 55), .ref (ad 56), .ref (ad 57), .ref (ad 58), .ref (ad 59), .ref (ad 60), .ref (ad 61), .int v_m_cl, .int v_m_wa, .int v_m_co_, .int v_m_fi, .int v_m_bu, .int v_m_ho, .ref (ad 62), .ref (ad 63), .ref (ad 64), .int v_m_lh, .int v_m_mg, .int v_m_wd, .int (t.2.2.2.2 3), .int (t.2.2.2.2 4), .ref (ad 65), .ref (ad 66), .ref (ad 67), .ref (ad 68), .long v_m_po, .long v_m_de]))]) (is := [0]) (q0 := 0) rfl rfl ln_Mm_103 w_im_Mm_fails w_se_Mm_fails ok_Mm_mould_Mm_fails d_Mm_mould_84 (C_Mm_fails0 g (ad 52) (ad 53) (ad 54) (ad 55) (ad 56) (ad 57) (ad 58) (ad 59) (ad 60) (ad 61) (ad 62) (ad 63) (ad 64) (ad 65) (ad 66) (ad 67) (ad 68) 0 (nI t.2.2.2.1) v_m_cl v_m_wa v_m_co_ v_m_fi v_m_bu v_m_ho v_m_lh v_m_mg v_m_wd (t.2.2.2.2 3) (t.2.2.2.2 4) v_m_po v_m_de 3) rfl rfl (Nat.le_of_ble_eq_true rfl) rfl (by decide) (by omega) (by omega) (fun E cs1 hx => ?_) (fun v cs1 hx => ?_)
                            · exact absurd hx.1 (by simp)
                            · obtain ⟨e1, rfl⟩ := hx
                              cases e1
                              refine ⟨rfl, ?_⟩
                              refine y_st (st2 := [.int 0]) rfl ?_
                              refine y_cs (cs2 := [((ad 52), .inr (12, [.int 0, .ref (ad 53), .int (nI t.2.2.2.1), .ref (ad 54), .ref (ad 55), .ref (ad 56), .ref (ad 57), .ref (ad 58), .ref (ad 59), .ref (ad 60), .ref (ad 61), .int v_m_cl, .int v_m_wa, .int v_m_co_, .int v_m_fi, .int v_m_bu, .int v_m_ho, .ref (ad 62), .ref (ad 63), .ref (ad 64), .int v_m_lh, .int v_m_mg, .int v_m_wd, .int (t.2.2.2.2 3), .int (t.2.2.2.2 4), .ref (ad 65), .ref (ad 66), .ref (ad 67), .ref (ad 68), .long v_m_po, .long v_m_de])), ((ad 53), .inl (1, 108, .inl t.2.1)), ((ad 61), .inl (0, 108, .inl gp9_10)), ((ad 60), .inl (0, 108, .inl (fun k => nI (qn9_10 k))))]) rfl ?_
                              refine y_if_eq (tgt := 92) d_Mm_mould_87 (by decide) (fun c_87 => ?_) (fun c_87 => ?_)
                              · refine y_bipush d_Mm_mould_92 (v := 108) (by decide) ?_
                                refine y_newa_char (N := 108) ac_char d_Mm_mould_94 (by decide) (by decide) (by decide) (by omega) (by omega) (fun q94 => ?_)
                                refine y_cs (cs2 := [((ad 52), .inr (12, [.int 0, .ref (ad 53), .int (nI t.2.2.2.1), .ref (ad 54), .ref (ad 55), .ref (ad 56), .ref (ad 57), .ref (ad 58), .ref (ad 59), .ref (ad 60), .ref (ad 61), .int v_m_cl, .int v_m_wa, .int v_m_co_, .int v_m_fi, .int v_m_bu, .int v_m_ho, .ref (ad 62), .ref (ad 63), .ref (ad 64), .int v_m_lh, .int v_m_mg, .int v_m_wd, .int (t.2.2.2.2 3), .int (t.2.2.2.2 4), .ref (ad 65), .ref (ad 66), .ref (ad 67), .ref (ad 68), .long v_m_po, .long v_m_de])), ((ad 53), .inl (1, 108, .inl t.2.1)), ((ad 61), .inl (0, 108, .inl gp9_10)), ((ad 60), .inl (0, 108, .inl (fun k => nI (qn9_10 k)))), (q94, .inl (1, 108, .inl (fun _ => 0)))]) rfl ?_
                                refine y_astore_n (lv' := [(2, .ref q94), (1, .int (nI nn9_10)), (0, .ref (ad 52))]) d_Mm_mould_96 rfl (by decide) rfl ?_
                                refine y_iconst d_Mm_mould_97 (v := 0) (by decide) ?_
                                refine y_istore_n (lv' := [(3, .int 0), (2, .ref q94), (1, .int (nI nn9_10)), (0, .ref (ad 52))]) d_Mm_mould_98 rfl (by decide) rfl ?_
                                refine LK_mould g v_m_cl v_m_wa v_m_co_ v_m_fi v_m_bu v_m_ho v_m_lh v_m_mg v_m_wd v_m_po v_m_de gp9_10 qn9_10 nn9_10 q94 hf (fun _ => ?_) (108 + 1) 0  (Nat.zero_le _) (by omega)
                                refine y_iconst d_Mm_mould_120 (v := 5) (by decide) ?_
                                refine y_newa_int (N := 5) ac_int d_Mm_mould_121 (by decide) (by decide) (by decide) (by omega) (by omega) (fun q121 => ?_)
                                refine y_cs (cs2 := [((ad 52), .inr (12, [.int 0, .ref (ad 53), .int (nI t.2.2.2.1), .ref (ad 54), .ref (ad 55), .ref (ad 56), .ref (ad 57), .ref (ad 58), .ref (ad 59), .ref (ad 60), .ref (ad 61), .int v_m_cl, .int v_m_wa, .int v_m_co_, .int v_m_fi, .int v_m_bu, .int v_m_ho, .ref (ad 62), .ref (ad 63), .ref (ad 64), .int v_m_lh, .int v_m_mg, .int v_m_wd, .int (t.2.2.2.2 3), .int (t.2.2.2.2 4), .ref (ad 65), .ref (ad 66), .ref (ad 67), .ref (ad 68), .long v_m_po, .long v_m_de])), ((ad 53), .inl (1, 108, .inl t.2.1)), ((ad 61), .inl (0, 108, .inl gp9_10)), ((ad 60), .inl (0, 108, .inl (fun k => nI (qn9_10 k)))), (q94, .inl (1, 108, .inl (fa_fill t.2.1 (fun _ => 0) 108))), (q121, .inl (0, 5, .inl (fun _ => 0)))]) rfl ?_
                                refine y_astore_n (lv' := [(3, .ref q121), (2, .ref q94), (1, .int (nI nn9_10)), (0, .ref (ad 52))]) d_Mm_mould_123 rfl (by decide) rfl ?_
                                refine y_aload_n d_Mm_mould_124 rfl 0 rfl ?_
                                refine y_iconst d_Mm_mould_125 (v := 0) (by decide) ?_
                                refine y_aload_n d_Mm_mould_126 rfl 3 rfl ?_
                                refine y_get fs_Mm_13 d_Mm_mould_127 (q0 := 0) rfl rfl ?_
                                refine y_iast d_Mm_mould_130 (q0 := 5) rfl (fun q => q.elim (by decide) (by decide)) (f' := upd (fun _ => 0) 0 (nI t.2.2.2.1)) rfl (cs' := [((ad 52), .inr (12, [.int 0, .ref (ad 53), .int (nI t.2.2.2.1), .ref (ad 54), .ref (ad 55), .ref (ad 56), .ref (ad 57), .ref (ad 58), .ref (ad 59), .ref (ad 60), .ref (ad 61), .int v_m_cl, .int v_m_wa, .int v_m_co_, .int v_m_fi, .int v_m_bu, .int v_m_ho, .ref (ad 62), .ref (ad 63), .ref (ad 64), .int v_m_lh, .int v_m_mg, .int v_m_wd, .int (t.2.2.2.2 3), .int (t.2.2.2.2 4), .ref (ad 65), .ref (ad 66), .ref (ad 67), .ref (ad 68), .long v_m_po, .long v_m_de])), ((ad 53), .inl (1, 108, .inl t.2.1)), ((ad 61), .inl (0, 108, .inl gp9_10)), ((ad 60), .inl (0, 108, .inl (fun k => nI (qn9_10 k)))), (q94, .inl (1, 108, .inl (fa_fill t.2.1 (fun _ => 0) 108))), (q121, .inl (0, 5, .inl (upd (fun _ => 0) 0 (nI t.2.2.2.1))))]) rfl ?_
                                refine y_aload_n d_Mm_mould_131 rfl 0 rfl ?_
                                refine y_iconst d_Mm_mould_132 (v := 1) (by decide) ?_
                                refine y_aload_n d_Mm_mould_133 rfl 3 rfl ?_
                                refine y_callV (As := []) (rest := [.int 1, .ref q121]) (csC := [((ad 52), .inr (12, [.int 0, .ref (ad 53), .int (nI t.2.2.2.1), .ref (ad 54), .ref (ad 55), .ref (ad 56), .ref (ad 57), .ref (ad 58), .ref (ad 59), .ref (ad 60), .ref (ad 61), .int v_m_cl, .int v_m_wa, .int v_m_co_, .int v_m_fi, .int v_m_bu, .int v_m_ho, .ref (ad 62), .ref (ad 63), .ref (ad 64), .int v_m_lh, .int v_m_mg, .int v_m_wd, .int (t.2.2.2.2 3), .int (t.2.2.2.2 4), .ref (ad 65), .ref (ad 66), .ref (ad 67), .ref (ad 68), .long v_m_po, .long v_m_de]))]) (is := [0]) (q0 := 0) rfl rfl ln_Mm_199 w_im_Mm_strength w_se_Mm_strength ok_Mm_mould_Mm_strength d_Mm_mould_134 (C_Mm_strength g (ad 52) (ad 53) (ad 54) (ad 55) (ad 56) (ad 57) (ad 58) (ad 59) (ad 60) (ad 61) (ad 62) (ad 63) (ad 64) (ad 65) (ad 66) (ad 67) (ad 68) 0 (nI t.2.2.2.1) v_m_cl v_m_wa v_m_co_ v_m_fi v_m_bu v_m_ho v_m_lh v_m_mg v_m_wd (t.2.2.2.2 3) (t.2.2.2.2 4) v_m_po v_m_de) rfl rfl (Nat.le_of_ble_eq_true rfl) rfl (by decide) (by omega) (by omega) (fun E cs1 hx => ?_) (fun v cs1 hx => ?_)
                                · exact absurd hx.1 (by simp)
                                · obtain ⟨e1, rfl⟩ := hx
                                  cases e1
                                  refine ⟨rfl, ?_⟩
                                  refine y_st (st2 := [.int (S_Mm_strength (ad 52) (ad 53) (ad 54) (ad 55) (ad 56) (ad 57) (ad 58) (ad 59) (ad 60) (ad 61) (ad 62) (ad 63) (ad 64) (ad 65) (ad 66) (ad 67) (ad 68) 0 (nI t.2.2.2.1) v_m_cl v_m_wa v_m_co_ v_m_fi v_m_bu v_m_ho v_m_lh v_m_mg v_m_wd (t.2.2.2.2 3) (t.2.2.2.2 4) v_m_po v_m_de), .int 1, .ref q121]) rfl ?_
                                  refine y_cs (cs2 := [((ad 52), .inr (12, [.int 0, .ref (ad 53), .int (nI t.2.2.2.1), .ref (ad 54), .ref (ad 55), .ref (ad 56), .ref (ad 57), .ref (ad 58), .ref (ad 59), .ref (ad 60), .ref (ad 61), .int v_m_cl, .int v_m_wa, .int v_m_co_, .int v_m_fi, .int v_m_bu, .int v_m_ho, .ref (ad 62), .ref (ad 63), .ref (ad 64), .int v_m_lh, .int v_m_mg, .int v_m_wd, .int (t.2.2.2.2 3), .int (t.2.2.2.2 4), .ref (ad 65), .ref (ad 66), .ref (ad 67), .ref (ad 68), .long v_m_po, .long v_m_de])), ((ad 53), .inl (1, 108, .inl t.2.1)), ((ad 61), .inl (0, 108, .inl gp9_10)), ((ad 60), .inl (0, 108, .inl (fun k => nI (qn9_10 k)))), (q94, .inl (1, 108, .inl (fa_fill t.2.1 (fun _ => 0) 108))), (q121, .inl (0, 5, .inl (upd (fun _ => 0) 0 (nI t.2.2.2.1))))]) rfl ?_
                                  refine y_iast d_Mm_mould_137 (q0 := 5) rfl (fun q => q.elim (by decide) (by decide)) (f' := upd (upd (fun _ => 0) 0 (nI t.2.2.2.1)) 1 (S_Mm_strength (ad 52) (ad 53) (ad 54) (ad 55) (ad 56) (ad 57) (ad 58) (ad 59) (ad 60) (ad 61) (ad 62) (ad 63) (ad 64) (ad 65) (ad 66) (ad 67) (ad 68) 0 (nI t.2.2.2.1) v_m_cl v_m_wa v_m_co_ v_m_fi v_m_bu v_m_ho v_m_lh v_m_mg v_m_wd (t.2.2.2.2 3) (t.2.2.2.2 4) v_m_po v_m_de)) rfl (cs' := [((ad 52), .inr (12, [.int 0, .ref (ad 53), .int (nI t.2.2.2.1), .ref (ad 54), .ref (ad 55), .ref (ad 56), .ref (ad 57), .ref (ad 58), .ref (ad 59), .ref (ad 60), .ref (ad 61), .int v_m_cl, .int v_m_wa, .int v_m_co_, .int v_m_fi, .int v_m_bu, .int v_m_ho, .ref (ad 62), .ref (ad 63), .ref (ad 64), .int v_m_lh, .int v_m_mg, .int v_m_wd, .int (t.2.2.2.2 3), .int (t.2.2.2.2 4), .ref (ad 65), .ref (ad 66), .ref (ad 67), .ref (ad 68), .long v_m_po, .long v_m_de])), ((ad 53), .inl (1, 108, .inl t.2.1)), ((ad 61), .inl (0, 108, .inl gp9_10)), ((ad 60), .inl (0, 108, .inl (fun k => nI (qn9_10 k)))), (q94, .inl (1, 108, .inl (fa_fill t.2.1 (fun _ => 0) 108))), (q121, .inl (0, 5, .inl (upd (upd (fun _ => 0) 0 (nI t.2.2.2.1)) 1 (S_Mm_strength (ad 52) (ad 53) (ad 54) (ad 55) (ad 56) (ad 57) (ad 58) (ad 59) (ad 60) (ad 61) (ad 62) (ad 63) (ad 64) (ad 65) (ad 66) (ad 67) (ad 68) 0 (nI t.2.2.2.1) v_m_cl v_m_wa v_m_co_ v_m_fi v_m_bu v_m_ho v_m_lh v_m_mg v_m_wd (t.2.2.2.2 3) (t.2.2.2.2 4) v_m_po v_m_de))))]) rfl ?_
                                  refine y_aload_n d_Mm_mould_138 rfl 0 rfl ?_
                                  refine y_iconst d_Mm_mould_139 (v := 2) (by decide) ?_
                                  refine y_aload_n d_Mm_mould_140 rfl 3 rfl ?_
                                  refine y_callV (As := []) (rest := [.int 2, .ref q121]) (csC := [((ad 52), .inr (12, [.int 0, .ref (ad 53), .int (nI t.2.2.2.1), .ref (ad 54), .ref (ad 55), .ref (ad 56), .ref (ad 57), .ref (ad 58), .ref (ad 59), .ref (ad 60), .ref (ad 61), .int v_m_cl, .int v_m_wa, .int v_m_co_, .int v_m_fi, .int v_m_bu, .int v_m_ho, .ref (ad 62), .ref (ad 63), .ref (ad 64), .int v_m_lh, .int v_m_mg, .int v_m_wd, .int (t.2.2.2.2 3), .int (t.2.2.2.2 4), .ref (ad 65), .ref (ad 66), .ref (ad 67), .ref (ad 68), .long v_m_po, .long v_m_de]))]) (is := [0]) (q0 := 0) rfl rfl ln_Mm_205 w_im_Mm_draught w_se_Mm_draught ok_Mm_mould_Mm_draught d_Mm_mould_141 (C_Mm_draught g (ad 52) (ad 53) (ad 54) (ad 55) (ad 56) (ad 57) (ad 58) (ad 59) (ad 60) (ad 61) (ad 62) (ad 63) (ad 64) (ad 65) (ad 66) (ad 67) (ad 68) 0 (nI t.2.2.2.1) v_m_cl v_m_wa v_m_co_ v_m_fi v_m_bu v_m_ho v_m_lh v_m_mg v_m_wd (t.2.2.2.2 3) (t.2.2.2.2 4) v_m_po v_m_de) rfl rfl (Nat.le_of_ble_eq_true rfl) rfl (by decide) (by omega) (by omega) (fun E cs1 hx => ?_) (fun v cs1 hx => ?_)
                                  · exact absurd hx.1 (by simp)
                                  · obtain ⟨e1, rfl⟩ := hx
                                    cases e1
                                    refine ⟨rfl, ?_⟩
                                    refine y_st (st2 := [.int (S_Mm_draught (ad 52) (ad 53) (ad 54) (ad 55) (ad 56) (ad 57) (ad 58) (ad 59) (ad 60) (ad 61) (ad 62) (ad 63) (ad 64) (ad 65) (ad 66) (ad 67) (ad 68) 0 (nI t.2.2.2.1) v_m_cl v_m_wa v_m_co_ v_m_fi v_m_bu v_m_ho v_m_lh v_m_mg v_m_wd (t.2.2.2.2 3) (t.2.2.2.2 4) v_m_po v_m_de), .int 2, .ref q121]) rfl ?_
                                    refine y_cs (cs2 := [((ad 52), .inr (12, [.int 0, .ref (ad 53), .int (nI t.2.2.2.1), .ref (ad 54), .ref (ad 55), .ref (ad 56), .ref (ad 57), .ref (ad 58), .ref (ad 59), .ref (ad 60), .ref (ad 61), .int v_m_cl, .int v_m_wa, .int v_m_co_, .int v_m_fi, .int v_m_bu, .int v_m_ho, .ref (ad 62), .ref (ad 63), .ref (ad 64), .int v_m_lh, .int v_m_mg, .int v_m_wd, .int (t.2.2.2.2 3), .int (t.2.2.2.2 4), .ref (ad 65), .ref (ad 66), .ref (ad 67), .ref (ad 68), .long v_m_po, .long v_m_de])), ((ad 53), .inl (1, 108, .inl t.2.1)), ((ad 61), .inl (0, 108, .inl gp9_10)), ((ad 60), .inl (0, 108, .inl (fun k => nI (qn9_10 k)))), (q94, .inl (1, 108, .inl (fa_fill t.2.1 (fun _ => 0) 108))), (q121, .inl (0, 5, .inl (upd (upd (fun _ => 0) 0 (nI t.2.2.2.1)) 1 (S_Mm_strength (ad 52) (ad 53) (ad 54) (ad 55) (ad 56) (ad 57) (ad 58) (ad 59) (ad 60) (ad 61) (ad 62) (ad 63) (ad 64) (ad 65) (ad 66) (ad 67) (ad 68) 0 (nI t.2.2.2.1) v_m_cl v_m_wa v_m_co_ v_m_fi v_m_bu v_m_ho v_m_lh v_m_mg v_m_wd (t.2.2.2.2 3) (t.2.2.2.2 4) v_m_po v_m_de))))]) rfl ?_
                                    refine y_iast d_Mm_mould_144 (q0 := 5) rfl (fun q => q.elim (by decide) (by decide)) (f' := upd (upd (upd (fun _ => 0) 0 (nI t.2.2.2.1)) 1 (S_Mm_strength (ad 52) (ad 53) (ad 54) (ad 55) (ad 56) (ad 57) (ad 58) (ad 59) (ad 60) (ad 61) (ad 62) (ad 63) (ad 64) (ad 65) (ad 66) (ad 67) (ad 68) 0 (nI t.2.2.2.1) v_m_cl v_m_wa v_m_co_ v_m_fi v_m_bu v_m_ho v_m_lh v_m_mg v_m_wd (t.2.2.2.2 3) (t.2.2.2.2 4) v_m_po v_m_de)) 2 (S_Mm_draught (ad 52) (ad 53) (ad 54) (ad 55) (ad 56) (ad 57) (ad 58) (ad 59) (ad 60) (ad 61) (ad 62) (ad 63) (ad 64) (ad 65) (ad 66) (ad 67) (ad 68) 0 (nI t.2.2.2.1) v_m_cl v_m_wa v_m_co_ v_m_fi v_m_bu v_m_ho v_m_lh v_m_mg v_m_wd (t.2.2.2.2 3) (t.2.2.2.2 4) v_m_po v_m_de)) rfl (cs' := [((ad 52), .inr (12, [.int 0, .ref (ad 53), .int (nI t.2.2.2.1), .ref (ad 54), .ref (ad 55), .ref (ad 56), .ref (ad 57), .ref (ad 58), .ref (ad 59), .ref (ad 60), .ref (ad 61), .int v_m_cl, .int v_m_wa, .int v_m_co_, .int v_m_fi, .int v_m_bu, .int v_m_ho, .ref (ad 62), .ref (ad 63), .ref (ad 64), .int v_m_lh, .int v_m_mg, .int v_m_wd, .int (t.2.2.2.2 3), .int (t.2.2.2.2 4), .ref (ad 65), .ref (ad 66), .ref (ad 67), .ref (ad 68), .long v_m_po, .long v_m_de])), ((ad 53), .inl (1, 108, .inl t.2.1)), ((ad 61), .inl (0, 108, .inl gp9_10)), ((ad 60), .inl (0, 108, .inl (fun k => nI (qn9_10 k)))), (q94, .inl (1, 108, .inl (fa_fill t.2.1 (fun _ => 0) 108))), (q121, .inl (0, 5, .inl (upd (upd (upd (fun _ => 0) 0 (nI t.2.2.2.1)) 1 (S_Mm_strength (ad 52) (ad 53) (ad 54) (ad 55) (ad 56) (ad 57) (ad 58) (ad 59) (ad 60) (ad 61) (ad 62) (ad 63) (ad 64) (ad 65) (ad 66) (ad 67) (ad 68) 0 (nI t.2.2.2.1) v_m_cl v_m_wa v_m_co_ v_m_fi v_m_bu v_m_ho v_m_lh v_m_mg v_m_wd (t.2.2.2.2 3) (t.2.2.2.2 4) v_m_po v_m_de)) 2 (S_Mm_draught (ad 52) (ad 53) (ad 54) (ad 55) (ad 56) (ad 57) (ad 58) (ad 59) (ad 60) (ad 61) (ad 62) (ad 63) (ad 64) (ad 65) (ad 66) (ad 67) (ad 68) 0 (nI t.2.2.2.1) v_m_cl v_m_wa v_m_co_ v_m_fi v_m_bu v_m_ho v_m_lh v_m_mg v_m_wd (t.2.2.2.2 3) (t.2.2.2.2 4) v_m_po v_m_de))))]) rfl ?_
                                    refine y_aload_n d_Mm_mould_145 rfl 0 rfl ?_
                                    refine y_iconst d_Mm_mould_146 (v := 3) (by decide) ?_
                                    refine y_aload_n d_Mm_mould_147 rfl 3 rfl ?_
                                    refine y_get fs_Mm_46 d_Mm_mould_148 (q0 := 0) rfl rfl ?_
                                    refine y_iast d_Mm_mould_151 (q0 := 5) rfl (fun q => q.elim (by decide) (by decide)) (f' := upd (upd (upd (upd (fun _ => 0) 0 (nI t.2.2.2.1)) 1 (S_Mm_strength (ad 52) (ad 53) (ad 54) (ad 55) (ad 56) (ad 57) (ad 58) (ad 59) (ad 60) (ad 61) (ad 62) (ad 63) (ad 64) (ad 65) (ad 66) (ad 67) (ad 68) 0 (nI t.2.2.2.1) v_m_cl v_m_wa v_m_co_ v_m_fi v_m_bu v_m_ho v_m_lh v_m_mg v_m_wd (t.2.2.2.2 3) (t.2.2.2.2 4) v_m_po v_m_de)) 2 (S_Mm_draught (ad 52) (ad 53) (ad 54) (ad 55) (ad 56) (ad 57) (ad 58) (ad 59) (ad 60) (ad 61) (ad 62) (ad 63) (ad 64) (ad 65) (ad 66) (ad 67) (ad 68) 0 (nI t.2.2.2.1) v_m_cl v_m_wa v_m_co_ v_m_fi v_m_bu v_m_ho v_m_lh v_m_mg v_m_wd (t.2.2.2.2 3) (t.2.2.2.2 4) v_m_po v_m_de)) 3 v_m_wa) rfl (cs' := [((ad 52), .inr (12, [.int 0, .ref (ad 53), .int (nI t.2.2.2.1), .ref (ad 54), .ref (ad 55), .ref (ad 56), .ref (ad 57), .ref (ad 58), .ref (ad 59), .ref (ad 60), .ref (ad 61), .int v_m_cl, .int v_m_wa, .int v_m_co_, .int v_m_fi, .int v_m_bu, .int v_m_ho, .ref (ad 62), .ref (ad 63), .ref (ad 64), .int v_m_lh, .int v_m_mg, .int v_m_wd, .int (t.2.2.2.2 3), .int (t.2.2.2.2 4), .ref (ad 65), .ref (ad 66), .ref (ad 67), .ref (ad 68), .long v_m_po, .long v_m_de])), ((ad 53), .inl (1, 108, .inl t.2.1)), ((ad 61), .inl (0, 108, .inl gp9_10)), ((ad 60), .inl (0, 108, .inl (fun k => nI (qn9_10 k)))), (q94, .inl (1, 108, .inl (fa_fill t.2.1 (fun _ => 0) 108))), (q121, .inl (0, 5, .inl (upd (upd (upd (upd (fun _ => 0) 0 (nI t.2.2.2.1)) 1 (S_Mm_strength (ad 52) (ad 53) (ad 54) (ad 55) (ad 56) (ad 57) (ad 58) (ad 59) (ad 60) (ad 61) (ad 62) (ad 63) (ad 64) (ad 65) (ad 66) (ad 67) (ad 68) 0 (nI t.2.2.2.1) v_m_cl v_m_wa v_m_co_ v_m_fi v_m_bu v_m_ho v_m_lh v_m_mg v_m_wd (t.2.2.2.2 3) (t.2.2.2.2 4) v_m_po v_m_de)) 2 (S_Mm_draught (ad 52) (ad 53) (ad 54) (ad 55) (ad 56) (ad 57) (ad 58) (ad 59) (ad 60) (ad 61) (ad 62) (ad 63) (ad 64) (ad 65) (ad 66) (ad 67) (ad 68) 0 (nI t.2.2.2.1) v_m_cl v_m_wa v_m_co_ v_m_fi v_m_bu v_m_ho v_m_lh v_m_mg v_m_wd (t.2.2.2.2 3) (t.2.2.2.2 4) v_m_po v_m_de)) 3 v_m_wa)))]) rfl ?_
                                    refine y_aload_n d_Mm_mould_152 rfl 3 rfl ?_
                                    refine y_get fs_Mm_72 d_Mm_mould_153 (q0 := 0) rfl rfl ?_
                                    refine y_aload_n d_Mm_mould_156 rfl 1 rfl ?_
                                    refine yw_callVL (As := [.ref q94]) (rest := []) (ci := 13) rfl (fun wA hA => ((hI.gen (t2 := t) (is := [52, 53, 61, 60]) (L2 := []) hA rfl ⟨kd_52.mpr ⟨_, _, _, _, _, _, _, _, _, _, _, _, rfl⟩, kd_53.mpr rfl, kd_61.mpr ⟨_, rfl⟩, kd_60.mpr ⟨_, rfl⟩, trivial⟩ (by decide) (by decide) (fun _ h => nomatch h) (fun _ h => nomatch h) (fun _ _ _ _ h => h) (fun h => h)).2.1.1 3 (by decide)).ob) ln_Mm_219 w_im_AL_add_0 w_se_AL_add_0 ok_Mm_mould_AL_add_0 d_Mm_mould_157 (fun wA hA => Q_add ((hI.gen (t2 := t) (is := [52, 53, 61, 60]) (L2 := []) hA rfl ⟨kd_52.mpr ⟨_, _, _, _, _, _, _, _, _, _, _, _, rfl⟩, kd_53.mpr rfl, kd_61.mpr ⟨_, rfl⟩, kd_60.mpr ⟨_, rfl⟩, trivial⟩ (by decide) (by decide) (fun _ h => nomatch h) (fun _ h => nomatch h) (fun _ _ _ _ h => h) (fun h => h)).2.1.1 3 (by decide)) (fun k hk => ((hI.gen (t2 := t) (is := [52, 53, 61, 60]) (L2 := []) hA rfl ⟨kd_52.mpr ⟨_, _, _, _, _, _, _, _, _, _, _, _, rfl⟩, kd_53.mpr rfl, kd_61.mpr ⟨_, rfl⟩, kd_60.mpr ⟨_, rfl⟩, trivial⟩ (by decide) (by decide) (fun _ h => nomatch h) (fun _ h => nomatch h) (fun _ _ _ _ h => h) (fun h => h)).2.1.2.1 3 (by decide) k hk).elt3) (EL.elt3 ((⟨hI.1.nfr (hA.nw (k := 4) rfl (Nat.le_of_ble_eq_true rfl)), _, hA.at (q0 := 4) rfl, fill_ch hf, (by rw [fill_gt]; exact (fun q => c_22 (by rw [q]; rfl)))⟩ : EL ad 3 _ _))) (by have := hsz.2.2.2.1; show u.1 3 < 33; omega)) rfl rfl (Nat.le_of_ble_eq_true rfl) (by omega) (by omega) (fun wA157 hA157 E wB157 hx => ?_) (fun wA157 hA157 v wB157 hx => ?_)
                                    · exact absurd hx.1 (by simp)
                                    · obtain ⟨e1, bk9, e2, e3, e4⟩ := hx
                                      cases e1
                                      refine yw_st (st2 := [.int 1]) rfl ?_
                                      have hsz := (hI.gen (t2 := t) (is := [52, 53, 61, 60]) (L2 := []) hA157 rfl ⟨kd_52.mpr ⟨_, _, _, _, _, _, _, _, _, _, _, _, rfl⟩, kd_53.mpr rfl, kd_61.mpr ⟨_, rfl⟩, kd_60.mpr ⟨_, rfl⟩, trivial⟩ (by decide) (by decide) (fun _ h => nomatch h) (fun _ h => nomatch h) (fun _ _ _ _ h => h) (fun h => h)).sz
                                      have hI8 := (hI.gen (t2 := t) (is := [52, 53, 61, 60]) (L2 := []) hA157 rfl ⟨kd_52.mpr ⟨_, _, _, _, _, _, _, _, _, _, _, _, rfl⟩, kd_53.mpr rfl, kd_61.mpr ⟨_, rfl⟩, kd_60.mpr ⟨_, rfl⟩, trivial⟩ (by decide) (by decide) (fun _ h => nomatch h) (fun _ h => nomatch h) (fun _ _ _ _ h => h) (fun h => h)).iw
                                      have hE8 := (⟨hI.1.nfr (hA157.nw (k := 4) rfl (Nat.le_of_ble_eq_true rfl)), _, hA157.at (q0 := 4) rfl, fill_ch hf, (by rw [fill_gt]; exact (fun q => c_22 (by rw [q]; rfl)))⟩ : EL ad 3 _ _)
                                      have nf_q121 := hI.1.nfr (hA157.nw (k := 5) rfl (Nat.le_of_ble_eq_true rfl))
                                      obtain ⟨fx_q121, hc157_5, h0_q⟩ : ∃ fx_q121 : Nat → Int32, wB157 q121 = some (.inl (0, 5, .inl fx_q121)) ∧ fx_q121 0 = nI t.2.2.2.1 := ⟨_, hI8.kp (L := 3) (by decide) nf_q121 (hA157.at (q0 := 5) rfl) (Or.inr (show (0 : Nat) < 5 by decide)) e4, rfl⟩
                                      have hI := hI8.app (L := 3) (by decide) hE8 e2 e3 e4
                                      obtain ⟨e_m, wf_m, k_m⟩ := hI.1.2 52 (by decide)
                                      obtain ⟨v_m_th, v_m_cl, v_m_wa, v_m_co_, v_m_fi, v_m_bu, v_m_ho, v_m_lh, v_m_mg, v_m_wd, v_m_po, v_m_de, rfl⟩ := kd_52.mp k_m
                                      obtain ⟨e_mp, wf_mp, k_mp⟩ := hI.1.2 53 (by decide)
                                      obtain rfl := kd_53.mp k_mp
                                      refine y_base (cs := [((ad 52), .inr (12, [.int v_m_th, .ref (ad 53), .int (nI t.2.2.2.1), .ref (ad 54), .ref (ad 55), .ref (ad 56), .ref (ad 57), .ref (ad 58), .ref (ad 59), .ref (ad 60), .ref (ad 61), .int v_m_cl, .int v_m_wa, .int v_m_co_, .int v_m_fi, .int v_m_bu, .int v_m_ho, .ref (ad 62), .ref (ad 63), .ref (ad 64), .int v_m_lh, .int v_m_mg, .int v_m_wd, .int (t.2.2.2.2 3), .int (t.2.2.2.2 4), .ref (ad 65), .ref (ad 66), .ref (ad 67), .ref (ad 68), .long v_m_po, .long v_m_de])), ((ad 53), .inl (1, 108, .inl t.2.1)), (q121, .inl (0, 5, .inl fx_q121))]) (hI.1.B [52, 53] [((ad 52), .inr (12, [.int v_m_th, .ref (ad 53), .int (nI t.2.2.2.1), .ref (ad 54), .ref (ad 55), .ref (ad 56), .ref (ad 57), .ref (ad 58), .ref (ad 59), .ref (ad 60), .ref (ad 61), .int v_m_cl, .int v_m_wa, .int v_m_co_, .int v_m_fi, .int v_m_bu, .int v_m_ho, .ref (ad 62), .ref (ad 63), .ref (ad 64), .int v_m_lh, .int v_m_mg, .int v_m_wd, .int (t.2.2.2.2 3), .int (t.2.2.2.2 4), .ref (ad 65), .ref (ad 66), .ref (ad 67), .ref (ad 68), .long v_m_po, .long v_m_de])), ((ad 53), .inl (1, 108, .inl t.2.1))] [(q121, .inl (0, 5, .inl fx_q121))] rfl (by decide) (by decide) (List.forall_mem_cons.mpr ⟨wf_m, (List.forall_mem_cons.mpr ⟨wf_mp, (fun _ h => nomatch h)⟩)⟩) (List.forall_mem_cons.mpr ⟨hc157_5, (fun _ h => nomatch h)⟩) (List.forall_mem_cons.mpr ⟨nf_q121, (fun _ h => nomatch h)⟩) (by simp [z_kd])) ?_
                                      refine y_pop d_Mm_mould_160 rfl ?_
                                      refine y_aload_n d_Mm_mould_161 rfl 3 rfl ?_
                                      refine y_get fs_Mm_75 d_Mm_mould_162 (q0 := 0) rfl rfl ?_
                                      refine y_aload_n d_Mm_mould_165 rfl 0 rfl ?_
                                      refine yw_callVL (As := [.ref q121]) (rest := []) (ci := 13) rfl (fun wA hA => ((hI.gen (t2 := t) (is := [52, 53]) (L2 := [q121]) hA rfl ⟨kd_52.mpr ⟨_, _, _, _, _, _, _, _, _, _, _, _, rfl⟩, kd_53.mpr rfl, trivial⟩ (by decide) (by decide) (List.forall_mem_cons.mpr ⟨nf_q121, (fun _ h => nomatch h)⟩) (List.forall_mem_cons.mpr ⟨⟨_, _, hc157_5, hA.at (q0 := 2) rfl, Or.inl rfl⟩, (fun _ h => nomatch h)⟩) (fun _ _ _ _ h => h) (fun h => h)).2.1.1 4 (by decide)).ob) ln_Mm_219 w_im_AL_add_0 w_se_AL_add_0 ok_Mm_mould_AL_add_0 d_Mm_mould_166 (fun wA hA => Q_add ((hI.gen (t2 := t) (is := [52, 53]) (L2 := [q121]) hA rfl ⟨kd_52.mpr ⟨_, _, _, _, _, _, _, _, _, _, _, _, rfl⟩, kd_53.mpr rfl, trivial⟩ (by decide) (by decide) (List.forall_mem_cons.mpr ⟨nf_q121, (fun _ h => nomatch h)⟩) (List.forall_mem_cons.mpr ⟨⟨_, _, hc157_5, hA.at (q0 := 2) rfl, Or.inl rfl⟩, (fun _ h => nomatch h)⟩) (fun _ _ _ _ h => h) (fun h => h)).2.1.1 4 (by decide)) (fun k hk => ((hI.gen (t2 := t) (is := [52, 53]) (L2 := [q121]) hA rfl ⟨kd_52.mpr ⟨_, _, _, _, _, _, _, _, _, _, _, _, rfl⟩, kd_53.mpr rfl, trivial⟩ (by decide) (by decide) (List.forall_mem_cons.mpr ⟨nf_q121, (fun _ h => nomatch h)⟩) (List.forall_mem_cons.mpr ⟨⟨_, _, hc157_5, hA.at (q0 := 2) rfl, Or.inl rfl⟩, (fun _ h => nomatch h)⟩) (fun _ _ _ _ h => h) (fun h => h)).2.1.2.1 4 (by decide) k hk).elt4) (EL.elt4 ((⟨nf_q121, _, t.2.2.2.1, hA.at (q0 := 2) rfl, h0_q, hI.2.2.2.2.2⟩ : EL ad 4 _ _))) (by have := hsz.2.2.2.1; have := hsz.2.2.2.2.1; show u.1 4 < 33; omega)) rfl rfl (Nat.le_of_ble_eq_true rfl) (by omega) (by omega) (fun wA166 hA166 E wB166 hx => ?_) (fun wA166 hA166 v wB166 hx => ?_)
                                      · exact absurd hx.1 (by simp)
                                      · obtain ⟨e1, bk9, e2, e3, e4⟩ := hx
                                        cases e1
                                        refine yw_st (st2 := [.int 1]) rfl ?_
                                        have hI8 := (hI.gen (t2 := t) (is := [52, 53]) (L2 := [q121]) hA166 rfl ⟨kd_52.mpr ⟨_, _, _, _, _, _, _, _, _, _, _, _, rfl⟩, kd_53.mpr rfl, trivial⟩ (by decide) (by decide) (List.forall_mem_cons.mpr ⟨nf_q121, (fun _ h => nomatch h)⟩) (List.forall_mem_cons.mpr ⟨⟨_, _, hc157_5, hA166.at (q0 := 2) rfl, Or.inl rfl⟩, (fun _ h => nomatch h)⟩) (fun _ _ _ _ h => h) (fun h => h))
                                        have hE8 := (⟨nf_q121, _, t.2.2.2.1, hA166.at (q0 := 2) rfl, h0_q, hI.2.2.2.2.2⟩ : EL ad 4 _ _)
                                        have hI := (hI8.app (L := 4) (by decide) hE8 e2 e3 e4).iv (hsz.s34 (by have := hsz.2.2.2.1; have : ¬ u.1 3 = 10 := (fun q => c_75 (by rw [q]; rfl)); omega) (by have := hsz.2.2.2.2.1; show u.1 4 + 1 = u.1 3 + 1; omega))
                                        obtain ⟨e_m, wf_m, k_m⟩ := hI.1.2 52 (by decide)
                                        obtain ⟨v_m_th, v_m_cl, v_m_wa, v_m_co_, v_m_fi, v_m_bu, v_m_ho, v_m_lh, v_m_mg, v_m_wd, v_m_po, v_m_de, rfl⟩ := kd_52.mp k_m
                                        obtain ⟨e_mp, wf_mp, k_mp⟩ := hI.1.2 53 (by decide)
                                        obtain rfl := kd_53.mp k_mp
                                        refine y_base (cs := [((ad 52), .inr (12, [.int v_m_th, .ref (ad 53), .int (nI t.2.2.2.1), .ref (ad 54), .ref (ad 55), .ref (ad 56), .ref (ad 57), .ref (ad 58), .ref (ad 59), .ref (ad 60), .ref (ad 61), .int v_m_cl, .int v_m_wa, .int v_m_co_, .int v_m_fi, .int v_m_bu, .int v_m_ho, .ref (ad 62), .ref (ad 63), .ref (ad 64), .int v_m_lh, .int v_m_mg, .int v_m_wd, .int (t.2.2.2.2 3), .int (t.2.2.2.2 4), .ref (ad 65), .ref (ad 66), .ref (ad 67), .ref (ad 68), .long v_m_po, .long v_m_de])), ((ad 53), .inl (1, 108, .inl t.2.1))]) (hI.1.B [52, 53] [((ad 52), .inr (12, [.int v_m_th, .ref (ad 53), .int (nI t.2.2.2.1), .ref (ad 54), .ref (ad 55), .ref (ad 56), .ref (ad 57), .ref (ad 58), .ref (ad 59), .ref (ad 60), .ref (ad 61), .int v_m_cl, .int v_m_wa, .int v_m_co_, .int v_m_fi, .int v_m_bu, .int v_m_ho, .ref (ad 62), .ref (ad 63), .ref (ad 64), .int v_m_lh, .int v_m_mg, .int v_m_wd, .int (t.2.2.2.2 3), .int (t.2.2.2.2 4), .ref (ad 65), .ref (ad 66), .ref (ad 67), .ref (ad 68), .long v_m_po, .long v_m_de])), ((ad 53), .inl (1, 108, .inl t.2.1))] [] rfl (by decide) (by decide) (List.forall_mem_cons.mpr ⟨wf_m, (List.forall_mem_cons.mpr ⟨wf_mp, (fun _ h => nomatch h)⟩)⟩) (fun _ h => nomatch h) (fun _ h => nomatch h) (by simp [z_kd])) ?_
                                        refine y_pop d_Mm_mould_169 rfl ?_
                                        refine y_aload_n d_Mm_mould_170 rfl 3 rfl ?_
                                        refine y_iload_n d_Mm_mould_171 rfl 2 rfl ?_
                                        refine yw_callV (As := [.int (nI nn9_10)]) (rest := []) (q0 := 0) rfl rfl ln_Mm_285 w_im_Mm_takeCores w_se_Mm_takeCores ok_Mm_mould_Mm_takeCores d_Mm_mould_172 (fun wA hA => Q_takeCores (hI.gen (t2 := t) (is := [52, 53]) (L2 := []) hA rfl ⟨kd_52.mpr ⟨_, _, _, _, _, _, _, _, _, _, _, _, rfl⟩, kd_53.mpr rfl, trivial⟩ (by decide) (by decide) (fun _ h => nomatch h) (fun _ h => nomatch h) (fun _ _ _ _ h => h) (fun h => h)) (nI nn9_10)) rfl rfl (Nat.le_of_ble_eq_true rfl) (by omega) (by omega) (fun wA172 hA172 E wB172 hx => ?_) (fun wA172 hA172 v wB172 hx => ?_)
                                        · exact absurd hx.1 (by simp)
                                        · obtain ⟨e1, u, hI⟩ := hx
                                          cases e1
                                          refine yw_st (st2 := []) rfl ?_
                                          obtain ⟨e_m, wf_m, k_m⟩ := hI.1.2 52 (by decide)
                                          obtain ⟨v_m_th, v_m_cl, v_m_wa, v_m_co_, v_m_fi, v_m_bu, v_m_ho, v_m_lh, v_m_mg, v_m_wd, v_m_po, v_m_de, rfl⟩ := kd_52.mp k_m
                                          obtain ⟨e_mp, wf_mp, k_mp⟩ := hI.1.2 53 (by decide)
                                          obtain rfl := kd_53.mp k_mp
                                          refine y_base (cs := [((ad 52), .inr (12, [.int v_m_th, .ref (ad 53), .int (nI t.2.2.2.1), .ref (ad 54), .ref (ad 55), .ref (ad 56), .ref (ad 57), .ref (ad 58), .ref (ad 59), .ref (ad 60), .ref (ad 61), .int v_m_cl, .int v_m_wa, .int v_m_co_, .int v_m_fi, .int v_m_bu, .int v_m_ho, .ref (ad 62), .ref (ad 63), .ref (ad 64), .int v_m_lh, .int v_m_mg, .int v_m_wd, .int (t.2.2.2.2 3), .int (t.2.2.2.2 4), .ref (ad 65), .ref (ad 66), .ref (ad 67), .ref (ad 68), .long v_m_po, .long v_m_de])), ((ad 53), .inl (1, 108, .inl t.2.1))]) (hI.1.B [52, 53] [((ad 52), .inr (12, [.int v_m_th, .ref (ad 53), .int (nI t.2.2.2.1), .ref (ad 54), .ref (ad 55), .ref (ad 56), .ref (ad 57), .ref (ad 58), .ref (ad 59), .ref (ad 60), .ref (ad 61), .int v_m_cl, .int v_m_wa, .int v_m_co_, .int v_m_fi, .int v_m_bu, .int v_m_ho, .ref (ad 62), .ref (ad 63), .ref (ad 64), .int v_m_lh, .int v_m_mg, .int v_m_wd, .int (t.2.2.2.2 3), .int (t.2.2.2.2 4), .ref (ad 65), .ref (ad 66), .ref (ad 67), .ref (ad 68), .long v_m_po, .long v_m_de])), ((ad 53), .inl (1, 108, .inl t.2.1))] [] rfl (by decide) (by decide) (List.forall_mem_cons.mpr ⟨wf_m, (List.forall_mem_cons.mpr ⟨wf_mp, (fun _ h => nomatch h)⟩)⟩) (fun _ h => nomatch h) (fun _ h => nomatch h) (by simp [z_kd])) ?_
                                          refine y_aload_n d_Mm_mould_175 rfl 3 rfl ?_
                                          refine y_aload_n d_Mm_mould_176 rfl 3 rfl ?_
                                          refine y_get fs_Mm_43 d_Mm_mould_177 (q0 := 0) rfl rfl ?_
                                          refine y_iconst d_Mm_mould_180 (v := 3) (by decide) ?_
                                          refine y_isub d_Mm_mould_181 (v := v_m_cl - 3) rfl ?_
                                          refine y_callS (As := [.int (v_m_cl - 3)]) (rest := [.ref (ad 52)]) (csC := []) (is := []) ln_Mm_196 w_st_Mm_most ok_Mm_mould_Mm_most d_Mm_mould_182 (C_Mm_most g (v_m_cl - 3)) rfl rfl (Nat.le_of_ble_eq_true rfl) rfl (by decide) (by omega) (by omega) (fun E cs1 hx => ?_) (fun v cs1 hx => ?_)
                                          · exact absurd hx.1 (by simp)
                                          · obtain ⟨e1, rfl⟩ := hx
                                            cases e1
                                            refine ⟨rfl, ?_⟩
                                            refine y_st (st2 := [.int (S_Mm_most (v_m_cl - 3)), .ref (ad 52)]) rfl ?_
                                            refine y_cs (cs2 := [((ad 52), .inr (12, [.int v_m_th, .ref (ad 53), .int (nI t.2.2.2.1), .ref (ad 54), .ref (ad 55), .ref (ad 56), .ref (ad 57), .ref (ad 58), .ref (ad 59), .ref (ad 60), .ref (ad 61), .int v_m_cl, .int v_m_wa, .int v_m_co_, .int v_m_fi, .int v_m_bu, .int v_m_ho, .ref (ad 62), .ref (ad 63), .ref (ad 64), .int v_m_lh, .int v_m_mg, .int v_m_wd, .int (t.2.2.2.2 3), .int (t.2.2.2.2 4), .ref (ad 65), .ref (ad 66), .ref (ad 67), .ref (ad 68), .long v_m_po, .long v_m_de])), ((ad 53), .inl (1, 108, .inl t.2.1))]) rfl ?_
                                            refine y_put fp_Mm_43 d_Mm_mould_185 (fun h => nomatch h) rfl rfl (q0 := 0) rfl (Nat.le_of_ble_eq_true rfl) (cs' := [((ad 52), .inr (12, [.int v_m_th, .ref (ad 53), .int (nI t.2.2.2.1), .ref (ad 54), .ref (ad 55), .ref (ad 56), .ref (ad 57), .ref (ad 58), .ref (ad 59), .ref (ad 60), .ref (ad 61), .int (S_Mm_most (v_m_cl - 3)), .int v_m_wa, .int v_m_co_, .int v_m_fi, .int v_m_bu, .int v_m_ho, .ref (ad 62), .ref (ad 63), .ref (ad 64), .int v_m_lh, .int v_m_mg, .int v_m_wd, .int (t.2.2.2.2 3), .int (t.2.2.2.2 4), .ref (ad 65), .ref (ad 66), .ref (ad 67), .ref (ad 68), .long v_m_po, .long v_m_de])), ((ad 53), .inl (1, 108, .inl t.2.1))]) rfl ?_
                                            refine y_aload_n d_Mm_mould_188 rfl 3 rfl ?_
                                            refine y_aload_n d_Mm_mould_189 rfl 3 rfl ?_
                                            refine y_get fs_Mm_46 d_Mm_mould_190 (q0 := 0) rfl rfl ?_
                                            refine y_bipush d_Mm_mould_193 (v := 8) (by decide) ?_
                                            refine y_isub d_Mm_mould_195 (v := v_m_wa - 8) rfl ?_
                                            refine y_callS (As := [.int (v_m_wa - 8)]) (rest := [.ref (ad 52)]) (csC := []) (is := []) ln_Mm_196 w_st_Mm_most ok_Mm_mould_Mm_most d_Mm_mould_196 (C_Mm_most g (v_m_wa - 8)) rfl rfl (Nat.le_of_ble_eq_true rfl) rfl (by decide) (by omega) (by omega) (fun E cs1 hx => ?_) (fun v cs1 hx => ?_)
                                            · exact absurd hx.1 (by simp)
                                            · obtain ⟨e1, rfl⟩ := hx
                                              cases e1
                                              refine ⟨rfl, ?_⟩
                                              refine y_st (st2 := [.int (S_Mm_most (v_m_wa - 8)), .ref (ad 52)]) rfl ?_
                                              refine y_cs (cs2 := [((ad 52), .inr (12, [.int v_m_th, .ref (ad 53), .int (nI t.2.2.2.1), .ref (ad 54), .ref (ad 55), .ref (ad 56), .ref (ad 57), .ref (ad 58), .ref (ad 59), .ref (ad 60), .ref (ad 61), .int (S_Mm_most (v_m_cl - 3)), .int v_m_wa, .int v_m_co_, .int v_m_fi, .int v_m_bu, .int v_m_ho, .ref (ad 62), .ref (ad 63), .ref (ad 64), .int v_m_lh, .int v_m_mg, .int v_m_wd, .int (t.2.2.2.2 3), .int (t.2.2.2.2 4), .ref (ad 65), .ref (ad 66), .ref (ad 67), .ref (ad 68), .long v_m_po, .long v_m_de])), ((ad 53), .inl (1, 108, .inl t.2.1))]) rfl ?_
                                              refine y_put fp_Mm_46 d_Mm_mould_199 (fun h => nomatch h) rfl rfl (q0 := 0) rfl (Nat.le_of_ble_eq_true rfl) (cs' := [((ad 52), .inr (12, [.int v_m_th, .ref (ad 53), .int (nI t.2.2.2.1), .ref (ad 54), .ref (ad 55), .ref (ad 56), .ref (ad 57), .ref (ad 58), .ref (ad 59), .ref (ad 60), .ref (ad 61), .int (S_Mm_most (v_m_cl - 3)), .int (S_Mm_most (v_m_wa - 8)), .int v_m_co_, .int v_m_fi, .int v_m_bu, .int v_m_ho, .ref (ad 62), .ref (ad 63), .ref (ad 64), .int v_m_lh, .int v_m_mg, .int v_m_wd, .int (t.2.2.2.2 3), .int (t.2.2.2.2 4), .ref (ad 65), .ref (ad 66), .ref (ad 67), .ref (ad 68), .long v_m_po, .long v_m_de])), ((ad 53), .inl (1, 108, .inl t.2.1))]) rfl ?_
                                              refine y_aload_n d_Mm_mould_202 rfl 3 rfl ?_
                                              refine y_aload_n d_Mm_mould_203 rfl 3 rfl ?_
                                              refine y_get fs_Mm_49 d_Mm_mould_204 (q0 := 0) rfl rfl ?_
                                              refine y_iconst d_Mm_mould_207 (v := 4) (by decide) ?_
                                              refine y_isub d_Mm_mould_208 (v := v_m_co_ - 4) rfl ?_
                                              refine y_callS (As := [.int (v_m_co_ - 4)]) (rest := [.ref (ad 52)]) (csC := []) (is := []) ln_Mm_196 w_st_Mm_most ok_Mm_mould_Mm_most d_Mm_mould_209 (C_Mm_most g (v_m_co_ - 4)) rfl rfl (Nat.le_of_ble_eq_true rfl) rfl (by decide) (by omega) (by omega) (fun E cs1 hx => ?_) (fun v cs1 hx => ?_)
                                              · exact absurd hx.1 (by simp)
                                              · obtain ⟨e1, rfl⟩ := hx
                                                cases e1
                                                refine ⟨rfl, ?_⟩
                                                refine y_st (st2 := [.int (S_Mm_most (v_m_co_ - 4)), .ref (ad 52)]) rfl ?_
                                                refine y_cs (cs2 := [((ad 52), .inr (12, [.int v_m_th, .ref (ad 53), .int (nI t.2.2.2.1), .ref (ad 54), .ref (ad 55), .ref (ad 56), .ref (ad 57), .ref (ad 58), .ref (ad 59), .ref (ad 60), .ref (ad 61), .int (S_Mm_most (v_m_cl - 3)), .int (S_Mm_most (v_m_wa - 8)), .int v_m_co_, .int v_m_fi, .int v_m_bu, .int v_m_ho, .ref (ad 62), .ref (ad 63), .ref (ad 64), .int v_m_lh, .int v_m_mg, .int v_m_wd, .int (t.2.2.2.2 3), .int (t.2.2.2.2 4), .ref (ad 65), .ref (ad 66), .ref (ad 67), .ref (ad 68), .long v_m_po, .long v_m_de])), ((ad 53), .inl (1, 108, .inl t.2.1))]) rfl ?_
                                                refine y_put fp_Mm_49 d_Mm_mould_212 (fun h => nomatch h) rfl rfl (q0 := 0) rfl (Nat.le_of_ble_eq_true rfl) (cs' := [((ad 52), .inr (12, [.int v_m_th, .ref (ad 53), .int (nI t.2.2.2.1), .ref (ad 54), .ref (ad 55), .ref (ad 56), .ref (ad 57), .ref (ad 58), .ref (ad 59), .ref (ad 60), .ref (ad 61), .int (S_Mm_most (v_m_cl - 3)), .int (S_Mm_most (v_m_wa - 8)), .int (S_Mm_most (v_m_co_ - 4)), .int v_m_fi, .int v_m_bu, .int v_m_ho, .ref (ad 62), .ref (ad 63), .ref (ad 64), .int v_m_lh, .int v_m_mg, .int v_m_wd, .int (t.2.2.2.2 3), .int (t.2.2.2.2 4), .ref (ad 65), .ref (ad 66), .ref (ad 67), .ref (ad 68), .long v_m_po, .long v_m_de])), ((ad 53), .inl (1, 108, .inl t.2.1))]) rfl ?_
                                                refine y_aload_n d_Mm_mould_215 rfl 3 rfl ?_
                                                refine y_aload_n d_Mm_mould_216 rfl 3 rfl ?_
                                                refine y_get fs_Mm_52 d_Mm_mould_217 (q0 := 0) rfl rfl ?_
                                                refine y_iconst d_Mm_mould_220 (v := 2) (by decide) ?_
                                                refine y_iadd d_Mm_mould_221 (v := v_m_fi + 2) rfl ?_
                                                refine y_callS (As := [.int (v_m_fi + 2)]) (rest := [.ref (ad 52)]) (csC := []) (is := []) ln_Mm_196 w_st_Mm_most ok_Mm_mould_Mm_most d_Mm_mould_222 (C_Mm_most g (v_m_fi + 2)) rfl rfl (Nat.le_of_ble_eq_true rfl) rfl (by decide) (by omega) (by omega) (fun E cs1 hx => ?_) (fun v cs1 hx => ?_)
                                                · exact absurd hx.1 (by simp)
                                                · obtain ⟨e1, rfl⟩ := hx
                                                  cases e1
                                                  refine ⟨rfl, ?_⟩
                                                  refine y_st (st2 := [.int (S_Mm_most (v_m_fi + 2)), .ref (ad 52)]) rfl ?_
                                                  refine y_cs (cs2 := [((ad 52), .inr (12, [.int v_m_th, .ref (ad 53), .int (nI t.2.2.2.1), .ref (ad 54), .ref (ad 55), .ref (ad 56), .ref (ad 57), .ref (ad 58), .ref (ad 59), .ref (ad 60), .ref (ad 61), .int (S_Mm_most (v_m_cl - 3)), .int (S_Mm_most (v_m_wa - 8)), .int (S_Mm_most (v_m_co_ - 4)), .int v_m_fi, .int v_m_bu, .int v_m_ho, .ref (ad 62), .ref (ad 63), .ref (ad 64), .int v_m_lh, .int v_m_mg, .int v_m_wd, .int (t.2.2.2.2 3), .int (t.2.2.2.2 4), .ref (ad 65), .ref (ad 66), .ref (ad 67), .ref (ad 68), .long v_m_po, .long v_m_de])), ((ad 53), .inl (1, 108, .inl t.2.1))]) rfl ?_
                                                  refine y_put fp_Mm_52 d_Mm_mould_225 (fun h => nomatch h) rfl rfl (q0 := 0) rfl (Nat.le_of_ble_eq_true rfl) (cs' := [((ad 52), .inr (12, [.int v_m_th, .ref (ad 53), .int (nI t.2.2.2.1), .ref (ad 54), .ref (ad 55), .ref (ad 56), .ref (ad 57), .ref (ad 58), .ref (ad 59), .ref (ad 60), .ref (ad 61), .int (S_Mm_most (v_m_cl - 3)), .int (S_Mm_most (v_m_wa - 8)), .int (S_Mm_most (v_m_co_ - 4)), .int (S_Mm_most (v_m_fi + 2)), .int v_m_bu, .int v_m_ho, .ref (ad 62), .ref (ad 63), .ref (ad 64), .int v_m_lh, .int v_m_mg, .int v_m_wd, .int (t.2.2.2.2 3), .int (t.2.2.2.2 4), .ref (ad 65), .ref (ad 66), .ref (ad 67), .ref (ad 68), .long v_m_po, .long v_m_de])), ((ad 53), .inl (1, 108, .inl t.2.1))]) rfl ?_
                                                  refine y_aload_n d_Mm_mould_228 rfl 3 rfl ?_
                                                  refine y_aload_n d_Mm_mould_229 rfl 3 rfl ?_
                                                  refine y_get fs_Mm_190 d_Mm_mould_230 (q0 := 0) rfl rfl ?_
                                                  refine y_bipush d_Mm_mould_233 (v := 10) (by decide) ?_
                                                  refine y_iadd d_Mm_mould_235 (v := v_m_bu + 10) rfl ?_
                                                  refine y_aload_n d_Mm_mould_236 rfl 3 rfl ?_
                                                  refine y_get fs_Mm_7 d_Mm_mould_237 (q0 := 0) rfl rfl ?_
                                                  refine y_callS (As := [.ref (ad 53)]) (rest := [.int (v_m_bu + 10), .ref (ad 52)]) (csC := [((ad 53), .inl (1, 108, .inl t.2.1))]) (is := [1]) ln_Mm_134 w_st_Mm_cellsIn ok_Mm_mould_Mm_cellsIn d_Mm_mould_240 (C_Mm_cellsIn g (ad 53) t.2.1) rfl rfl (Nat.le_of_ble_eq_true rfl) rfl (by decide) (by omega) (by omega) (fun E cs1 hx => ?_) (fun v cs1 hx => ?_)
                                                  · exact absurd hx.1 (by simp)
                                                  · obtain ⟨e1, rfl⟩ := hx
                                                    cases e1
                                                    refine ⟨rfl, ?_⟩
                                                    refine y_st (st2 := [.int (nI (fa_cnt (fun k => tmB (t.2.1 k)) 108)), .int (v_m_bu + 10), .ref (ad 52)]) rfl ?_
                                                    refine y_cs (cs2 := [((ad 52), .inr (12, [.int v_m_th, .ref (ad 53), .int (nI t.2.2.2.1), .ref (ad 54), .ref (ad 55), .ref (ad 56), .ref (ad 57), .ref (ad 58), .ref (ad 59), .ref (ad 60), .ref (ad 61), .int (S_Mm_most (v_m_cl - 3)), .int (S_Mm_most (v_m_wa - 8)), .int (S_Mm_most (v_m_co_ - 4)), .int (S_Mm_most (v_m_fi + 2)), .int v_m_bu, .int v_m_ho, .ref (ad 62), .ref (ad 63), .ref (ad 64), .int v_m_lh, .int v_m_mg, .int v_m_wd, .int (t.2.2.2.2 3), .int (t.2.2.2.2 4), .ref (ad 65), .ref (ad 66), .ref (ad 67), .ref (ad 68), .long v_m_po, .long v_m_de])), ((ad 53), .inl (1, 108, .inl t.2.1))]) rfl ?_
                                                    refine y_iconst d_Mm_mould_243 (v := 4) (by decide) ?_
                                                    refine y_idiv d_Mm_mould_244 (v := (nI (fa_cnt (fun k => tmB (t.2.1 k)) 108)) / 4) (by decide) rfl ?_
                                                    refine y_iadd d_Mm_mould_245 (v := (v_m_bu + 10) + ((nI (fa_cnt (fun k => tmB (t.2.1 k)) 108)) / 4)) rfl ?_
                                                    refine y_callS (As := [.int ((v_m_bu + 10) + ((nI (fa_cnt (fun k => tmB (t.2.1 k)) 108)) / 4))]) (rest := [.ref (ad 52)]) (csC := []) (is := []) ln_Mm_196 w_st_Mm_most ok_Mm_mould_Mm_most d_Mm_mould_246 (C_Mm_most g ((v_m_bu + 10) + ((nI (fa_cnt (fun k => tmB (t.2.1 k)) 108)) / 4))) rfl rfl (Nat.le_of_ble_eq_true rfl) rfl (by decide) (by omega) (by omega) (fun E cs1 hx => ?_) (fun v cs1 hx => ?_)
                                                    · exact absurd hx.1 (by simp)
                                                    · obtain ⟨e1, rfl⟩ := hx
                                                      cases e1
                                                      refine ⟨rfl, ?_⟩
                                                      refine y_st (st2 := [.int (S_Mm_most ((v_m_bu + 10) + ((nI (fa_cnt (fun k => tmB (t.2.1 k)) 108)) / 4))), .ref (ad 52)]) rfl ?_
                                                      refine y_cs (cs2 := [((ad 52), .inr (12, [.int v_m_th, .ref (ad 53), .int (nI t.2.2.2.1), .ref (ad 54), .ref (ad 55), .ref (ad 56), .ref (ad 57), .ref (ad 58), .ref (ad 59), .ref (ad 60), .ref (ad 61), .int (S_Mm_most (v_m_cl - 3)), .int (S_Mm_most (v_m_wa - 8)), .int (S_Mm_most (v_m_co_ - 4)), .int (S_Mm_most (v_m_fi + 2)), .int v_m_bu, .int v_m_ho, .ref (ad 62), .ref (ad 63), .ref (ad 64), .int v_m_lh, .int v_m_mg, .int v_m_wd, .int (t.2.2.2.2 3), .int (t.2.2.2.2 4), .ref (ad 65), .ref (ad 66), .ref (ad 67), .ref (ad 68), .long v_m_po, .long v_m_de])), ((ad 53), .inl (1, 108, .inl t.2.1))]) rfl ?_
                                                      refine y_put fp_Mm_190 d_Mm_mould_249 (fun h => nomatch h) rfl rfl (q0 := 0) rfl (Nat.le_of_ble_eq_true rfl) (cs' := [((ad 52), .inr (12, [.int v_m_th, .ref (ad 53), .int (nI t.2.2.2.1), .ref (ad 54), .ref (ad 55), .ref (ad 56), .ref (ad 57), .ref (ad 58), .ref (ad 59), .ref (ad 60), .ref (ad 61), .int (S_Mm_most (v_m_cl - 3)), .int (S_Mm_most (v_m_wa - 8)), .int (S_Mm_most (v_m_co_ - 4)), .int (S_Mm_most (v_m_fi + 2)), .int (S_Mm_most ((v_m_bu + 10) + ((nI (fa_cnt (fun k => tmB (t.2.1 k)) 108)) / 4))), .int v_m_ho, .ref (ad 62), .ref (ad 63), .ref (ad 64), .int v_m_lh, .int v_m_mg, .int v_m_wd, .int (t.2.2.2.2 3), .int (t.2.2.2.2 4), .ref (ad 65), .ref (ad 66), .ref (ad 67), .ref (ad 68), .long v_m_po, .long v_m_de])), ((ad 53), .inl (1, 108, .inl t.2.1))]) rfl ?_
                                                      refine y_aload_n d_Mm_mould_252 rfl 3 rfl ?_
                                                      refine y_get fs_Mm_72 d_Mm_mould_253 (q0 := 0) rfl rfl ?_
                                                      refine yw_callVL (As := []) (rest := []) (ci := 13) rfl (fun wA hA => ((hI.gen (t2 := t) (is := [52, 53]) (L2 := []) hA rfl ⟨kd_52.mpr ⟨_, _, _, _, _, _, _, _, _, _, _, _, rfl⟩, kd_53.mpr rfl, trivial⟩ (by decide) (by decide) (fun _ h => nomatch h) (fun _ h => nomatch h) (fun _ _ _ _ h => h) (fun h => h)).2.1.1 3 (by decide)).ob) ln_Mm_208 w_im_AL_size w_se_AL_size ok_Mm_mould_AL_size d_Mm_mould_256 (fun wA hA => Q_size ((hI.gen (t2 := t) (is := [52, 53]) (L2 := []) hA rfl ⟨kd_52.mpr ⟨_, _, _, _, _, _, _, _, _, _, _, _, rfl⟩, kd_53.mpr rfl, trivial⟩ (by decide) (by decide) (fun _ h => nomatch h) (fun _ h => nomatch h) (fun _ _ _ _ h => h) (fun h => h)).2.1.1 3 (by decide))) rfl rfl (Nat.le_of_ble_eq_true rfl) (by omega) (by omega) (fun wA256 hA256 E wB256 hx => ?_) (fun wA256 hA256 v wB256 hx => ?_)
                                                      · exact absurd hx.1 (by simp)
                                                      · obtain ⟨e1, e2⟩ := hx
                                                        cases e1
                                                        refine yw_st (st2 := [.int (nI (u.1 3))]) rfl ?_
                                                        subst e2
                                                        refine y_go hA256 ?_
                                                        refine y_iret d_Mm_mould_259 rfl rfl ?_
                                                        exact fun w1 h1 => ⟨⟨_, rfl⟩, ⟨_, (hI.gen (t2 := t) (is := [52, 53]) (L2 := []) h1 rfl ⟨kd_52.mpr ⟨_, _, _, _, _, _, _, _, _, _, _, _, rfl⟩, kd_53.mpr rfl, trivial⟩ (by decide) (by decide) (fun _ h => nomatch h) (fun _ h => nomatch h) (fun _ _ _ _ h => h) (fun h => h))⟩⟩
                              · exact absurd c_87 (by decide)
                          · refine y_iconst d_Mm_mould_78 (v := 1) (by decide) ?_
                            refine y_goto (tgt := 83) d_Mm_mould_79 (by decide) ?_
                            refine y_iconst d_Mm_mould_83 (v := 3) (by decide) ?_
                            refine y_callV (As := [.int 1, .int 3]) (rest := []) (csC := [((ad 52), .inr (12, [.int 0, .ref (ad 53), .int (nI t.2.2.2.1), .ref (ad 54), .ref (ad 55), .ref (ad 56), .ref (ad 57), .ref (ad 58), .ref (ad 59), .ref (ad 60), .ref (ad 61), .int v_m_cl, .int v_m_wa, .int v_m_co_, .int v_m_fi, .int v_m_bu, .int v_m_ho, .ref (ad 62), .ref (ad 63), .ref (ad 64), .int v_m_lh, .int v_m_mg, .int v_m_wd, .int (t.2.2.2.2 3), .int (t.2.2.2.2 4), .ref (ad 65), .ref (ad 66), .ref (ad 67), .ref (ad 68), .long v_m_po, .long v_m_de]))]) (is := [0]) (q0 := 0) rfl rfl ln_Mm_103 w_im_Mm_fails w_se_Mm_fails ok_Mm_mould_Mm_fails d_Mm_mould_84 (C_Mm_fails3 g (ad 52) (ad 53) (ad 54) (ad 55) (ad 56) (ad 57) (ad 58) (ad 59) (ad 60) (ad 61) (ad 62) (ad 63) (ad 64) (ad 65) (ad 66) (ad 67) (ad 68) 0 (nI t.2.2.2.1) v_m_cl v_m_wa v_m_co_ v_m_fi v_m_bu v_m_ho v_m_lh v_m_mg v_m_wd (t.2.2.2.2 3) (t.2.2.2.2 4) v_m_po v_m_de) rfl rfl (Nat.le_of_ble_eq_true rfl) rfl (by decide) (by omega) (by omega) (fun E cs1 hx => ?_) (fun v cs1 hx => ?_)
                            · exact absurd hx.1 (by simp)
                            · obtain ⟨e1, rfl⟩ := hx
                              cases e1
                              refine ⟨rfl, ?_⟩
                              refine y_st (st2 := [.int 1]) rfl ?_
                              refine y_cs (cs2 := [((ad 52), .inr (12, [.int 3, .ref (ad 53), .int (nI t.2.2.2.1), .ref (ad 54), .ref (ad 55), .ref (ad 56), .ref (ad 57), .ref (ad 58), .ref (ad 59), .ref (ad 60), .ref (ad 61), .int v_m_cl, .int v_m_wa, .int v_m_co_, .int v_m_fi, .int v_m_bu, .int v_m_ho, .ref (ad 62), .ref (ad 63), .ref (ad 64), .int v_m_lh, .int v_m_mg, .int v_m_wd, .int (t.2.2.2.2 3), .int (t.2.2.2.2 4), .ref (ad 65), .ref (ad 66), .ref (ad 67), .ref (ad 68), .long v_m_po, .long v_m_de])), ((ad 53), .inl (1, 108, .inl t.2.1)), ((ad 61), .inl (0, 108, .inl gp9_10)), ((ad 60), .inl (0, 108, .inl (fun k => nI (qn9_10 k))))]) rfl ?_
                              refine y_if_eq (tgt := 92) d_Mm_mould_87 (by decide) (fun c_87 => ?_) (fun c_87 => ?_)
                              · exact absurd c_87 (by decide)
                              · refine y_iconst d_Mm_mould_90 (v := 0) (by decide) ?_
                                refine y_iret d_Mm_mould_91 rfl rfl ?_
                                exact fun w1 h1 => ⟨⟨_, rfl⟩, ⟨_, (hI.gen (t2 := t) (is := [52, 53, 61, 60]) (L2 := []) h1 rfl ⟨kd_52.mpr ⟨_, _, _, _, _, _, _, _, _, _, _, _, rfl⟩, kd_53.mpr rfl, kd_61.mpr ⟨_, rfl⟩, kd_60.mpr ⟨_, rfl⟩, trivial⟩ (by decide) (by decide) (fun _ h => nomatch h) (fun _ h => nomatch h) (fun _ _ _ _ h => h) (fun h => h))⟩⟩
                  · refine y_iconst d_Mm_mould_53 (v := 1) (by decide) ?_
                    refine y_goto (tgt := 58) d_Mm_mould_54 (by decide) ?_
                    refine y_iconst d_Mm_mould_58 (v := 2) (by decide) ?_
                    refine y_callV (As := [.int 1, .int 2]) (rest := []) (csC := [((ad 52), .inr (12, [.int 0, .ref (ad 53), .int (nI t.2.2.2.1), .ref (ad 54), .ref (ad 55), .ref (ad 56), .ref (ad 57), .ref (ad 58), .ref (ad 59), .ref (ad 60), .ref (ad 61), .int v_m_cl, .int v_m_wa, .int v_m_co_, .int v_m_fi, .int v_m_bu, .int v_m_ho, .ref (ad 62), .ref (ad 63), .ref (ad 64), .int v_m_lh, .int v_m_mg, .int v_m_wd, .int (t.2.2.2.2 3), .int (t.2.2.2.2 4), .ref (ad 65), .ref (ad 66), .ref (ad 67), .ref (ad 68), .long v_m_po, .long v_m_de]))]) (is := [0]) (q0 := 0) rfl rfl ln_Mm_103 w_im_Mm_fails w_se_Mm_fails ok_Mm_mould_Mm_fails d_Mm_mould_59 (C_Mm_fails2 g (ad 52) (ad 53) (ad 54) (ad 55) (ad 56) (ad 57) (ad 58) (ad 59) (ad 60) (ad 61) (ad 62) (ad 63) (ad 64) (ad 65) (ad 66) (ad 67) (ad 68) 0 (nI t.2.2.2.1) v_m_cl v_m_wa v_m_co_ v_m_fi v_m_bu v_m_ho v_m_lh v_m_mg v_m_wd (t.2.2.2.2 3) (t.2.2.2.2 4) v_m_po v_m_de) rfl rfl (Nat.le_of_ble_eq_true rfl) rfl (by decide) (by omega) (by omega) (fun E cs1 hx => ?_) (fun v cs1 hx => ?_)
                    · exact absurd hx.1 (by simp)
                    · obtain ⟨e1, rfl⟩ := hx
                      cases e1
                      refine ⟨rfl, ?_⟩
                      refine y_st (st2 := [.int 1]) rfl ?_
                      refine y_cs (cs2 := [((ad 52), .inr (12, [.int 2, .ref (ad 53), .int (nI t.2.2.2.1), .ref (ad 54), .ref (ad 55), .ref (ad 56), .ref (ad 57), .ref (ad 58), .ref (ad 59), .ref (ad 60), .ref (ad 61), .int v_m_cl, .int v_m_wa, .int v_m_co_, .int v_m_fi, .int v_m_bu, .int v_m_ho, .ref (ad 62), .ref (ad 63), .ref (ad 64), .int v_m_lh, .int v_m_mg, .int v_m_wd, .int (t.2.2.2.2 3), .int (t.2.2.2.2 4), .ref (ad 65), .ref (ad 66), .ref (ad 67), .ref (ad 68), .long v_m_po, .long v_m_de])), ((ad 53), .inl (1, 108, .inl t.2.1)), ((ad 61), .inl (0, 108, .inl gp9_10)), ((ad 60), .inl (0, 108, .inl (fun k => nI (qn9_10 k))))]) rfl ?_
                      refine y_if_ne (tgt := 90) d_Mm_mould_62 (by decide) (fun c_62 => ?_) (fun c_62 => ?_)
                      · refine y_iconst d_Mm_mould_90 (v := 0) (by decide) ?_
                        refine y_iret d_Mm_mould_91 rfl rfl ?_
                        exact fun w1 h1 => ⟨⟨_, rfl⟩, ⟨_, (hI.gen (t2 := t) (is := [52, 53, 61, 60]) (L2 := []) h1 rfl ⟨kd_52.mpr ⟨_, _, _, _, _, _, _, _, _, _, _, _, rfl⟩, kd_53.mpr rfl, kd_61.mpr ⟨_, rfl⟩, kd_60.mpr ⟨_, rfl⟩, trivial⟩ (by decide) (by decide) (fun _ h => nomatch h) (fun _ h => nomatch h) (fun _ _ _ _ h => h) (fun h => h))⟩⟩
                      · exact absurd c_62 (by decide)
          · refine y_iconst d_Mm_mould_32 (v := 1) (by decide) ?_
            refine y_goto (tgt := 37) d_Mm_mould_33 (by decide) ?_
            refine y_iconst d_Mm_mould_37 (v := 1) (by decide) ?_
            refine y_callV (As := [.int 1, .int 1]) (rest := []) (csC := [((ad 52), .inr (12, [.int 0, .ref (ad 53), .int (nI t.2.2.2.1), .ref (ad 54), .ref (ad 55), .ref (ad 56), .ref (ad 57), .ref (ad 58), .ref (ad 59), .ref (ad 60), .ref (ad 61), .int v_m_cl, .int v_m_wa, .int v_m_co_, .int v_m_fi, .int v_m_bu, .int v_m_ho, .ref (ad 62), .ref (ad 63), .ref (ad 64), .int v_m_lh, .int v_m_mg, .int v_m_wd, .int (t.2.2.2.2 3), .int (t.2.2.2.2 4), .ref (ad 65), .ref (ad 66), .ref (ad 67), .ref (ad 68), .long v_m_po, .long v_m_de]))]) (is := [0]) (q0 := 0) rfl rfl ln_Mm_103 w_im_Mm_fails w_se_Mm_fails ok_Mm_mould_Mm_fails d_Mm_mould_38 (C_Mm_fails1 g (ad 52) (ad 53) (ad 54) (ad 55) (ad 56) (ad 57) (ad 58) (ad 59) (ad 60) (ad 61) (ad 62) (ad 63) (ad 64) (ad 65) (ad 66) (ad 67) (ad 68) 0 (nI t.2.2.2.1) v_m_cl v_m_wa v_m_co_ v_m_fi v_m_bu v_m_ho v_m_lh v_m_mg v_m_wd (t.2.2.2.2 3) (t.2.2.2.2 4) v_m_po v_m_de) rfl rfl (Nat.le_of_ble_eq_true rfl) rfl (by decide) (by omega) (by omega) (fun E cs1 hx => ?_) (fun v cs1 hx => ?_)
            · exact absurd hx.1 (by simp)
            · obtain ⟨e1, rfl⟩ := hx
              cases e1
              refine ⟨rfl, ?_⟩
              refine y_st (st2 := [.int 1]) rfl ?_
              refine y_cs (cs2 := [((ad 52), .inr (12, [.int 1, .ref (ad 53), .int (nI t.2.2.2.1), .ref (ad 54), .ref (ad 55), .ref (ad 56), .ref (ad 57), .ref (ad 58), .ref (ad 59), .ref (ad 60), .ref (ad 61), .int v_m_cl, .int v_m_wa, .int v_m_co_, .int v_m_fi, .int v_m_bu, .int v_m_ho, .ref (ad 62), .ref (ad 63), .ref (ad 64), .int v_m_lh, .int v_m_mg, .int v_m_wd, .int (t.2.2.2.2 3), .int (t.2.2.2.2 4), .ref (ad 65), .ref (ad 66), .ref (ad 67), .ref (ad 68), .long v_m_po, .long v_m_de])), ((ad 53), .inl (1, 108, .inl t.2.1)), ((ad 61), .inl (0, 108, .inl gp9_10)), ((ad 60), .inl (0, 108, .inl (fun k => nI (qn9_10 k))))]) rfl ?_
              refine y_if_ne (tgt := 90) d_Mm_mould_41 (by decide) (fun c_41 => ?_) (fun c_41 => ?_)
              · refine y_iconst d_Mm_mould_90 (v := 0) (by decide) ?_
                refine y_iret d_Mm_mould_91 rfl rfl ?_
                exact fun w1 h1 => ⟨⟨_, rfl⟩, ⟨_, (hI.gen (t2 := t) (is := [52, 53, 61, 60]) (L2 := []) h1 rfl ⟨kd_52.mpr ⟨_, _, _, _, _, _, _, _, _, _, _, _, rfl⟩, kd_53.mpr rfl, kd_61.mpr ⟨_, rfl⟩, kd_60.mpr ⟨_, rfl⟩, trivial⟩ (by decide) (by decide) (fun _ h => nomatch h) (fun _ h => nomatch h) (fun _ _ _ _ h => h) (fun h => h))⟩⟩
              · exact absurd c_41 (by decide)
