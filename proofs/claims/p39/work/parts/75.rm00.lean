theorem cnt_pos {f : Nat → Int32} (h : ¬ fa_cnt (fun k => decide (f k = 103)) 12 = 0) : ¬ fa_cnt (fun k => tmB (f k)) 108 = 0 := fun q => h (by
  have key : ∀ n, fa_cnt (fun k => tmB (f k)) n = 0 → ∀ k, k < n → tmB (f k) = false := by
    intro n
    induction n with
    | zero => intro _ k hk; omega
    | succ n ih =>
      intro e k hk
      rw [fa_cnt] at e
      by_cases hb : tmB (f n) = true
      · rw [if_pos hb] at e; omega
      · rw [if_neg hb] at e
        by_cases hkn : k = n
        · subst hkn; simpa using hb
        · exact ih (by omega) k (by omega)
  have k2 : ∀ n, n ≤ 12 → fa_cnt (fun k => decide (f k = 103)) n = 0 := by
    intro n
    induction n with
    | zero => intro _; rfl
    | succ n ih =>
      intro hn
      have e1 := key 108 q n (by omega)
      rw [fa_cnt, if_neg (fun e2 => ?_), ih (by omega)]
      rw [show f n = 103 from of_decide_eq_true e2] at e1
      exact absurd e1 (by decide)
  exact k2 12 (Nat.le_refl _))
theorem min_ne {x y : Int32} (hx : ¬ x = 0) (hy : ¬ y = 0) : ¬ (if x < y then x else y) = 0 := by
  split
  · exact hx
  · exact hy
def cpV (t : zTT) : zV := (fun _ => 0, fa_fill (t.1 53).1 (fun _ => 0) 108, fun _ => 0, fun _ => 0)
def mstI (f : Nat → Int32) : Int32 := S_Mm_strength 0 0 0 0 0 0 0 0 0 0 0 0 0 0 0 0 0 0 0 (f 0) (f 1) (f 2) (f 3) (f 4) 0 0 0 0 0 0 0 0
def mdrI (f : Nat → Int32) : Int32 := S_Mm_draught 0 0 0 0 0 0 0 0 0 0 0 0 0 0 0 0 0 0 0 (f 0) (f 1) (f 2) (f 3) (f 4) 0 0 0 0 0 0 0 0
def nuA (t : zTT) : Nat → Int32 := upd (upd (upd (upd (fun _ => 0) 0 (nI ((t.1 52).2.2 0))) 1 (mstI (t.1 52).1)) 2 (mdrI (t.1 52).1)) 3 ((t.1 52).1 1)
def nuV (t : zTT) : zV := (fun _ => 0, nuA t, fun _ => 0, fun _ => (t.1 52).2.2 0)
def mm3 (t : zTT) (n0 : Nat → Nat) : zTT := tls (tls t 3 (z_apV (t.2 3) (n0 3) (cpV t))) 4 (z_apV (t.2 4) (n0 4) (nuV t))
def mmF (t : zTT) (n0 : Nat → Nat) : Nat × (Nat → zV) × Int32 := tcF (mm3 t n0) (nI (coN (t.1 53).1)) (n0 2)
def muI (f : Nat → Int32) (m : Int32) : Nat → Int32 := upd (upd (upd (upd (upd f 0 (S_Mm_most (f 0 - 3))) 1 (S_Mm_most (f 1 - 8))) 2 (S_Mm_most (f 2 - 4))) 3 (S_Mm_most (f 3 + 2))) 4 (S_Mm_most (f 4 + 10 + m / 4))
def mmT (t : zTT) (n0 : Nat → Nat) : zTT := (zup t.1 [(52, (muI (t.1 52).1 (nI (fa_cnt (fun k => tmB ((t.1 53).1 k)) 108)), (t.1 52).2))], (tls (mm3 t n0) 2 (mmF t n0).2.1).2)
theorem d_Mm_mould_99 : decode prog_14_method_74_code 99 = .ok (.iload_n 3, 1) := zo_29 (zd_b zq_prog_14_method_74_code_3 3 rfl rfl rfl)
theorem d_Mm_mould_100 : decode prog_14_method_74_code 100 = .ok (.bipush 108, 2) := zo_16 (d := 108) (zd_b zq_prog_14_method_74_code_3 4 rfl rfl rfl) (zd_b zq_prog_14_method_74_code_3 5 rfl rfl rfl) (by decide +kernel)
theorem d_Mm_mould_102 : decode prog_14_method_74_code 102 = .ok (.if_icmp .ge 18, 3) := zo_162 (d := 0) (e := 18) (zd_b zq_prog_14_method_74_code_3 6 rfl rfl rfl) (zd_b zq_prog_14_method_74_code_3 7 rfl rfl rfl) (zd_b zq_prog_14_method_74_code_3 8 rfl rfl rfl) (by decide +kernel)
theorem d_Mm_mould_105 : decode prog_14_method_74_code 105 = .ok (.aload_n 2, 1) := zo_44 (zd_b zq_prog_14_method_74_code_3 9 rfl rfl rfl)
theorem d_Mm_mould_106 : decode prog_14_method_74_code 106 = .ok (.iload_n 3, 1) := zo_29 (zd_b zq_prog_14_method_74_code_3 10 rfl rfl rfl)
theorem d_Mm_mould_107 : decode prog_14_method_74_code 107 = .ok (.aload_n 0, 1) := zo_42 (zd_b zq_prog_14_method_74_code_3 11 rfl rfl rfl)
theorem d_Mm_mould_108 : decode prog_14_method_74_code 108 = .ok (.getfield 7, 3) := zo_180 (d := 0) (e := 7) (zd_b zq_prog_14_method_74_code_3 12 rfl rfl rfl) (zd_b zq_prog_14_method_74_code_3 13 rfl rfl rfl) (zd_b zq_prog_14_method_74_code_3 14 rfl rfl rfl)
theorem d_Mm_mould_111 : decode prog_14_method_74_code 111 = .ok (.iload_n 3, 1) := zo_29 (zd_b zq_prog_14_method_74_code_3 15 rfl rfl rfl)
theorem d_Mm_mould_112 : decode prog_14_method_74_code 112 = .ok (.caload, 1) := zo_52 (zd_b zq_prog_14_method_74_code_3 16 rfl rfl rfl)
theorem d_Mm_mould_113 : decode prog_14_method_74_code 113 = .ok (.castore, 1) := zo_85 (zd_b zq_prog_14_method_74_code_3 17 rfl rfl rfl)
theorem d_Mm_mould_114 : decode prog_14_method_74_code 114 = .ok (.iinc 3 1, 3) := by decide +kernel
theorem d_Mm_mould_117 : decode prog_14_method_74_code 117 = .ok (.goto (-18), 3) := zo_167 (d := 255) (e := 238) (zd_b zq_prog_14_method_74_code_3 21 rfl rfl rfl) (zd_b zq_prog_14_method_74_code_3 22 rfl rfl rfl) (zd_b zq_prog_14_method_74_code_3 23 rfl rfl rfl) (by decide +kernel)
set_option maxHeartbeats 4000000 in
set_option maxRecDepth 100000 in
theorem LKx_mould (g : zG) {Ψ : zO → zW → Prop} {w0 : zW} {n kc ks : Nat} {ad : Nat → Nat} {t : zTT} (gp9_10 : Nat → Int32) (qn9_10 : Nat → Nat) (q94 : Nat) (hf : z_ch ((t.1 53).1)) (K : ∀ (_ : Unit), DU g M_Mm_mould Ψ w0 n 120 [(2, .ref q94), (1, .int (nI (coN ((t.1 53).1)))), (0, .ref (ad 52))] [] [((ad 52), .inr (12, [.int 0, .ref (ad 53), .int (nI ((t.1 52).2.2 0)), .ref (ad 54), .ref (ad 55), .ref (ad 56), .ref (ad 57), .ref (ad 58), .ref (ad 59), .ref (ad 60), .ref (ad 61), .int ((t.1 52).1 0), .int ((t.1 52).1 1), .int ((t.1 52).1 2), .int ((t.1 52).1 3), .int ((t.1 52).1 4), .int ((t.1 52).1 5), .ref (ad 62), .ref (ad 63), .ref (ad 64), .int ((t.1 52).1 6), .int ((t.1 52).1 7), .int ((t.1 52).1 8), .int ((t.1 52).1 9), .int ((t.1 52).1 10), .ref (ad 65), .ref (ad 66), .ref (ad 67), .ref (ad 68), .long ((t.1 52).2.1 0), .long ((t.1 52).2.1 1)])), ((ad 53), .inl (1, 108, .inl ((t.1 53).1))), ((ad 61), .inl (0, 108, .inl gp9_10)), ((ad 60), .inl (0, 108, .inl (fun k => nI (qn9_10 k)))), (q94, .inl (1, 108, .inl (fa_fill ((t.1 53).1) (fun _ => 0) 108)))] kc ks) : ∀ (d i : Nat), i ≤ 108 → 108 < i + d → DU g M_Mm_mould Ψ w0 n 99 [(3, .int (nI i)), (2, .ref q94), (1, .int (nI (coN ((t.1 53).1)))), (0, .ref (ad 52))] [] [((ad 52), .inr (12, [.int 0, .ref (ad 53), .int (nI ((t.1 52).2.2 0)), .ref (ad 54), .ref (ad 55), .ref (ad 56), .ref (ad 57), .ref (ad 58), .ref (ad 59), .ref (ad 60), .ref (ad 61), .int ((t.1 52).1 0), .int ((t.1 52).1 1), .int ((t.1 52).1 2), .int ((t.1 52).1 3), .int ((t.1 52).1 4), .int ((t.1 52).1 5), .ref (ad 62), .ref (ad 63), .ref (ad 64), .int ((t.1 52).1 6), .int ((t.1 52).1 7), .int ((t.1 52).1 8), .int ((t.1 52).1 9), .int ((t.1 52).1 10), .ref (ad 65), .ref (ad 66), .ref (ad 67), .ref (ad 68), .long ((t.1 52).2.1 0), .long ((t.1 52).2.1 1)])), ((ad 53), .inl (1, 108, .inl ((t.1 53).1))), ((ad 61), .inl (0, 108, .inl gp9_10)), ((ad 60), .inl (0, 108, .inl (fun k => nI (qn9_10 k)))), (q94, .inl (1, 108, .inl (fa_fill ((t.1 53).1) (fun _ => 0) i)))] kc ks := by
  intro d
  induction d with
  | zero => intro i  h1 h2; exact absurd h2 (by omega)
  | succ d ih =>
    intro i  h1 h2
    refine y_iload_n d_Mm_mould_99 rfl 0 rfl ?_
    refine y_bipush d_Mm_mould_100 (v := 108) (by decide) ?_
    refine y_icmp_ge (tgt := 120) d_Mm_mould_102 (by decide) (fun c_102 => ?_) (fun c_102 => ?_)
    · have hn := z_le (a := 108) (by omega) (by decide) c_102
      obtain rfl : i = 108 := by omega
      refine y_lv (lv' := [(2, .ref q94), (1, .int (nI (coN ((t.1 53).1)))), (0, .ref (ad 52))]) [1, 2, 3] rfl ?_
      exact K ()
    · have hn := z_nle (a := 108) (by omega) (by decide) c_102
      refine y_aload_n d_Mm_mould_105 rfl 1 rfl ?_
      refine y_iload_n d_Mm_mould_106 rfl 0 rfl ?_
      refine y_aload_n d_Mm_mould_107 rfl 3 rfl ?_
      refine y_get fs_Mm_7 d_Mm_mould_108 (q0 := 0) rfl rfl ?_
      refine y_iload_n d_Mm_mould_111 rfl 0 rfl ?_
      refine y_cald d_Mm_mould_112 (q0 := 1) rfl (vp_in_nI (by omega) (by omega)) (v := ((t.1 53).1) i) (by rw [nI_clamp (by omega)]) ?_
      refine y_cast d_Mm_mould_113 (q0 := 4) rfl (vp_in_nI (by omega) (by omega)) (f' := fa_fill ((t.1 53).1) (fun _ => 0) (i + 1)) (by rw [nI_clamp (by omega), z_narc (hf i (by omega))]; exact fa_fill_succ ((t.1 53).1) (fun _ => 0) i) (cs' := [((ad 52), .inr (12, [.int 0, .ref (ad 53), .int (nI ((t.1 52).2.2 0)), .ref (ad 54), .ref (ad 55), .ref (ad 56), .ref (ad 57), .ref (ad 58), .ref (ad 59), .ref (ad 60), .ref (ad 61), .int ((t.1 52).1 0), .int ((t.1 52).1 1), .int ((t.1 52).1 2), .int ((t.1 52).1 3), .int ((t.1 52).1 4), .int ((t.1 52).1 5), .ref (ad 62), .ref (ad 63), .ref (ad 64), .int ((t.1 52).1 6), .int ((t.1 52).1 7), .int ((t.1 52).1 8), .int ((t.1 52).1 9), .int ((t.1 52).1 10), .ref (ad 65), .ref (ad 66), .ref (ad 67), .ref (ad 68), .long ((t.1 52).2.1 0), .long ((t.1 52).2.1 1)])), ((ad 53), .inl (1, 108, .inl ((t.1 53).1))), ((ad 61), .inl (0, 108, .inl gp9_10)), ((ad 60), .inl (0, 108, .inl (fun k => nI (qn9_10 k)))), (q94, .inl (1, 108, .inl (fa_fill ((t.1 53).1) (fun _ => 0) (i + 1))))]) rfl ?_
      refine y_iinc (lv' := [(3, .int (nI (i + 1))), (2, .ref q94), (1, .int (nI (coN ((t.1 53).1)))), (0, .ref (ad 52))]) (v := nI (i + 1)) d_Mm_mould_114 (j := 0) rfl (nI_add _ _) (by decide) rfl ?_
      refine y_goto (tgt := 99) d_Mm_mould_117 (by decide) ?_
      exact ih (i + 1)  (by omega) (by omega)
theorem d_Mm_mould_25 : decode prog_14_method_74_code 25 = .ok (.aload_n 0, 1) := zo_42 (zd_b zq_prog_14_method_74_code_0 25 rfl rfl rfl)
theorem d_Mm_mould_26 : decode prog_14_method_74_code 26 = .ok (.invokevirtual 281, 3) := zo_182 (d := 1) (e := 25) (zd_b zq_prog_14_method_74_code_0 26 rfl rfl rfl) (zd_b zq_prog_14_method_74_code_0 27 rfl rfl rfl) (zd_b zq_prog_14_method_74_code_0 28 rfl rfl rfl)
theorem ok_Mm_mould_Mm_hasCasting : z_ok M_Mm_mould M_Mm_hasCasting 0 := ⟨z_mj8 (i := 227) rfl (by decide +kernel), rfl, ⟨by decide +kernel, by decide +kernel, by decide +kernel⟩, ⟨by decide, by decide⟩, z_mj1 (i := 14) rfl (by decide +kernel), rfl⟩
theorem ln_Mm_281 : Cond.methodLink "IronpourModel" 281 M_Mm_hasCasting.1 ∈ z_gw := z_mj8 (i := 224) rfl (by decide +kernel)
theorem w_im_Mm_hasCasting : Cond.instanceMethod M_Mm_hasCasting.1 ∈ z_gw := z_mj8 (i := 226) rfl (by decide +kernel)
theorem w_se_Mm_hasCasting : Cond.selects M_Mm_hasCasting.1.cls M_Mm_hasCasting.1 M_Mm_hasCasting.1 ∈ z_gw := z_mem (i := 50) (by decide +kernel) (by decide +kernel)
theorem d_Mm_mould_29 : decode prog_14_method_74_code 29 = .ok (.ifCond .ne 7, 3) := zo_154 (d := 0) (e := 7) (zd_b zq_prog_14_method_74_code_0 29 rfl rfl rfl) (zd_b zq_prog_14_method_74_code_0 30 rfl rfl rfl) (zd_b zq_prog_14_method_74_code_0 31 rfl rfl rfl) (by decide +kernel)
