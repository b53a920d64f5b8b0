section
def pgM (gr : Nat → Int64) (tk al : Int32) : Nat → (Nat → Int64) × (Nat → Int64)
  | 0 => (gr, fun _ => 0)
  | i + 1 => (vp_updL (pgM gr tk al i).1 (4 + i) ((pgM gr tk al i).1 (4 + i) - (vp_updL (pgM gr tk al i).2 i ((pgM gr tk al i).1 (4 + i) * tk.toInt64 / al.toInt64)) i), vp_updL (pgM gr tk al i).2 i ((pgM gr tk al i).1 (4 + i) * tk.toInt64 / al.toInt64))
def pE4 (mg : Int32) : Int32 := if mg < 20 then 0 else 1
def pE8 (n : Nat → Int32) : Int32 := if (n 2 < 80 ∧ 40 < n 3) ∨ 60 < n 4 then 1 else 0
def pE9 (mg9 : Nat → Int64) (tk : Int32) : Int32 := (mg9 0 * 10 / tk.toInt64).toInt32 + (mg9 1 * 10 / tk.toInt64).toInt32 / 3
def pE10 (mg9 : Nat → Int64) (tk mg : Int32) : Int32 := if pE9 mg9 tk < 370 ∨ (1 ≤ mg ∧ mg ≤ 19) then 1 else 0
def pE5 (sh : Int32) : Int32 := if sh ≤ 0 then 0 else 1
def pE7 (c : Bool) : Int32 := if c = true then 2 else 0
def pEs (f n : Nat → Int32) : Int32 := if rsR f ≤ n 1 then 0 else 4
def pEb (x : Int32) : Int32 := if x = 0 then 0 else 8
def pEc (f : Nat → Int32) (p : Nat) : Int32 := if 0 < nI (loN f) ∨ 0 < nI (ucT f p 12) then 16 else 0
def pEh (x : Int32) : Int32 := if x = 0 then 0 else 32
def pfF (f n : Nat → Int32) (p : Nat) (mg9 : Nat → Int64) (tk mg sh : Int32) (c : Bool) : Int32 := pE5 sh + pE7 c + pEs f n + (pEb (pE8 n) + pEc f p + pEh (pE10 mg9 tk mg))
def ptk (t : zTT) : Int32 := if (t.1 63).1 1 < nI (2 * fa_cnt (fun k => tmB ((t.2 3 0).2.1 k)) 108) then (t.1 63).1 1 else nI (2 * fa_cnt (fun k => tmB ((t.2 3 0).2.1 k)) 108)
def pgg (t : zTT) : (Nat → Int64) × (Nat → Int64) := pgM (t.1 64).2.1 (ptk t) ((t.1 63).1 1) 4
def pox (t : zTT) : zTT := tls (tls t 3 (z_dlV (t.2 3) 0)) 4 (z_dlV (t.2 4) 0)
def poi (t : zTT) : Nat → zP2 := zup t.1 [(52, ((t.1 52).1, vp_updL (t.1 52).2.1 0 ((t.1 52).2.1 0 + (ptk t).toInt64), (t.1 52).2.2)), (63, (upd (t.1 63).1 1 ((t.1 63).1 1 - ptk t), (t.1 63).2)), (64, ((t.1 64).1, (pgg t).1, (t.1 64).2.2))]
def pcv9 (t : zTT) (sh fb : Int32) : zV := (fun _ => 0, upd (upd (upd (upd (upd (fun _ => 0) 0 (ptk t)) 1 ((t.1 52).1 7)) 3 sh) 4 (pE4 ((t.1 52).1 7))) 2 fb, fun _ => 0, fun _ => 0)
def pgv9 (t : zTT) : zV := (fun _ => 0, fun _ => 0, (pgg t).2, fun _ => 0)
def pmT (t : zTT) (n5 n6 : Nat) (sh fb : Int32) : zTT := (poi t, (tls (tls (pox t) 5 (z_apV (t.2 5) n5 (pcv9 t sh fb))) 6 (z_apV (t.2 6) n6 (pgv9 t))).2)
def pSh (t : zTT) (fl he nx mtt fz ic : Nat → Int32) (qn : Nat → Nat) : Int32 := nI (fa_cnt (scP (t.2 3 0).2.1 (flC (t.2 3 0).2.1 fl) (rFD (t.2 3 0).2.1 fl he mtt fz nx ic qn ((t.1 52).1 6)).1) 108)
def pCo (t : zTT) (fl : Nat → Int32) : Bool := icQ (t.2 3 0).2.1 (flC (t.2 3 0).2.1 fl) ((t.1 52).1 6) (decide (ptk t < nI (2 * fa_cnt (fun k => tmB ((t.2 3 0).2.1 k)) 108))) 108
def pFb (t : zTT) (fl he nx mtt fz ic : Nat → Int32) (qn : Nat → Nat) : Int32 := pfF (t.2 3 0).2.1 (t.2 4 0).2.1 ((t.2 4 0).2.2.2 0) (pgg t).2 (ptk t) ((t.1 52).1 7) (pSh t fl he nx mtt fz ic qn) (pCo t fl)
theorem pSh_e (t : zTT) (fl he nx mtt fz ic : Nat → Int32) (qn : Nat → Nat) : nI (fa_cnt (scP (t.2 3 0).2.1 (flC (t.2 3 0).2.1 fl) (fdB (t.2 3 0).2.1 (flC (t.2 3 0).2.1 fl) (fa_fill (frG (flC (t.2 3 0).2.1 fl) (frM (t.2 3 0).2.1 (flC (t.2 3 0).2.1 fl) he mtt fz nx ((t.1 52).1 6)).1.2.2.1) (frM (t.2 3 0).2.1 (flC (t.2 3 0).2.1 fl) he mtt fz nx ((t.1 52).1 6)).1.2.2.1 108) (fdA (t.2 3 0).2.1 (flC (t.2 3 0).2.1 fl) (ic, qn, 0, 0) 108) 108).1) 108) = pSh t fl he nx mtt fz ic qn := by
  unfold pSh rFD rFR
  with_reducible rfl
theorem pcv_0 (t : zTT) (sh fb : Int32) : (pcv9 t sh fb).2.1 0 = ptk t := by
  show upd (upd (upd (upd (upd (fun _ => 0) 0 (ptk t)) 1 ((t.1 52).1 7)) 3 sh) 4 (pE4 ((t.1 52).1 7))) 2 fb 0 = ptk t
  rw [upd_ne (by decide), upd_ne (by decide), upd_ne (by decide), upd_ne (by decide), upd_eq]
theorem pcv_1 (t : zTT) (sh fb : Int32) : (pcv9 t sh fb).2.1 1 = (t.1 52).1 7 := by
  show upd (upd (upd (upd (upd (fun _ => 0) 0 (ptk t)) 1 ((t.1 52).1 7)) 3 sh) 4 (pE4 ((t.1 52).1 7))) 2 fb 1 = (t.1 52).1 7
  rw [upd_ne (by decide), upd_ne (by decide), upd_ne (by decide), upd_eq]
theorem pcv_2 (t : zTT) (sh fb : Int32) : (pcv9 t sh fb).2.1 2 = fb := by
  show upd (upd (upd (upd (upd (fun _ => 0) 0 (ptk t)) 1 ((t.1 52).1 7)) 3 sh) 4 (pE4 ((t.1 52).1 7))) 2 fb 2 = fb
  rw [upd_eq]
theorem pcv_4 (t : zTT) (sh fb : Int32) : (pcv9 t sh fb).2.1 4 = pE4 ((t.1 52).1 7) := by
  show upd (upd (upd (upd (upd (fun _ => 0) 0 (ptk t)) 1 ((t.1 52).1 7)) 3 sh) 4 (pE4 ((t.1 52).1 7))) 2 fb 4 = pE4 ((t.1 52).1 7)
  rw [upd_ne (by decide), upd_eq]
theorem pcv_5 (t : zTT) (sh fb : Int32) : (pcv9 t sh fb).2.1 5 = 0 := by
  show upd (upd (upd (upd (upd (fun _ => 0) 0 (ptk t)) 1 ((t.1 52).1 7)) 3 sh) 4 (pE4 ((t.1 52).1 7))) 2 fb 5 = 0
  rw [upd_ne (by decide), upd_ne (by decide), upd_ne (by decide), upd_ne (by decide), upd_ne (by decide)]
theorem d_Mm_pour_144 : decode prog_14_method_77_code 144 = .ok (.iload 8, 2) := zo_21 (d := 8) (zd_b zq_prog_14_method_77_code_4 16 rfl rfl rfl) (zd_b zq_prog_14_method_77_code_4 17 rfl rfl rfl)
theorem d_Mm_pour_146 : decode prog_14_method_77_code 146 = .ok (.iconst 4, 1) := zo_7 (zd_b zq_prog_14_method_77_code_4 18 rfl rfl rfl)
theorem d_Mm_pour_147 : decode prog_14_method_77_code 147 = .ok (.if_icmp .ge 48, 3) := zo_162 (d := 0) (e := 48) (zd_b zq_prog_14_method_77_code_4 19 rfl rfl rfl) (zd_b zq_prog_14_method_77_code_4 20 rfl rfl rfl) (zd_b zq_prog_14_method_77_code_4 21 rfl rfl rfl) (by decide +kernel)
theorem d_Mm_pour_150 : decode prog_14_method_77_code 150 = .ok (.aload 6, 2) := zo_25 (d := 6) (zd_b zq_prog_14_method_77_code_4 22 rfl rfl rfl) (zd_b zq_prog_14_method_77_code_4 23 rfl rfl rfl)
theorem d_Mm_pour_152 : decode prog_14_method_77_code 152 = .ok (.iload 8, 2) := zo_21 (d := 8) (zd_b zq_prog_14_method_77_code_4 24 rfl rfl rfl) (zd_b zq_prog_14_method_77_code_4 25 rfl rfl rfl)
theorem d_Mm_pour_154 : decode prog_14_method_77_code 154 = .ok (.aload_n 0, 1) := zo_42 (zd_b zq_prog_14_method_77_code_4 26 rfl rfl rfl)
theorem d_Mm_pour_155 : decode prog_14_method_77_code 155 = .ok (.getfield 65, 3) := zo_180 (d := 0) (e := 65) (zd_b zq_prog_14_method_77_code_4 27 rfl rfl rfl) (zd_b zq_prog_14_method_77_code_4 28 rfl rfl rfl) (zd_b zq_prog_14_method_77_code_4 29 rfl rfl rfl)
theorem d_Mm_pour_158 : decode prog_14_method_77_code 158 = .ok (.iconst 4, 1) := zo_7 (zd_b zq_prog_14_method_77_code_4 30 rfl rfl rfl)
theorem d_Mm_pour_159 : decode prog_14_method_77_code 159 = .ok (.iload 8, 2) := zo_21 (d := 8) (zd_b zq_prog_14_method_77_code_4 31 rfl rfl rfl) (zd_b zq_prog_14_method_77_code_5 0 rfl rfl rfl)
theorem d_Mm_pour_161 : decode prog_14_method_77_code 161 = .ok (.iadd, 1) := zo_96 (zd_b zq_prog_14_method_77_code_5 1 rfl rfl rfl)
theorem d_Mm_pour_162 : decode prog_14_method_77_code 162 = .ok (.laload, 1) := zo_47 (zd_b zq_prog_14_method_77_code_5 2 rfl rfl rfl)
theorem d_Mm_pour_163 : decode prog_14_method_77_code 163 = .ok (.iload 4, 2) := zo_21 (d := 4) (zd_b zq_prog_14_method_77_code_5 3 rfl rfl rfl) (zd_b zq_prog_14_method_77_code_5 4 rfl rfl rfl)
theorem d_Mm_pour_165 : decode prog_14_method_77_code 165 = .ok (.i2l, 1) := zo_133 (zd_b zq_prog_14_method_77_code_5 5 rfl rfl rfl)
theorem d_Mm_pour_166 : decode prog_14_method_77_code 166 = .ok (.lmul, 1) := zo_105 (zd_b zq_prog_14_method_77_code_5 6 rfl rfl rfl)
theorem d_Mm_pour_167 : decode prog_14_method_77_code 167 = .ok (.iload 7, 2) := zo_21 (d := 7) (zd_b zq_prog_14_method_77_code_5 7 rfl rfl rfl) (zd_b zq_prog_14_method_77_code_5 8 rfl rfl rfl)
theorem d_Mm_pour_169 : decode prog_14_method_77_code 169 = .ok (.i2l, 1) := zo_133 (zd_b zq_prog_14_method_77_code_5 9 rfl rfl rfl)
theorem d_Mm_pour_170 : decode prog_14_method_77_code 170 = .ok (.ldiv, 1) := zo_109 (zd_b zq_prog_14_method_77_code_5 10 rfl rfl rfl)
theorem d_Mm_pour_171 : decode prog_14_method_77_code 171 = .ok (.lastore, 1) := zo_80 (zd_b zq_prog_14_method_77_code_5 11 rfl rfl rfl)
theorem d_Mm_pour_172 : decode prog_14_method_77_code 172 = .ok (.aload_n 0, 1) := zo_42 (zd_b zq_prog_14_method_77_code_5 12 rfl rfl rfl)
theorem d_Mm_pour_173 : decode prog_14_method_77_code 173 = .ok (.getfield 65, 3) := zo_180 (d := 0) (e := 65) (zd_b zq_prog_14_method_77_code_5 13 rfl rfl rfl) (zd_b zq_prog_14_method_77_code_5 14 rfl rfl rfl) (zd_b zq_prog_14_method_77_code_5 15 rfl rfl rfl)
theorem d_Mm_pour_176 : decode prog_14_method_77_code 176 = .ok (.iconst 4, 1) := zo_7 (zd_b zq_prog_14_method_77_code_5 16 rfl rfl rfl)
theorem d_Mm_pour_177 : decode prog_14_method_77_code 177 = .ok (.iload 8, 2) := zo_21 (d := 8) (zd_b zq_prog_14_method_77_code_5 17 rfl rfl rfl) (zd_b zq_prog_14_method_77_code_5 18 rfl rfl rfl)
theorem d_Mm_pour_179 : decode prog_14_method_77_code 179 = .ok (.iadd, 1) := zo_96 (zd_b zq_prog_14_method_77_code_5 19 rfl rfl rfl)
theorem d_Mm_pour_180 : decode prog_14_method_77_code 180 = .ok (.dup2, 1) := zo_92 (zd_b zq_prog_14_method_77_code_5 20 rfl rfl rfl)
theorem d_Mm_pour_181 : decode prog_14_method_77_code 181 = .ok (.laload, 1) := zo_47 (zd_b zq_prog_14_method_77_code_5 21 rfl rfl rfl)
theorem d_Mm_pour_182 : decode prog_14_method_77_code 182 = .ok (.aload 6, 2) := zo_25 (d := 6) (zd_b zq_prog_14_method_77_code_5 22 rfl rfl rfl) (zd_b zq_prog_14_method_77_code_5 23 rfl rfl rfl)
theorem d_Mm_pour_184 : decode prog_14_method_77_code 184 = .ok (.iload 8, 2) := zo_21 (d := 8) (zd_b zq_prog_14_method_77_code_5 24 rfl rfl rfl) (zd_b zq_prog_14_method_77_code_5 25 rfl rfl rfl)
theorem d_Mm_pour_186 : decode prog_14_method_77_code 186 = .ok (.laload, 1) := zo_47 (zd_b zq_prog_14_method_77_code_5 26 rfl rfl rfl)
theorem d_Mm_pour_187 : decode prog_14_method_77_code 187 = .ok (.lsub, 1) := zo_101 (zd_b zq_prog_14_method_77_code_5 27 rfl rfl rfl)
theorem d_Mm_pour_188 : decode prog_14_method_77_code 188 = .ok (.lastore, 1) := zo_80 (zd_b zq_prog_14_method_77_code_5 28 rfl rfl rfl)
theorem d_Mm_pour_189 : decode prog_14_method_77_code 189 = .ok (.iinc 8 1, 3) := by decide +kernel
theorem d_Mm_pour_192 : decode prog_14_method_77_code 192 = .ok (.goto (-48), 3) := zo_167 (d := 255) (e := 208) (zd_b zq_prog_14_method_77_code_6 0 rfl rfl rfl) (zd_b zq_prog_14_method_77_code_6 1 rfl rfl rfl) (zd_b zq_prog_14_method_77_code_6 2 rfl rfl rfl) (by decide +kernel)
set_option maxHeartbeats 4000000 in
set_option maxRecDepth 100000 in
theorem LKx_pour (g : zG) {Ψ : zO → zW → Prop} {w0 : zW} {n kc ks : Nat} {ad : Nat → Nat} (w_th w_pt w_cl w_wa w_co_ w_fi w_bu w_ho w_lh w_mg w_wd w_fpi w_fal : Int32) (w_po w_de : Int64) (fl he nx mtt fz ic gp f_i f_n mif : Nat → Int32) (qn : Nat → Nat) (its nb q124 q129 : Nat) (tk wt : Int32) (gr9 : Nat → Int64) (hall : ¬ mif 1 = 0) (K : ∀ (_ : Unit), DU g M_Mm_pour Ψ w0 n 195 [(6, .ref q129), (5, .ref q124), (4, .int tk), (3, .int wt), (2, .ref nb), (1, .ref its), (0, .ref (ad 52))] [] [((ad 52), .inr (12, [.int w_th, .ref (ad 53), .int w_pt, .ref (ad 54), .ref (ad 55), .ref (ad 56), .ref (ad 57), .ref (ad 58), .ref (ad 59), .ref (ad 60), .ref (ad 61), .int w_cl, .int w_wa, .int w_co_, .int w_fi, .int w_bu, .int w_ho, .ref (ad 62), .ref (ad 63), .ref (ad 64), .int w_lh, .int w_mg, .int w_wd, .int w_fpi, .int w_fal, .ref (ad 65), .ref (ad 66), .ref (ad 67), .ref (ad 68), .long w_po, .long w_de])), ((ad 63), .inl (0, 4, .inl mif)), ((ad 64), .inl (3, 16, .inr (.inl ((pgM gr9 tk (mif 1) 4).1)))), ((ad 54), .inl (0, 108, .inl fl)), ((ad 55), .inl (0, 108, .inl he)), ((ad 56), .inl (0, 108, .inl nx)), ((ad 57), .inl (0, 108, .inl mtt)), ((ad 58), .inl (0, 108, .inl fz)), ((ad 59), .inl (2, 108, .inl ic)), ((ad 60), .inl (0, 108, .inl (fun k => nI (qn k)))), ((ad 61), .inl (0, 108, .inl gp)), (its, .inl (1, 108, .inl f_i)), (nb, .inl (0, 5, .inl f_n)), (q124, .inl (0, 6, .inl (fun _ => 0))), (q129, .inl (3, 4, .inr (.inl ((pgM gr9 tk (mif 1) 4).2))))] kc ks) : ∀ (d i : Nat), i ≤ 4 → 4 < i + d → DU g M_Mm_pour Ψ w0 n 144 [(8, .int (nI i)), (7, .int (mif 1)), (6, .ref q129), (5, .ref q124), (4, .int tk), (3, .int wt), (2, .ref nb), (1, .ref its), (0, .ref (ad 52))] [] [((ad 52), .inr (12, [.int w_th, .ref (ad 53), .int w_pt, .ref (ad 54), .ref (ad 55), .ref (ad 56), .ref (ad 57), .ref (ad 58), .ref (ad 59), .ref (ad 60), .ref (ad 61), .int w_cl, .int w_wa, .int w_co_, .int w_fi, .int w_bu, .int w_ho, .ref (ad 62), .ref (ad 63), .ref (ad 64), .int w_lh, .int w_mg, .int w_wd, .int w_fpi, .int w_fal, .ref (ad 65), .ref (ad 66), .ref (ad 67), .ref (ad 68), .long w_po, .long w_de])), ((ad 63), .inl (0, 4, .inl mif)), ((ad 64), .inl (3, 16, .inr (.inl ((pgM gr9 tk (mif 1) i).1)))), ((ad 54), .inl (0, 108, .inl fl)), ((ad 55), .inl (0, 108, .inl he)), ((ad 56), .inl (0, 108, .inl nx)), ((ad 57), .inl (0, 108, .inl mtt)), ((ad 58), .inl (0, 108, .inl fz)), ((ad 59), .inl (2, 108, .inl ic)), ((ad 60), .inl (0, 108, .inl (fun k => nI (qn k)))), ((ad 61), .inl (0, 108, .inl gp)), (its, .inl (1, 108, .inl f_i)), (nb, .inl (0, 5, .inl f_n)), (q124, .inl (0, 6, .inl (fun _ => 0))), (q129, .inl (3, 4, .inr (.inl ((pgM gr9 tk (mif 1) i).2))))] kc ks := by
  intro d
  induction d with
  | zero => intro i  h1 h2; exact absurd h2 (by omega)
  | succ d ih =>
    intro i  h1 h2
    refine y_iload d_Mm_pour_144 0 rfl ?_
    refine y_iconst d_Mm_pour_146 (v := 4) (by decide) ?_
    refine y_icmp_ge (tgt := 195) d_Mm_pour_147 (by decide) (fun c_147 => ?_) (fun c_147 => ?_)
    · have hn := z_le (a := 4) (by omega) (by decide) c_147
      obtain rfl : i = 4 := by omega
      refine y_lv (lv' := [(6, .ref q129), (5, .ref q124), (4, .int tk), (3, .int wt), (2, .ref nb), (1, .ref its), (0, .ref (ad 52))]) [2, 3, 4, 5, 6, 7, 8] rfl ?_
      exact K ()
    · have hn := z_nle (a := 4) (by omega) (by decide) c_147
      refine y_aload d_Mm_pour_150 2 rfl ?_
      refine y_iload d_Mm_pour_152 0 rfl ?_
      refine y_aload_n d_Mm_pour_154 rfl 8 rfl ?_
      refine y_get fs_Mm_65 d_Mm_pour_155 (q0 := 0) rfl rfl ?_
      refine y_iconst d_Mm_pour_158 (v := 4) (by decide) ?_
      refine y_iload d_Mm_pour_159 0 rfl ?_
      refine y_iadd d_Mm_pour_161 (v := nI (4 + i)) (nI_add _ _) ?_
      refine y_lald d_Mm_pour_162 (q0 := 2) rfl (vp_in_nI (by omega) (by omega)) (v := ((pgM gr9 tk (mif 1) i).1) (4 + i)) (by rw [nI_clamp (by omega)]) ?_
      refine y_iload d_Mm_pour_163 4 rfl ?_
      refine y_i2l d_Mm_pour_165 (v := tk.toInt64) rfl ?_
      refine y_lmul d_Mm_pour_166 (v := (((pgM gr9 tk (mif 1) i).1) (4 + i)) * tk.toInt64) rfl ?_
      refine y_iload d_Mm_pour_167 1 rfl ?_
      refine y_i2l d_Mm_pour_169 (v := (mif 1).toInt64) rfl ?_
      refine y_ldiv d_Mm_pour_170 (v := ((((pgM gr9 tk (mif 1) i).1) (4 + i)) * tk.toInt64) / ((mif 1).toInt64)) (z_l0 hall) rfl ?_
      refine y_last d_Mm_pour_171 (q0 := 14) rfl (vp_in_nI (by omega) (by omega)) (f' := (pgM gr9 tk (mif 1) (i + 1)).2) (by rw [nI_clamp (by omega)] <;> rfl) (cs' := [((ad 52), .inr (12, [.int w_th, .ref (ad 53), .int w_pt, .ref (ad 54), .ref (ad 55), .ref (ad 56), .ref (ad 57), .ref (ad 58), .ref (ad 59), .ref (ad 60), .ref (ad 61), .int w_cl, .int w_wa, .int w_co_, .int w_fi, .int w_bu, .int w_ho, .ref (ad 62), .ref (ad 63), .ref (ad 64), .int w_lh, .int w_mg, .int w_wd, .int w_fpi, .int w_fal, .ref (ad 65), .ref (ad 66), .ref (ad 67), .ref (ad 68), .long w_po, .long w_de])), ((ad 63), .inl (0, 4, .inl mif)), ((ad 64), .inl (3, 16, .inr (.inl ((pgM gr9 tk (mif 1) i).1)))), ((ad 54), .inl (0, 108, .inl fl)), ((ad 55), .inl (0, 108, .inl he)), ((ad 56), .inl (0, 108, .inl nx)), ((ad 57), .inl (0, 108, .inl mtt)), ((ad 58), .inl (0, 108, .inl fz)), ((ad 59), .inl (2, 108, .inl ic)), ((ad 60), .inl (0, 108, .inl (fun k => nI (qn k)))), ((ad 61), .inl (0, 108, .inl gp)), (its, .inl (1, 108, .inl f_i)), (nb, .inl (0, 5, .inl f_n)), (q124, .inl (0, 6, .inl (fun _ => 0))), (q129, .inl (3, 4, .inr (.inl ((pgM gr9 tk (mif 1) (i + 1)).2))))]) rfl ?_
      refine y_aload_n d_Mm_pour_172 rfl 8 rfl ?_
      refine y_get fs_Mm_65 d_Mm_pour_173 (q0 := 0) rfl rfl ?_
      refine y_iconst d_Mm_pour_176 (v := 4) (by decide) ?_
      refine y_iload d_Mm_pour_177 0 rfl ?_
      refine y_iadd d_Mm_pour_179 (v := nI (4 + i)) (nI_add _ _) ?_
      refine y_dup2_11 d_Mm_pour_180 rfl rfl ?_
      refine y_lald d_Mm_pour_181 (q0 := 2) rfl (vp_in_nI (by omega) (by omega)) (v := ((pgM gr9 tk (mif 1) i).1) (4 + i)) (by rw [nI_clamp (by omega)]) ?_
      refine y_aload d_Mm_pour_182 2 rfl ?_
      refine y_iload d_Mm_pour_184 0 rfl ?_
      refine y_lald d_Mm_pour_186 (q0 := 14) rfl (vp_in_nI (by omega) (by omega)) (v := ((pgM gr9 tk (mif 1) (i + 1)).2) i) (by rw [nI_clamp (by omega)]) ?_
      refine y_lsub d_Mm_pour_187 (v := (((pgM gr9 tk (mif 1) i).1) (4 + i)) - (((pgM gr9 tk (mif 1) (i + 1)).2) i)) rfl ?_
      refine y_last d_Mm_pour_188 (q0 := 2) rfl (vp_in_nI (by omega) (by omega)) (f' := (pgM gr9 tk (mif 1) (i + 1)).1) (by rw [nI_clamp (by omega)] <;> rfl) (cs' := [((ad 52), .inr (12, [.int w_th, .ref (ad 53), .int w_pt, .ref (ad 54), .ref (ad 55), .ref (ad 56), .ref (ad 57), .ref (ad 58), .ref (ad 59), .ref (ad 60), .ref (ad 61), .int w_cl, .int w_wa, .int w_co_, .int w_fi, .int w_bu, .int w_ho, .ref (ad 62), .ref (ad 63), .ref (ad 64), .int w_lh, .int w_mg, .int w_wd, .int w_fpi, .int w_fal, .ref (ad 65), .ref (ad 66), .ref (ad 67), .ref (ad 68), .long w_po, .long w_de])), ((ad 63), .inl (0, 4, .inl mif)), ((ad 64), .inl (3, 16, .inr (.inl ((pgM gr9 tk (mif 1) (i + 1)).1)))), ((ad 54), .inl (0, 108, .inl fl)), ((ad 55), .inl (0, 108, .inl he)), ((ad 56), .inl (0, 108, .inl nx)), ((ad 57), .inl (0, 108, .inl mtt)), ((ad 58), .inl (0, 108, .inl fz)), ((ad 59), .inl (2, 108, .inl ic)), ((ad 60), .inl (0, 108, .inl (fun k => nI (qn k)))), ((ad 61), .inl (0, 108, .inl gp)), (its, .inl (1, 108, .inl f_i)), (nb, .inl (0, 5, .inl f_n)), (q124, .inl (0, 6, .inl (fun _ => 0))), (q129, .inl (3, 4, .inr (.inl ((pgM gr9 tk (mif 1) (i + 1)).2))))]) rfl ?_
      refine y_iinc (lv' := [(8, .int (nI (i + 1))), (7, .int (mif 1)), (6, .ref q129), (5, .ref q124), (4, .int tk), (3, .int wt), (2, .ref nb), (1, .ref its), (0, .ref (ad 52))]) (v := nI (i + 1)) d_Mm_pour_189 (j := 0) rfl (nI_add _ _) (by decide) rfl ?_
      refine y_goto (tgt := 144) d_Mm_pour_192 (by decide) ?_
      exact ih (i + 1)  (by omega) (by omega)
theorem d_Mm_pour_457 : decode prog_14_method_77_code 457 = .ok (.iadd, 1) := zo_96 (zd_b zq_prog_14_method_77_code_14 9 rfl rfl rfl)
theorem d_Mm_pour_458 : decode prog_14_method_77_code 458 = .ok (.iadd, 1) := zo_96 (zd_b zq_prog_14_method_77_code_14 10 rfl rfl rfl)
theorem d_Mm_pour_459 : decode prog_14_method_77_code 459 = .ok (.istore 11, 2) := zo_54 (d := 11) (zd_b zq_prog_14_method_77_code_14 11 rfl rfl rfl) (zd_b zq_prog_14_method_77_code_14 12 rfl rfl rfl)
set_option maxHeartbeats 4000000 in
set_option maxRecDepth 100000 in
theorem Jx11_pour (g : zG) {Ψ : zO → zW → Prop} {w0 : zW} {n kc ks : Nat} {ad : Nat → Nat} (w_th w_pt w_cl w_wa w_co_ w_fi w_bu w_ho w_lh w_mg w_wd w_fpi w_fal : Int32) (w_po w_de : Int64) (fl he nx mtt fz ic gp f_i f_n mif mdf : Nat → Int32) (qn : Nat → Nat) (gr9 mg9 : Nat → Int64) (its nb q124 q129 p_n : Nat) (tk wt : Int32) (hT : ¬ tk = 0) (hch_i : z_ch f_i) (hg_i : ¬ fa_cnt (fun k => decide (f_i k = 103)) 12 = 0) (h0_n : f_n 0 = nI p_n) (hp_n : 1 ≤ p_n ∧ p_n < 9) (hv_i : vlA f_i fl) (sh : Int32) (hsh : mdf 3 = sh) (z2 : Int32) (hz2 : z2 = pEh (pE10 mg9 tk w_mg)) (K : ∀ (gp : Nat → Int32) (qn : Nat → Nat), DU g M_Mm_pour Ψ w0 n 461 [(11, .int (pfF f_i f_n p_n mg9 tk w_mg sh (icQ f_i fl w_lh (decide (tk < wt)) 108))), (6, .ref q129), (5, .ref q124), (0, .ref (ad 52))] [] [((ad 52), .inr (12, [.int w_th, .ref (ad 53), .int w_pt, .ref (ad 54), .ref (ad 55), .ref (ad 56), .ref (ad 57), .ref (ad 58), .ref (ad 59), .ref (ad 60), .ref (ad 61), .int w_cl, .int w_wa, .int w_co_, .int w_fi, .int w_bu, .int w_ho, .ref (ad 62), .ref (ad 63), .ref (ad 64), .int w_lh, .int w_mg, .int w_wd, .int w_fpi, .int w_fal, .ref (ad 65), .ref (ad 66), .ref (ad 67), .ref (ad 68), .long w_po, .long w_de])), ((ad 63), .inl (0, 4, .inl mif)), ((ad 64), .inl (3, 16, .inr (.inl gr9))), ((ad 54), .inl (0, 108, .inl fl)), ((ad 55), .inl (0, 108, .inl he)), ((ad 56), .inl (0, 108, .inl nx)), ((ad 57), .inl (0, 108, .inl mtt)), ((ad 58), .inl (0, 108, .inl fz)), ((ad 59), .inl (2, 108, .inl ic)), ((ad 60), .inl (0, 108, .inl (fun k => nI (qn k)))), ((ad 61), .inl (0, 108, .inl gp)), (its, .inl (1, 108, .inl f_i)), (nb, .inl (0, 5, .inl f_n)), (q124, .inl (0, 6, .inl (upd mdf 4 (pE4 w_mg)))), (q129, .inl (3, 4, .inr (.inl mg9)))] kc ks) : DU g M_Mm_pour Ψ w0 n 457 [(11, .int (pE5 sh + pE7 (icQ f_i fl w_lh (decide (tk < wt)) 108) + pEs f_i f_n)), (10, .int (pE10 mg9 tk w_mg)), (8, .int (pE8 f_n)), (6, .ref q129), (5, .ref q124), (4, .int tk), (3, .int wt), (2, .ref nb), (1, .ref its), (0, .ref (ad 52))] [.int z2, .int (pEb (pE8 f_n) + pEc f_i p_n), .int (pE5 sh + pE7 (icQ f_i fl w_lh (decide (tk < wt)) 108) + pEs f_i f_n)] [((ad 52), .inr (12, [.int w_th, .ref (ad 53), .int w_pt, .ref (ad 54), .ref (ad 55), .ref (ad 56), .ref (ad 57), .ref (ad 58), .ref (ad 59), .ref (ad 60), .ref (ad 61), .int w_cl, .int w_wa, .int w_co_, .int w_fi, .int w_bu, .int w_ho, .ref (ad 62), .ref (ad 63), .ref (ad 64), .int w_lh, .int w_mg, .int w_wd, .int w_fpi, .int w_fal, .ref (ad 65), .ref (ad 66), .ref (ad 67), .ref (ad 68), .long w_po, .long w_de])), ((ad 63), .inl (0, 4, .inl mif)), ((ad 64), .inl (3, 16, .inr (.inl gr9))), ((ad 54), .inl (0, 108, .inl fl)), ((ad 55), .inl (0, 108, .inl he)), ((ad 56), .inl (0, 108, .inl nx)), ((ad 57), .inl (0, 108, .inl mtt)), ((ad 58), .inl (0, 108, .inl fz)), ((ad 59), .inl (2, 108, .inl ic)), ((ad 60), .inl (0, 108, .inl (fun k => nI (qn k)))), ((ad 61), .inl (0, 108, .inl gp)), (its, .inl (1, 108, .inl f_i)), (nb, .inl (0, 5, .inl f_n)), (q124, .inl (0, 6, .inl (upd mdf 4 (pE4 w_mg)))), (q129, .inl (3, 4, .inr (.inl mg9)))] kc ks := by
  subst hz2
  refine y_iadd d_Mm_pour_457 (v := (pEb (pE8 f_n) + pEc f_i p_n) + (pEh (pE10 mg9 tk w_mg))) rfl ?_
  refine y_iadd d_Mm_pour_458 (v := (pE5 sh + pE7 (icQ f_i fl w_lh (decide (tk < wt)) 108) + pEs f_i f_n) + ((pEb (pE8 f_n) + pEc f_i p_n) + (pEh (pE10 mg9 tk w_mg)))) rfl ?_
  refine y_istore (lv' := [(11, .int ((pE5 sh + pE7 (icQ f_i fl w_lh (decide (tk < wt)) 108) + pEs f_i f_n) + ((pEb (pE8 f_n) + pEc f_i p_n) + (pEh (pE10 mg9 tk w_mg))))), (10, .int (pE10 mg9 tk w_mg)), (8, .int (pE8 f_n)), (6, .ref q129), (5, .ref q124), (4, .int tk), (3, .int wt), (2, .ref nb), (1, .ref its), (0, .ref (ad 52))]) d_Mm_pour_459 (by decide) rfl ?_
  refine y_lv (lv' := [(11, .int ((pE5 sh + pE7 (icQ f_i fl w_lh (decide (tk < wt)) 108) + pEs f_i f_n) + ((pEb (pE8 f_n) + pEc f_i p_n) + (pEh (pE10 mg9 tk w_mg))))), (6, .ref q129), (5, .ref q124), (0, .ref (ad 52))]) [0, 3, 4, 9] rfl ?_
  exact K _ _
theorem d_Mm_pour_445 : decode prog_14_method_77_code 445 = .ok (.iadd, 1) := zo_96 (zd_b zq_prog_14_method_77_code_13 29 rfl rfl rfl)
theorem d_Mm_pour_446 : decode prog_14_method_77_code 446 = .ok (.iload 10, 2) := zo_21 (d := 10) (zd_b zq_prog_14_method_77_code_13 30 rfl rfl rfl) (zd_b zq_prog_14_method_77_code_13 31 rfl rfl rfl)
theorem d_Mm_pour_448 : decode prog_14_method_77_code 448 = .ok (.ifCond .eq 8, 3) := zo_153 (d := 0) (e := 8) (zd_b zq_prog_14_method_77_code_14 0 rfl rfl rfl) (zd_b zq_prog_14_method_77_code_14 1 rfl rfl rfl) (zd_b zq_prog_14_method_77_code_14 2 rfl rfl rfl) (by decide +kernel)
theorem d_Mm_pour_456 : decode prog_14_method_77_code 456 = .ok (.iconst 0, 1) := zo_3 (zd_b zq_prog_14_method_77_code_14 8 rfl rfl rfl)
theorem d_Mm_pour_451 : decode prog_14_method_77_code 451 = .ok (.bipush 32, 2) := zo_16 (d := 32) (zd_b zq_prog_14_method_77_code_14 3 rfl rfl rfl) (zd_b zq_prog_14_method_77_code_14 4 rfl rfl rfl) (by decide +kernel)
theorem d_Mm_pour_453 : decode prog_14_method_77_code 453 = .ok (.goto 4, 3) := zo_167 (d := 0) (e := 4) (zd_b zq_prog_14_method_77_code_14 5 rfl rfl rfl) (zd_b zq_prog_14_method_77_code_14 6 rfl rfl rfl) (zd_b zq_prog_14_method_77_code_14 7 rfl rfl rfl) (by decide +kernel)
set_option maxHeartbeats 4000000 in
set_option maxRecDepth 100000 in
theorem Jx10_pour (g : zG) {Ψ : zO → zW → Prop} {w0 : zW} {n kc ks : Nat} {ad : Nat → Nat} (w_th w_pt w_cl w_wa w_co_ w_fi w_bu w_ho w_lh w_mg w_wd w_fpi w_fal : Int32) (w_po w_de : Int64) (fl he nx mtt fz ic gp f_i f_n mif mdf : Nat → Int32) (qn : Nat → Nat) (gr9 mg9 : Nat → Int64) (its nb q124 q129 p_n : Nat) (tk wt : Int32) (hT : ¬ tk = 0) (hch_i : z_ch f_i) (hg_i : ¬ fa_cnt (fun k => decide (f_i k = 103)) 12 = 0) (h0_n : f_n 0 = nI p_n) (hp_n : 1 ≤ p_n ∧ p_n < 9) (hv_i : vlA f_i fl) (sh : Int32) (hsh : mdf 3 = sh) (z : Int32) (hz : z = pEc f_i p_n) (K : ∀ (gp : Nat → Int32) (qn : Nat → Nat), DU g M_Mm_pour Ψ w0 n 461 [(11, .int (pfF f_i f_n p_n mg9 tk w_mg sh (icQ f_i fl w_lh (decide (tk < wt)) 108))), (6, .ref q129), (5, .ref q124), (0, .ref (ad 52))] [] [((ad 52), .inr (12, [.int w_th, .ref (ad 53), .int w_pt, .ref (ad 54), .ref (ad 55), .ref (ad 56), .ref (ad 57), .ref (ad 58), .ref (ad 59), .ref (ad 60), .ref (ad 61), .int w_cl, .int w_wa, .int w_co_, .int w_fi, .int w_bu, .int w_ho, .ref (ad 62), .ref (ad 63), .ref (ad 64), .int w_lh, .int w_mg, .int w_wd, .int w_fpi, .int w_fal, .ref (ad 65), .ref (ad 66), .ref (ad 67), .ref (ad 68), .long w_po, .long w_de])), ((ad 63), .inl (0, 4, .inl mif)), ((ad 64), .inl (3, 16, .inr (.inl gr9))), ((ad 54), .inl (0, 108, .inl fl)), ((ad 55), .inl (0, 108, .inl he)), ((ad 56), .inl (0, 108, .inl nx)), ((ad 57), .inl (0, 108, .inl mtt)), ((ad 58), .inl (0, 108, .inl fz)), ((ad 59), .inl (2, 108, .inl ic)), ((ad 60), .inl (0, 108, .inl (fun k => nI (qn k)))), ((ad 61), .inl (0, 108, .inl gp)), (its, .inl (1, 108, .inl f_i)), (nb, .inl (0, 5, .inl f_n)), (q124, .inl (0, 6, .inl (upd mdf 4 (pE4 w_mg)))), (q129, .inl (3, 4, .inr (.inl mg9)))] kc ks) : DU g M_Mm_pour Ψ w0 n 445 [(11, .int (pE5 sh + pE7 (icQ f_i fl w_lh (decide (tk < wt)) 108) + pEs f_i f_n)), (10, .int (pE10 mg9 tk w_mg)), (8, .int (pE8 f_n)), (6, .ref q129), (5, .ref q124), (4, .int tk), (3, .int wt), (2, .ref nb), (1, .ref its), (0, .ref (ad 52))] [.int z, .int (pEb (pE8 f_n)), .int (pE5 sh + pE7 (icQ f_i fl w_lh (decide (tk < wt)) 108) + pEs f_i f_n)] [((ad 52), .inr (12, [.int w_th, .ref (ad 53), .int w_pt, .ref (ad 54), .ref (ad 55), .ref (ad 56), .ref (ad 57), .ref (ad 58), .ref (ad 59), .ref (ad 60), .ref (ad 61), .int w_cl, .int w_wa, .int w_co_, .int w_fi, .int w_bu, .int w_ho, .ref (ad 62), .ref (ad 63), .ref (ad 64), .int w_lh, .int w_mg, .int w_wd, .int w_fpi, .int w_fal, .ref (ad 65), .ref (ad 66), .ref (ad 67), .ref (ad 68), .long w_po, .long w_de])), ((ad 63), .inl (0, 4, .inl mif)), ((ad 64), .inl (3, 16, .inr (.inl gr9))), ((ad 54), .inl (0, 108, .inl fl)), ((ad 55), .inl (0, 108, .inl he)), ((ad 56), .inl (0, 108, .inl nx)), ((ad 57), .inl (0, 108, .inl mtt)), ((ad 58), .inl (0, 108, .inl fz)), ((ad 59), .inl (2, 108, .inl ic)), ((ad 60), .inl (0, 108, .inl (fun k => nI (qn k)))), ((ad 61), .inl (0, 108, .inl gp)), (its, .inl (1, 108, .inl f_i)), (nb, .inl (0, 5, .inl f_n)), (q124, .inl (0, 6, .inl (upd mdf 4 (pE4 w_mg)))), (q129, .inl (3, 4, .inr (.inl mg9)))] kc ks := by
  subst hz
  refine y_iadd d_Mm_pour_445 (v := (pEb (pE8 f_n)) + (pEc f_i p_n)) rfl ?_
  refine y_iload d_Mm_pour_446 1 rfl ?_
  refine y_if_eq (tgt := 456) d_Mm_pour_448 (by decide) (fun c_448 => ?_) (fun c_448 => ?_)
  · refine y_iconst d_Mm_pour_456 (v := 0) (by decide) ?_
    refine y_lv (lv' := [(11, .int (pE5 sh + pE7 (icQ f_i fl w_lh (decide (tk < wt)) 108) + pEs f_i f_n)), (10, .int (pE10 mg9 tk w_mg)), (8, .int (pE8 f_n)), (6, .ref q129), (5, .ref q124), (4, .int tk), (3, .int wt), (2, .ref nb), (1, .ref its), (0, .ref (ad 52))]) [0, 1, 2, 3, 4, 5, 6, 7, 8, 9] rfl ?_
    exact Jx11_pour g w_th w_pt w_cl w_wa w_co_ w_fi w_bu w_ho w_lh w_mg w_wd w_fpi w_fal w_po w_de fl he nx mtt fz ic gp f_i f_n mif mdf qn gr9 mg9 its nb q124 q129 p_n tk wt hT hch_i hg_i h0_n hp_n hv_i sh hsh _ (Eq.symm (if_pos c_448)) K
  · refine y_bipush d_Mm_pour_451 (v := 32) (by decide) ?_
    refine y_goto (tgt := 457) d_Mm_pour_453 (by decide) ?_
    refine y_lv (lv' := [(11, .int (pE5 sh + pE7 (icQ f_i fl w_lh (decide (tk < wt)) 108) + pEs f_i f_n)), (10, .int (pE10 mg9 tk w_mg)), (8, .int (pE8 f_n)), (6, .ref q129), (5, .ref q124), (4, .int tk), (3, .int wt), (2, .ref nb), (1, .ref its), (0, .ref (ad 52))]) [0, 1, 2, 3, 4, 5, 6, 7, 8, 9] rfl ?_
    exact Jx11_pour g w_th w_pt w_cl w_wa w_co_ w_fi w_bu w_ho w_lh w_mg w_wd w_fpi w_fal w_po w_de fl he nx mtt fz ic gp f_i f_n mif mdf qn gr9 mg9 its nb q124 q129 p_n tk wt hT hch_i hg_i h0_n hp_n hv_i sh hsh _ (Eq.symm (if_neg c_448)) K
theorem d_Mm_pour_421 : decode prog_14_method_77_code 421 = .ok (.aload_n 0, 1) := zo_42 (zd_b zq_prog_14_method_77_code_13 5 rfl rfl rfl)
theorem d_Mm_pour_422 : decode prog_14_method_77_code 422 = .ok (.aload_n 1, 1) := zo_43 (zd_b zq_prog_14_method_77_code_13 6 rfl rfl rfl)
theorem d_Mm_pour_423 : decode prog_14_method_77_code 423 = .ok (.invokevirtual 131, 3) := zo_182 (d := 0) (e := 131) (zd_b zq_prog_14_method_77_code_13 7 rfl rfl rfl) (zd_b zq_prog_14_method_77_code_13 8 rfl rfl rfl) (zd_b zq_prog_14_method_77_code_13 9 rfl rfl rfl)
theorem ok_Mm_pour_Mm_looseIn : z_ok M_Mm_pour M_Mm_looseIn 1 := ⟨z_mj7 (i := 237) rfl (by decide +kernel), rfl, ⟨by decide +kernel, by decide +kernel, by decide +kernel⟩, ⟨by decide, by decide⟩, z_mj1 (i := 14) rfl (by decide +kernel), rfl⟩
theorem d_Mm_pour_426 : decode prog_14_method_77_code 426 = .ok (.ifCond .gt 13, 3) := zo_157 (d := 0) (e := 13) (zd_b zq_prog_14_method_77_code_13 10 rfl rfl rfl) (zd_b zq_prog_14_method_77_code_13 11 rfl rfl rfl) (zd_b zq_prog_14_method_77_code_13 12 rfl rfl rfl) (by decide +kernel)
theorem d_Mm_pour_439 : decode prog_14_method_77_code 439 = .ok (.bipush 16, 2) := zo_16 (d := 16) (zd_b zq_prog_14_method_77_code_13 23 rfl rfl rfl) (zd_b zq_prog_14_method_77_code_13 24 rfl rfl rfl) (by decide +kernel)
theorem d_Mm_pour_441 : decode prog_14_method_77_code 441 = .ok (.goto 4, 3) := zo_167 (d := 0) (e := 4) (zd_b zq_prog_14_method_77_code_13 25 rfl rfl rfl) (zd_b zq_prog_14_method_77_code_13 26 rfl rfl rfl) (zd_b zq_prog_14_method_77_code_13 27 rfl rfl rfl) (by decide +kernel)
theorem d_Mm_pour_429 : decode prog_14_method_77_code 429 = .ok (.aload_n 1, 1) := zo_43 (zd_b zq_prog_14_method_77_code_13 13 rfl rfl rfl)
theorem d_Mm_pour_430 : decode prog_14_method_77_code 430 = .ok (.aload_n 2, 1) := zo_44 (zd_b zq_prog_14_method_77_code_13 14 rfl rfl rfl)
theorem d_Mm_pour_431 : decode prog_14_method_77_code 431 = .ok (.iconst 0, 1) := zo_3 (zd_b zq_prog_14_method_77_code_13 15 rfl rfl rfl)
theorem d_Mm_pour_432 : decode prog_14_method_77_code 432 = .ok (.iaload, 1) := zo_46 (zd_b zq_prog_14_method_77_code_13 16 rfl rfl rfl)
theorem d_Mm_pour_433 : decode prog_14_method_77_code 433 = .ok (.invokestatic 111, 3) := zo_184 (d := 0) (e := 111) (zd_b zq_prog_14_method_77_code_13 17 rfl rfl rfl) (zd_b zq_prog_14_method_77_code_13 18 rfl rfl rfl) (zd_b zq_prog_14_method_77_code_13 19 rfl rfl rfl)
theorem ok_Mm_pour_Mm_undercutIn : z_ok M_Mm_pour M_Mm_undercutIn 2 := ⟨z_mj7 (i := 211) rfl (by decide +kernel), rfl, ⟨by decide +kernel, by decide +kernel, by decide +kernel⟩, ⟨by decide, by decide⟩, z_mj1 (i := 14) rfl (by decide +kernel), rfl⟩
theorem d_Mm_pour_436 : decode prog_14_method_77_code 436 = .ok (.ifCond .le 8, 3) := zo_158 (d := 0) (e := 8) (zd_b zq_prog_14_method_77_code_13 20 rfl rfl rfl) (zd_b zq_prog_14_method_77_code_13 21 rfl rfl rfl) (zd_b zq_prog_14_method_77_code_13 22 rfl rfl rfl) (by decide +kernel)
theorem d_Mm_pour_444 : decode prog_14_method_77_code 444 = .ok (.iconst 0, 1) := zo_3 (zd_b zq_prog_14_method_77_code_13 28 rfl rfl rfl)
set_option maxHeartbeats 4000000 in
set_option maxRecDepth 100000 in
theorem Jx9_pour (g : zG) {Ψ : zO → zW → Prop} {w0 : zW} {n kc ks : Nat} {ad : Nat → Nat} (w_th w_pt w_cl w_wa w_co_ w_fi w_bu w_ho w_lh w_mg w_wd w_fpi w_fal : Int32) (w_po w_de : Int64) (fl he nx mtt fz ic gp f_i f_n mif mdf : Nat → Int32) (qn : Nat → Nat) (gr9 mg9 : Nat → Int64) (its nb q124 q129 p_n : Nat) (tk wt : Int32) (hT : ¬ tk = 0) (hch_i : z_ch f_i) (hg_i : ¬ fa_cnt (fun k => decide (f_i k = 103)) 12 = 0) (h0_n : f_n 0 = nI p_n) (hp_n : 1 ≤ p_n ∧ p_n < 9) (hv_i : vlA f_i fl) (sh : Int32) (hsh : mdf 3 = sh) (y : Int32) (hy : y = pEb (pE8 f_n)) (K : ∀ (gp : Nat → Int32) (qn : Nat → Nat), DU g M_Mm_pour Ψ w0 n 461 [(11, .int (pfF f_i f_n p_n mg9 tk w_mg sh (icQ f_i fl w_lh (decide (tk < wt)) 108))), (6, .ref q129), (5, .ref q124), (0, .ref (ad 52))] [] [((ad 52), .inr (12, [.int w_th, .ref (ad 53), .int w_pt, .ref (ad 54), .ref (ad 55), .ref (ad 56), .ref (ad 57), .ref (ad 58), .ref (ad 59), .ref (ad 60), .ref (ad 61), .int w_cl, .int w_wa, .int w_co_, .int w_fi, .int w_bu, .int w_ho, .ref (ad 62), .ref (ad 63), .ref (ad 64), .int w_lh, .int w_mg, .int w_wd, .int w_fpi, .int w_fal, .ref (ad 65), .ref (ad 66), .ref (ad 67), .ref (ad 68), .long w_po, .long w_de])), ((ad 63), .inl (0, 4, .inl mif)), ((ad 64), .inl (3, 16, .inr (.inl gr9))), ((ad 54), .inl (0, 108, .inl fl)), ((ad 55), .inl (0, 108, .inl he)), ((ad 56), .inl (0, 108, .inl nx)), ((ad 57), .inl (0, 108, .inl mtt)), ((ad 58), .inl (0, 108, .inl fz)), ((ad 59), .inl (2, 108, .inl ic)), ((ad 60), .inl (0, 108, .inl (fun k => nI (qn k)))), ((ad 61), .inl (0, 108, .inl gp)), (its, .inl (1, 108, .inl f_i)), (nb, .inl (0, 5, .inl f_n)), (q124, .inl (0, 6, .inl (upd mdf 4 (pE4 w_mg)))), (q129, .inl (3, 4, .inr (.inl mg9)))] kc ks) : DU g M_Mm_pour Ψ w0 n 421 [(11, .int (pE5 sh + pE7 (icQ f_i fl w_lh (decide (tk < wt)) 108) + pEs f_i f_n)), (10, .int (pE10 mg9 tk w_mg)), (8, .int (pE8 f_n)), (6, .ref q129), (5, .ref q124), (4, .int tk), (3, .int wt), (2, .ref nb), (1, .ref its), (0, .ref (ad 52))] [.int y, .int (pE5 sh + pE7 (icQ f_i fl w_lh (decide (tk < wt)) 108) + pEs f_i f_n)] [((ad 52), .inr (12, [.int w_th, .ref (ad 53), .int w_pt, .ref (ad 54), .ref (ad 55), .ref (ad 56), .ref (ad 57), .ref (ad 58), .ref (ad 59), .ref (ad 60), .ref (ad 61), .int w_cl, .int w_wa, .int w_co_, .int w_fi, .int w_bu, .int w_ho, .ref (ad 62), .ref (ad 63), .ref (ad 64), .int w_lh, .int w_mg, .int w_wd, .int w_fpi, .int w_fal, .ref (ad 65), .ref (ad 66), .ref (ad 67), .ref (ad 68), .long w_po, .long w_de])), ((ad 63), .inl (0, 4, .inl mif)), ((ad 64), .inl (3, 16, .inr (.inl gr9))), ((ad 54), .inl (0, 108, .inl fl)), ((ad 55), .inl (0, 108, .inl he)), ((ad 56), .inl (0, 108, .inl nx)), ((ad 57), .inl (0, 108, .inl mtt)), ((ad 58), .inl (0, 108, .inl fz)), ((ad 59), .inl (2, 108, .inl ic)), ((ad 60), .inl (0, 108, .inl (fun k => nI (qn k)))), ((ad 61), .inl (0, 108, .inl gp)), (its, .inl (1, 108, .inl f_i)), (nb, .inl (0, 5, .inl f_n)), (q124, .inl (0, 6, .inl (upd mdf 4 (pE4 w_mg)))), (q129, .inl (3, 4, .inr (.inl mg9)))] kc ks := by
  subst hy
  refine y_aload_n d_Mm_pour_421 rfl 9 rfl ?_
  refine y_aload_n d_Mm_pour_422 rfl 8 rfl ?_
  refine y_callV (As := [.ref its]) (rest := [.int (pEb (pE8 f_n)), .int (pE5 sh + pE7 (icQ f_i fl w_lh (decide (tk < wt)) 108) + pEs f_i f_n)]) (csC := [((ad 52), .inr (12, [.int w_th, .ref (ad 53), .int w_pt, .ref (ad 54), .ref (ad 55), .ref (ad 56), .ref (ad 57), .ref (ad 58), .ref (ad 59), .ref (ad 60), .ref (ad 61), .int w_cl, .int w_wa, .int w_co_, .int w_fi, .int w_bu, .int w_ho, .ref (ad 62), .ref (ad 63), .ref (ad 64), .int w_lh, .int w_mg, .int w_wd, .int w_fpi, .int w_fal, .ref (ad 65), .ref (ad 66), .ref (ad 67), .ref (ad 68), .long w_po, .long w_de])), (its, .inl (1, 108, .inl f_i)), ((ad 61), .inl (0, 108, .inl gp)), ((ad 60), .inl (0, 108, .inl (fun k => nI (qn k))))]) (is := [0, 11, 10, 9]) (q0 := 0) rfl rfl ln_Mm_131 w_im_Mm_looseIn w_se_Mm_looseIn ok_Mm_pour_Mm_looseIn d_Mm_pour_423 (C_Mm_looseIn9 g (ad 52) (ad 53) (ad 54) (ad 55) (ad 56) (ad 57) (ad 58) (ad 59) (ad 60) (ad 61) (ad 62) (ad 63) (ad 64) (ad 65) (ad 66) (ad 67) (ad 68) w_th w_pt w_cl w_wa w_co_ w_fi w_bu w_ho w_lh w_mg w_wd w_fpi w_fal w_po w_de its f_i gp qn) rfl rfl (Nat.le_of_ble_eq_true rfl) rfl (by decide) (by omega) (by omega) (fun E cs1 hx => ?_) (fun v cs1 hx => ?_)
  · exact absurd hx.1 (by simp)
  · obtain ⟨e1, rfl⟩ := hx
    rw [lo_r] at e1
    cases e1
    refine ⟨rfl, ?_⟩
    refine y_st (st2 := [.int (nI (loN f_i)), .int (pEb (pE8 f_n)), .int (pE5 sh + pE7 (icQ f_i fl w_lh (decide (tk < wt)) 108) + pEs f_i f_n)]) rfl ?_
    refine y_cs (cs2 := [((ad 52), .inr (12, [.int w_th, .ref (ad 53), .int w_pt, .ref (ad 54), .ref (ad 55), .ref (ad 56), .ref (ad 57), .ref (ad 58), .ref (ad 59), .ref (ad 60), .ref (ad 61), .int w_cl, .int w_wa, .int w_co_, .int w_fi, .int w_bu, .int w_ho, .ref (ad 62), .ref (ad 63), .ref (ad 64), .int w_lh, .int w_mg, .int w_wd, .int w_fpi, .int w_fal, .ref (ad 65), .ref (ad 66), .ref (ad 67), .ref (ad 68), .long w_po, .long w_de])), ((ad 63), .inl (0, 4, .inl mif)), ((ad 64), .inl (3, 16, .inr (.inl gr9))), ((ad 54), .inl (0, 108, .inl fl)), ((ad 55), .inl (0, 108, .inl he)), ((ad 56), .inl (0, 108, .inl nx)), ((ad 57), .inl (0, 108, .inl mtt)), ((ad 58), .inl (0, 108, .inl fz)), ((ad 59), .inl (2, 108, .inl ic)), ((ad 60), .inl (0, 108, .inl (fun k => nI ((rgS f_i (fa_fill (fun _ => -1) gp 108, qn, 0) 108).2.1 k)))), ((ad 61), .inl (0, 108, .inl ((rgS f_i (fa_fill (fun _ => -1) gp 108, qn, 0) 108).1))), (its, .inl (1, 108, .inl f_i)), (nb, .inl (0, 5, .inl f_n)), (q124, .inl (0, 6, .inl (upd mdf 4 (pE4 w_mg)))), (q129, .inl (3, 4, .inr (.inl mg9)))]) rfl ?_
    refine y_if_gt (tgt := 439) d_Mm_pour_426 (by decide) (fun c_426 => ?_) (fun c_426 => ?_)
    · refine y_bipush d_Mm_pour_439 (v := 16) (by decide) ?_
      refine y_goto (tgt := 445) d_Mm_pour_441 (by decide) ?_
      refine y_lv (lv' := [(11, .int (pE5 sh + pE7 (icQ f_i fl w_lh (decide (tk < wt)) 108) + pEs f_i f_n)), (10, .int (pE10 mg9 tk w_mg)), (8, .int (pE8 f_n)), (6, .ref q129), (5, .ref q124), (4, .int tk), (3, .int wt), (2, .ref nb), (1, .ref its), (0, .ref (ad 52))]) [0, 1, 2, 3, 4, 5, 6, 7, 8, 9] rfl ?_
      exact Jx10_pour g w_th w_pt w_cl w_wa w_co_ w_fi w_bu w_ho w_lh w_mg w_wd w_fpi w_fal w_po w_de fl he nx mtt fz ic ((rgS f_i (fa_fill (fun _ => -1) gp 108, qn, 0) 108).1) f_i f_n mif mdf ((rgS f_i (fa_fill (fun _ => -1) gp 108, qn, 0) 108).2.1) gr9 mg9 its nb q124 q129 p_n tk wt hT hch_i hg_i h0_n hp_n hv_i sh hsh _ (by first | exact Eq.symm (if_pos (Or.inl c_426)) | exact Eq.symm (if_pos (Or.inr (Int32.not_le.mp c_436)))) K
    · refine y_aload_n d_Mm_pour_429 rfl 8 rfl ?_
      refine y_aload_n d_Mm_pour_430 rfl 7 rfl ?_
      refine y_iconst d_Mm_pour_431 (v := 0) (by decide) ?_
      refine y_iald d_Mm_pour_432 (q0 := 12) rfl (fun q => q.elim (by decide) (by decide)) (v := nI p_n) h0_n ?_
      refine y_callS (As := [.ref its, .int (nI p_n)]) (rest := [.int (pEb (pE8 f_n)), .int (pE5 sh + pE7 (icQ f_i fl w_lh (decide (tk < wt)) 108) + pEs f_i f_n)]) (csC := [(its, .inl (1, 108, .inl f_i))]) (is := [11]) ln_Mm_111 w_st_Mm_undercutIn ok_Mm_pour_Mm_undercutIn d_Mm_pour_433 (C_Mm_undercutIn g its f_i p_n hp_n.1 hp_n.2 hch_i) rfl rfl (Nat.le_of_ble_eq_true rfl) rfl (by decide) (by omega) (by omega) (fun E cs1 hx => ?_) (fun v cs1 hx => ?_)
      · exact absurd hx.1 (by simp)
      · obtain ⟨e1, rfl⟩ := hx
        cases e1
        refine ⟨rfl, ?_⟩
        refine y_st (st2 := [.int (nI (ucT f_i p_n 12)), .int (pEb (pE8 f_n)), .int (pE5 sh + pE7 (icQ f_i fl w_lh (decide (tk < wt)) 108) + pEs f_i f_n)]) rfl ?_
        refine y_cs (cs2 := [((ad 52), .inr (12, [.int w_th, .ref (ad 53), .int w_pt, .ref (ad 54), .ref (ad 55), .ref (ad 56), .ref (ad 57), .ref (ad 58), .ref (ad 59), .ref (ad 60), .ref (ad 61), .int w_cl, .int w_wa, .int w_co_, .int w_fi, .int w_bu, .int w_ho, .ref (ad 62), .ref (ad 63), .ref (ad 64), .int w_lh, .int w_mg, .int w_wd, .int w_fpi, .int w_fal, .ref (ad 65), .ref (ad 66), .ref (ad 67), .ref (ad 68), .long w_po, .long w_de])), ((ad 63), .inl (0, 4, .inl mif)), ((ad 64), .inl (3, 16, .inr (.inl gr9))), ((ad 54), .inl (0, 108, .inl fl)), ((ad 55), .inl (0, 108, .inl he)), ((ad 56), .inl (0, 108, .inl nx)), ((ad 57), .inl (0, 108, .inl mtt)), ((ad 58), .inl (0, 108, .inl fz)), ((ad 59), .inl (2, 108, .inl ic)), ((ad 60), .inl (0, 108, .inl (fun k => nI ((rgS f_i (fa_fill (fun _ => -1) gp 108, qn, 0) 108).2.1 k)))), ((ad 61), .inl (0, 108, .inl ((rgS f_i (fa_fill (fun _ => -1) gp 108, qn, 0) 108).1))), (its, .inl (1, 108, .inl f_i)), (nb, .inl (0, 5, .inl f_n)), (q124, .inl (0, 6, .inl (upd mdf 4 (pE4 w_mg)))), (q129, .inl (3, 4, .inr (.inl mg9)))]) rfl ?_
        refine y_if_le (tgt := 444) d_Mm_pour_436 (by decide) (fun c_436 => ?_) (fun c_436 => ?_)
        · refine y_iconst d_Mm_pour_444 (v := 0) (by decide) ?_
          refine y_lv (lv' := [(11, .int (pE5 sh + pE7 (icQ f_i fl w_lh (decide (tk < wt)) 108) + pEs f_i f_n)), (10, .int (pE10 mg9 tk w_mg)), (8, .int (pE8 f_n)), (6, .ref q129), (5, .ref q124), (4, .int tk), (3, .int wt), (2, .ref nb), (1, .ref its), (0, .ref (ad 52))]) [0, 1, 2, 3, 4, 5, 6, 7, 8, 9] rfl ?_
          exact Jx10_pour g w_th w_pt w_cl w_wa w_co_ w_fi w_bu w_ho w_lh w_mg w_wd w_fpi w_fal w_po w_de fl he nx mtt fz ic ((rgS f_i (fa_fill (fun _ => -1) gp 108, qn, 0) 108).1) f_i f_n mif mdf ((rgS f_i (fa_fill (fun _ => -1) gp 108, qn, 0) 108).2.1) gr9 mg9 its nb q124 q129 p_n tk wt hT hch_i hg_i h0_n hp_n hv_i sh hsh _ (Eq.symm (if_neg (fun q => q.elim c_426 (fun e => absurd c_436 (Int32.not_le.mpr e))))) K
        · refine y_bipush d_Mm_pour_439 (v := 16) (by decide) ?_
          refine y_goto (tgt := 445) d_Mm_pour_441 (by decide) ?_
          refine y_lv (lv' := [(11, .int (pE5 sh + pE7 (icQ f_i fl w_lh (decide (tk < wt)) 108) + pEs f_i f_n)), (10, .int (pE10 mg9 tk w_mg)), (8, .int (pE8 f_n)), (6, .ref q129), (5, .ref q124), (4, .int tk), (3, .int wt), (2, .ref nb), (1, .ref its), (0, .ref (ad 52))]) [0, 1, 2, 3, 4, 5, 6, 7, 8, 9] rfl ?_
          exact Jx10_pour g w_th w_pt w_cl w_wa w_co_ w_fi w_bu w_ho w_lh w_mg w_wd w_fpi w_fal w_po w_de fl he nx mtt fz ic ((rgS f_i (fa_fill (fun _ => -1) gp 108, qn, 0) 108).1) f_i f_n mif mdf ((rgS f_i (fa_fill (fun _ => -1) gp 108, qn, 0) 108).2.1) gr9 mg9 its nb q124 q129 p_n tk wt hT hch_i hg_i h0_n hp_n hv_i sh hsh _ (by first | exact Eq.symm (if_pos (Or.inl c_426)) | exact Eq.symm (if_pos (Or.inr (Int32.not_le.mp c_436)))) K
theorem d_Mm_pour_405 : decode prog_14_method_77_code 405 = .ok (.iadd, 1) := zo_96 (zd_b zq_prog_14_method_77_code_12 21 rfl rfl rfl)
theorem d_Mm_pour_406 : decode prog_14_method_77_code 406 = .ok (.istore 11, 2) := zo_54 (d := 11) (zd_b zq_prog_14_method_77_code_12 22 rfl rfl rfl) (zd_b zq_prog_14_method_77_code_12 23 rfl rfl rfl)
theorem d_Mm_pour_408 : decode prog_14_method_77_code 408 = .ok (.iload 11, 2) := zo_21 (d := 11) (zd_b zq_prog_14_method_77_code_12 24 rfl rfl rfl) (zd_b zq_prog_14_method_77_code_12 25 rfl rfl rfl)
theorem d_Mm_pour_410 : decode prog_14_method_77_code 410 = .ok (.iload 8, 2) := zo_21 (d := 8) (zd_b zq_prog_14_method_77_code_12 26 rfl rfl rfl) (zd_b zq_prog_14_method_77_code_12 27 rfl rfl rfl)
theorem d_Mm_pour_412 : decode prog_14_method_77_code 412 = .ok (.ifCond .eq 8, 3) := zo_153 (d := 0) (e := 8) (zd_b zq_prog_14_method_77_code_12 28 rfl rfl rfl) (zd_b zq_prog_14_method_77_code_12 29 rfl rfl rfl) (zd_b zq_prog_14_method_77_code_12 30 rfl rfl rfl) (by decide +kernel)
theorem d_Mm_pour_420 : decode prog_14_method_77_code 420 = .ok (.iconst 0, 1) := zo_3 (zd_b zq_prog_14_method_77_code_13 4 rfl rfl rfl)
theorem d_Mm_pour_415 : decode prog_14_method_77_code 415 = .ok (.bipush 8, 2) := zo_16 (d := 8) (zd_b zq_prog_14_method_77_code_12 31 rfl rfl rfl) (zd_b zq_prog_14_method_77_code_13 0 rfl rfl rfl) (by decide +kernel)
theorem d_Mm_pour_417 : decode prog_14_method_77_code 417 = .ok (.goto 4, 3) := zo_167 (d := 0) (e := 4) (zd_b zq_prog_14_method_77_code_13 1 rfl rfl rfl) (zd_b zq_prog_14_method_77_code_13 2 rfl rfl rfl) (zd_b zq_prog_14_method_77_code_13 3 rfl rfl rfl) (by decide +kernel)
set_option maxHeartbeats 4000000 in
set_option maxRecDepth 100000 in
theorem Jx8_pour (g : zG) {Ψ : zO → zW → Prop} {w0 : zW} {n kc ks : Nat} {ad : Nat → Nat} (w_th w_pt w_cl w_wa w_co_ w_fi w_bu w_ho w_lh w_mg w_wd w_fpi w_fal : Int32) (w_po w_de : Int64) (fl he nx mtt fz ic gp f_i f_n mif mdf : Nat → Int32) (qn : Nat → Nat) (gr9 mg9 : Nat → Int64) (its nb q124 q129 p_n : Nat) (tk wt : Int32) (hT : ¬ tk = 0) (hch_i : z_ch f_i) (hg_i : ¬ fa_cnt (fun k => decide (f_i k = 103)) 12 = 0) (h0_n : f_n 0 = nI p_n) (hp_n : 1 ≤ p_n ∧ p_n < 9) (hv_i : vlA f_i fl) (sh : Int32) (hsh : mdf 3 = sh) (y : Int32) (hy : y = pEs f_i f_n) (K : ∀ (gp : Nat → Int32) (qn : Nat → Nat), DU g M_Mm_pour Ψ w0 n 461 [(11, .int (pfF f_i f_n p_n mg9 tk w_mg sh (icQ f_i fl w_lh (decide (tk < wt)) 108))), (6, .ref q129), (5, .ref q124), (0, .ref (ad 52))] [] [((ad 52), .inr (12, [.int w_th, .ref (ad 53), .int w_pt, .ref (ad 54), .ref (ad 55), .ref (ad 56), .ref (ad 57), .ref (ad 58), .ref (ad 59), .ref (ad 60), .ref (ad 61), .int w_cl, .int w_wa, .int w_co_, .int w_fi, .int w_bu, .int w_ho, .ref (ad 62), .ref (ad 63), .ref (ad 64), .int w_lh, .int w_mg, .int w_wd, .int w_fpi, .int w_fal, .ref (ad 65), .ref (ad 66), .ref (ad 67), .ref (ad 68), .long w_po, .long w_de])), ((ad 63), .inl (0, 4, .inl mif)), ((ad 64), .inl (3, 16, .inr (.inl gr9))), ((ad 54), .inl (0, 108, .inl fl)), ((ad 55), .inl (0, 108, .inl he)), ((ad 56), .inl (0, 108, .inl nx)), ((ad 57), .inl (0, 108, .inl mtt)), ((ad 58), .inl (0, 108, .inl fz)), ((ad 59), .inl (2, 108, .inl ic)), ((ad 60), .inl (0, 108, .inl (fun k => nI (qn k)))), ((ad 61), .inl (0, 108, .inl gp)), (its, .inl (1, 108, .inl f_i)), (nb, .inl (0, 5, .inl f_n)), (q124, .inl (0, 6, .inl (upd mdf 4 (pE4 w_mg)))), (q129, .inl (3, 4, .inr (.inl mg9)))] kc ks) : DU g M_Mm_pour Ψ w0 n 405 [(10, .int (pE10 mg9 tk w_mg)), (8, .int (pE8 f_n)), (6, .ref q129), (5, .ref q124), (4, .int tk), (3, .int wt), (2, .ref nb), (1, .ref its), (0, .ref (ad 52))] [.int y, .int (pE5 sh + pE7 (icQ f_i fl w_lh (decide (tk < wt)) 108))] [((ad 52), .inr (12, [.int w_th, .ref (ad 53), .int w_pt, .ref (ad 54), .ref (ad 55), .ref (ad 56), .ref (ad 57), .ref (ad 58), .ref (ad 59), .ref (ad 60), .ref (ad 61), .int w_cl, .int w_wa, .int w_co_, .int w_fi, .int w_bu, .int w_ho, .ref (ad 62), .ref (ad 63), .ref (ad 64), .int w_lh, .int w_mg, .int w_wd, .int w_fpi, .int w_fal, .ref (ad 65), .ref (ad 66), .ref (ad 67), .ref (ad 68), .long w_po, .long w_de])), ((ad 63), .inl (0, 4, .inl mif)), ((ad 64), .inl (3, 16, .inr (.inl gr9))), ((ad 54), .inl (0, 108, .inl fl)), ((ad 55), .inl (0, 108, .inl he)), ((ad 56), .inl (0, 108, .inl nx)), ((ad 57), .inl (0, 108, .inl mtt)), ((ad 58), .inl (0, 108, .inl fz)), ((ad 59), .inl (2, 108, .inl ic)), ((ad 60), .inl (0, 108, .inl (fun k => nI (qn k)))), ((ad 61), .inl (0, 108, .inl gp)), (its, .inl (1, 108, .inl f_i)), (nb, .inl (0, 5, .inl f_n)), (q124, .inl (0, 6, .inl (upd mdf 4 (pE4 w_mg)))), (q129, .inl (3, 4, .inr (.inl mg9)))] kc ks := by
  subst hy
  refine y_iadd d_Mm_pour_405 (v := (pE5 sh + pE7 (icQ f_i fl w_lh (decide (tk < wt)) 108)) + (pEs f_i f_n)) rfl ?_
  refine y_istore (lv' := [(11, .int ((pE5 sh + pE7 (icQ f_i fl w_lh (decide (tk < wt)) 108)) + (pEs f_i f_n))), (10, .int (pE10 mg9 tk w_mg)), (8, .int (pE8 f_n)), (6, .ref q129), (5, .ref q124), (4, .int tk), (3, .int wt), (2, .ref nb), (1, .ref its), (0, .ref (ad 52))]) d_Mm_pour_406 (by decide) rfl ?_
  refine y_iload d_Mm_pour_408 0 rfl ?_
  refine y_iload d_Mm_pour_410 2 rfl ?_
  refine y_if_eq (tgt := 420) d_Mm_pour_412 (by decide) (fun c_412 => ?_) (fun c_412 => ?_)
  · refine y_iconst d_Mm_pour_420 (v := 0) (by decide) ?_
    refine y_lv (lv' := [(11, .int ((pE5 sh + pE7 (icQ f_i fl w_lh (decide (tk < wt)) 108)) + (pEs f_i f_n))), (10, .int (pE10 mg9 tk w_mg)), (8, .int (pE8 f_n)), (6, .ref q129), (5, .ref q124), (4, .int tk), (3, .int wt), (2, .ref nb), (1, .ref its), (0, .ref (ad 52))]) [0, 1, 2, 3, 4, 5, 6, 7, 8, 9] rfl ?_
    exact Jx9_pour g w_th w_pt w_cl w_wa w_co_ w_fi w_bu w_ho w_lh w_mg w_wd w_fpi w_fal w_po w_de fl he nx mtt fz ic gp f_i f_n mif mdf qn gr9 mg9 its nb q124 q129 p_n tk wt hT hch_i hg_i h0_n hp_n hv_i sh hsh _ (Eq.symm (if_pos c_412)) K
  · refine y_bipush d_Mm_pour_415 (v := 8) (by decide) ?_
    refine y_goto (tgt := 421) d_Mm_pour_417 (by decide) ?_
    refine y_lv (lv' := [(11, .int ((pE5 sh + pE7 (icQ f_i fl w_lh (decide (tk < wt)) 108)) + (pEs f_i f_n))), (10, .int (pE10 mg9 tk w_mg)), (8, .int (pE8 f_n)), (6, .ref q129), (5, .ref q124), (4, .int tk), (3, .int wt), (2, .ref nb), (1, .ref its), (0, .ref (ad 52))]) [0, 1, 2, 3, 4, 5, 6, 7, 8, 9] rfl ?_
    exact Jx9_pour g w_th w_pt w_cl w_wa w_co_ w_fi w_bu w_ho w_lh w_mg w_wd w_fpi w_fal w_po w_de fl he nx mtt fz ic gp f_i f_n mif mdf qn gr9 mg9 its nb q124 q129 p_n tk wt hT hch_i hg_i h0_n hp_n hv_i sh hsh _ (Eq.symm (if_neg c_412)) K
theorem d_Mm_pour_389 : decode prog_14_method_77_code 389 = .ok (.iadd, 1) := zo_96 (zd_b zq_prog_14_method_77_code_12 5 rfl rfl rfl)
theorem d_Mm_pour_390 : decode prog_14_method_77_code 390 = .ok (.aload_n 1, 1) := zo_43 (zd_b zq_prog_14_method_77_code_12 6 rfl rfl rfl)
theorem d_Mm_pour_391 : decode prog_14_method_77_code 391 = .ok (.invokestatic 147, 3) := zo_184 (d := 0) (e := 147) (zd_b zq_prog_14_method_77_code_12 7 rfl rfl rfl) (zd_b zq_prog_14_method_77_code_12 8 rfl rfl rfl) (zd_b zq_prog_14_method_77_code_12 9 rfl rfl rfl)
theorem ok_Mm_pour_Mm_speedIn : z_ok M_Mm_pour M_Mm_speedIn 1 := ⟨z_mj8 (i := 29) rfl (by decide +kernel), rfl, ⟨by decide +kernel, by decide +kernel, by decide +kernel⟩, ⟨by decide, by decide⟩, z_mj1 (i := 14) rfl (by decide +kernel), rfl⟩
theorem d_Mm_pour_394 : decode prog_14_method_77_code 394 = .ok (.aload_n 2, 1) := zo_44 (zd_b zq_prog_14_method_77_code_12 10 rfl rfl rfl)
theorem d_Mm_pour_395 : decode prog_14_method_77_code 395 = .ok (.iconst 1, 1) := zo_4 (zd_b zq_prog_14_method_77_code_12 11 rfl rfl rfl)
theorem d_Mm_pour_396 : decode prog_14_method_77_code 396 = .ok (.iaload, 1) := zo_46 (zd_b zq_prog_14_method_77_code_12 12 rfl rfl rfl)
theorem d_Mm_pour_397 : decode prog_14_method_77_code 397 = .ok (.if_icmp .le 7, 3) := zo_164 (d := 0) (e := 7) (zd_b zq_prog_14_method_77_code_12 13 rfl rfl rfl) (zd_b zq_prog_14_method_77_code_12 14 rfl rfl rfl) (zd_b zq_prog_14_method_77_code_12 15 rfl rfl rfl) (by decide +kernel)
theorem d_Mm_pour_404 : decode prog_14_method_77_code 404 = .ok (.iconst 0, 1) := zo_3 (zd_b zq_prog_14_method_77_code_12 20 rfl rfl rfl)
theorem d_Mm_pour_400 : decode prog_14_method_77_code 400 = .ok (.iconst 4, 1) := zo_7 (zd_b zq_prog_14_method_77_code_12 16 rfl rfl rfl)
theorem d_Mm_pour_401 : decode prog_14_method_77_code 401 = .ok (.goto 4, 3) := zo_167 (d := 0) (e := 4) (zd_b zq_prog_14_method_77_code_12 17 rfl rfl rfl) (zd_b zq_prog_14_method_77_code_12 18 rfl rfl rfl) (zd_b zq_prog_14_method_77_code_12 19 rfl rfl rfl) (by decide +kernel)
set_option maxHeartbeats 4000000 in
set_option maxRecDepth 100000 in
theorem Jx7_pour (g : zG) {Ψ : zO → zW → Prop} {w0 : zW} {n kc ks : Nat} {ad : Nat → Nat} (w_th w_pt w_cl w_wa w_co_ w_fi w_bu w_ho w_lh w_mg w_wd w_fpi w_fal : Int32) (w_po w_de : Int64) (fl he nx mtt fz ic gp f_i f_n mif mdf : Nat → Int32) (qn : Nat → Nat) (gr9 mg9 : Nat → Int64) (its nb q124 q129 p_n : Nat) (tk wt : Int32) (hT : ¬ tk = 0) (hch_i : z_ch f_i) (hg_i : ¬ fa_cnt (fun k => decide (f_i k = 103)) 12 = 0) (h0_n : f_n 0 = nI p_n) (hp_n : 1 ≤ p_n ∧ p_n < 9) (hv_i : vlA f_i fl) (sh : Int32) (hsh : mdf 3 = sh) (y : Int32) (hy : y = pE7 (icQ f_i fl w_lh (decide (tk < wt)) 108)) (K : ∀ (gp : Nat → Int32) (qn : Nat → Nat), DU g M_Mm_pour Ψ w0 n 461 [(11, .int (pfF f_i f_n p_n mg9 tk w_mg sh (icQ f_i fl w_lh (decide (tk < wt)) 108))), (6, .ref q129), (5, .ref q124), (0, .ref (ad 52))] [] [((ad 52), .inr (12, [.int w_th, .ref (ad 53), .int w_pt, .ref (ad 54), .ref (ad 55), .ref (ad 56), .ref (ad 57), .ref (ad 58), .ref (ad 59), .ref (ad 60), .ref (ad 61), .int w_cl, .int w_wa, .int w_co_, .int w_fi, .int w_bu, .int w_ho, .ref (ad 62), .ref (ad 63), .ref (ad 64), .int w_lh, .int w_mg, .int w_wd, .int w_fpi, .int w_fal, .ref (ad 65), .ref (ad 66), .ref (ad 67), .ref (ad 68), .long w_po, .long w_de])), ((ad 63), .inl (0, 4, .inl mif)), ((ad 64), .inl (3, 16, .inr (.inl gr9))), ((ad 54), .inl (0, 108, .inl fl)), ((ad 55), .inl (0, 108, .inl he)), ((ad 56), .inl (0, 108, .inl nx)), ((ad 57), .inl (0, 108, .inl mtt)), ((ad 58), .inl (0, 108, .inl fz)), ((ad 59), .inl (2, 108, .inl ic)), ((ad 60), .inl (0, 108, .inl (fun k => nI (qn k)))), ((ad 61), .inl (0, 108, .inl gp)), (its, .inl (1, 108, .inl f_i)), (nb, .inl (0, 5, .inl f_n)), (q124, .inl (0, 6, .inl (upd mdf 4 (pE4 w_mg)))), (q129, .inl (3, 4, .inr (.inl mg9)))] kc ks) : DU g M_Mm_pour Ψ w0 n 389 [(10, .int (pE10 mg9 tk w_mg)), (8, .int (pE8 f_n)), (6, .ref q129), (5, .ref q124), (4, .int tk), (3, .int wt), (2, .ref nb), (1, .ref its), (0, .ref (ad 52))] [.int y, .int (pE5 sh)] [((ad 52), .inr (12, [.int w_th, .ref (ad 53), .int w_pt, .ref (ad 54), .ref (ad 55), .ref (ad 56), .ref (ad 57), .ref (ad 58), .ref (ad 59), .ref (ad 60), .ref (ad 61), .int w_cl, .int w_wa, .int w_co_, .int w_fi, .int w_bu, .int w_ho, .ref (ad 62), .ref (ad 63), .ref (ad 64), .int w_lh, .int w_mg, .int w_wd, .int w_fpi, .int w_fal, .ref (ad 65), .ref (ad 66), .ref (ad 67), .ref (ad 68), .long w_po, .long w_de])), ((ad 63), .inl (0, 4, .inl mif)), ((ad 64), .inl (3, 16, .inr (.inl gr9))), ((ad 54), .inl (0, 108, .inl fl)), ((ad 55), .inl (0, 108, .inl he)), ((ad 56), .inl (0, 108, .inl nx)), ((ad 57), .inl (0, 108, .inl mtt)), ((ad 58), .inl (0, 108, .inl fz)), ((ad 59), .inl (2, 108, .inl ic)), ((ad 60), .inl (0, 108, .inl (fun k => nI (qn k)))), ((ad 61), .inl (0, 108, .inl gp)), (its, .inl (1, 108, .inl f_i)), (nb, .inl (0, 5, .inl f_n)), (q124, .inl (0, 6, .inl (upd mdf 4 (pE4 w_mg)))), (q129, .inl (3, 4, .inr (.inl mg9)))] kc ks := by
  subst hy
  refine y_iadd d_Mm_pour_389 (v := (pE5 sh) + (pE7 (icQ f_i fl w_lh (decide (tk < wt)) 108))) rfl ?_
  refine y_aload_n d_Mm_pour_390 rfl 7 rfl ?_
  refine y_callS (As := [.ref its]) (rest := [.int ((pE5 sh) + (pE7 (icQ f_i fl w_lh (decide (tk < wt)) 108)))]) (csC := [(its, .inl (1, 108, .inl f_i))]) (is := [11]) ln_Mm_147 w_st_Mm_speedIn ok_Mm_pour_Mm_speedIn d_Mm_pour_391 (C_Mm_speedIn g its f_i hg_i) rfl rfl (Nat.le_of_ble_eq_true rfl) rfl (by decide) (by omega) (by omega) (fun E cs1 hx => ?_) (fun v cs1 hx => ?_)
  · exact absurd hx.1 (by simp)
  · obtain ⟨e1, rfl⟩ := hx
    cases e1
    refine ⟨rfl, ?_⟩
    refine y_st (st2 := [.int (rsR f_i), .int ((pE5 sh) + (pE7 (icQ f_i fl w_lh (decide (tk < wt)) 108)))]) rfl ?_
    refine y_cs (cs2 := [((ad 52), .inr (12, [.int w_th, .ref (ad 53), .int w_pt, .ref (ad 54), .ref (ad 55), .ref (ad 56), .ref (ad 57), .ref (ad 58), .ref (ad 59), .ref (ad 60), .ref (ad 61), .int w_cl, .int w_wa, .int w_co_, .int w_fi, .int w_bu, .int w_ho, .ref (ad 62), .ref (ad 63), .ref (ad 64), .int w_lh, .int w_mg, .int w_wd, .int w_fpi, .int w_fal, .ref (ad 65), .ref (ad 66), .ref (ad 67), .ref (ad 68), .long w_po, .long w_de])), ((ad 63), .inl (0, 4, .inl mif)), ((ad 64), .inl (3, 16, .inr (.inl gr9))), ((ad 54), .inl (0, 108, .inl fl)), ((ad 55), .inl (0, 108, .inl he)), ((ad 56), .inl (0, 108, .inl nx)), ((ad 57), .inl (0, 108, .inl mtt)), ((ad 58), .inl (0, 108, .inl fz)), ((ad 59), .inl (2, 108, .inl ic)), ((ad 60), .inl (0, 108, .inl (fun k => nI (qn k)))), ((ad 61), .inl (0, 108, .inl gp)), (its, .inl (1, 108, .inl f_i)), (nb, .inl (0, 5, .inl f_n)), (q124, .inl (0, 6, .inl (upd mdf 4 (pE4 w_mg)))), (q129, .inl (3, 4, .inr (.inl mg9)))]) rfl ?_
    refine y_aload_n d_Mm_pour_394 rfl 6 rfl ?_
    refine y_iconst d_Mm_pour_395 (v := 1) (by decide) ?_
    refine y_iald d_Mm_pour_396 (q0 := 12) rfl (fun q => q.elim (by decide) (by decide)) (v := f_n 1) rfl ?_
    refine y_icmp_le (tgt := 404) d_Mm_pour_397 (by decide) (fun c_397 => ?_) (fun c_397 => ?_)
    · refine y_iconst d_Mm_pour_404 (v := 0) (by decide) ?_
      refine y_lv (lv' := [(10, .int (pE10 mg9 tk w_mg)), (8, .int (pE8 f_n)), (6, .ref q129), (5, .ref q124), (4, .int tk), (3, .int wt), (2, .ref nb), (1, .ref its), (0, .ref (ad 52))]) [0, 1, 2, 3, 4, 5, 6, 7, 8] rfl ?_
      exact Jx8_pour g w_th w_pt w_cl w_wa w_co_ w_fi w_bu w_ho w_lh w_mg w_wd w_fpi w_fal w_po w_de fl he nx mtt fz ic gp f_i f_n mif mdf qn gr9 mg9 its nb q124 q129 p_n tk wt hT hch_i hg_i h0_n hp_n hv_i sh hsh _ (Eq.symm (if_pos c_397)) K
    · refine y_iconst d_Mm_pour_400 (v := 4) (by decide) ?_
      refine y_goto (tgt := 405) d_Mm_pour_401 (by decide) ?_
      refine y_lv (lv' := [(10, .int (pE10 mg9 tk w_mg)), (8, .int (pE8 f_n)), (6, .ref q129), (5, .ref q124), (4, .int tk), (3, .int wt), (2, .ref nb), (1, .ref its), (0, .ref (ad 52))]) [0, 1, 2, 3, 4, 5, 6, 7, 8] rfl ?_
      exact Jx8_pour g w_th w_pt w_cl w_wa w_co_ w_fi w_bu w_ho w_lh w_mg w_wd w_fpi w_fal w_po w_de fl he nx mtt fz ic gp f_i f_n mif mdf qn gr9 mg9 its nb q124 q129 p_n tk wt hT hch_i hg_i h0_n hp_n hv_i sh hsh _ (Eq.symm (if_neg c_397)) K
theorem d_Mm_pour_378 : decode prog_14_method_77_code 378 = .ok (.invokevirtual 297, 3) := zo_182 (d := 1) (e := 41) (zd_b zq_prog_14_method_77_code_11 26 rfl rfl rfl) (zd_b zq_prog_14_method_77_code_11 27 rfl rfl rfl) (zd_b zq_prog_14_method_77_code_11 28 rfl rfl rfl)
theorem ok_Mm_pour_Mm_isCold : z_ok M_Mm_pour M_Mm_isCold 2 := ⟨z_mj9 (i := 5) rfl (by decide +kernel), rfl, ⟨by decide +kernel, by decide +kernel, by decide +kernel⟩, ⟨by decide, by decide⟩, z_mj1 (i := 14) rfl (by decide +kernel), rfl⟩
theorem ln_Mm_297 : Cond.methodLink "IronpourModel" 297 M_Mm_isCold.1 ∈ z_gw := z_mj9 (i := 2) rfl (by decide +kernel)
theorem w_im_Mm_isCold : Cond.instanceMethod M_Mm_isCold.1 ∈ z_gw := z_mj9 (i := 4) rfl (by decide +kernel)
theorem w_se_Mm_isCold : Cond.selects M_Mm_isCold.1.cls M_Mm_isCold.1 M_Mm_isCold.1 ∈ z_gw := z_mem (i := 52) (by decide +kernel) (by decide +kernel)
theorem d_Mm_pour_381 : decode prog_14_method_77_code 381 = .ok (.ifCond .eq 7, 3) := zo_153 (d := 0) (e := 7) (zd_b zq_prog_14_method_77_code_11 29 rfl rfl rfl) (zd_b zq_prog_14_method_77_code_11 30 rfl rfl rfl) (zd_b zq_prog_14_method_77_code_11 31 rfl rfl rfl) (by decide +kernel)
theorem d_Mm_pour_388 : decode prog_14_method_77_code 388 = .ok (.iconst 0, 1) := zo_3 (zd_b zq_prog_14_method_77_code_12 4 rfl rfl rfl)
theorem d_Mm_pour_384 : decode prog_14_method_77_code 384 = .ok (.iconst 2, 1) := zo_5 (zd_b zq_prog_14_method_77_code_12 0 rfl rfl rfl)
theorem d_Mm_pour_385 : decode prog_14_method_77_code 385 = .ok (.goto 4, 3) := zo_167 (d := 0) (e := 4) (zd_b zq_prog_14_method_77_code_12 1 rfl rfl rfl) (zd_b zq_prog_14_method_77_code_12 2 rfl rfl rfl) (zd_b zq_prog_14_method_77_code_12 3 rfl rfl rfl) (by decide +kernel)
set_option maxHeartbeats 4000000 in
set_option maxRecDepth 100000 in
theorem Jx6_pour (g : zG) {Ψ : zO → zW → Prop} {w0 : zW} {n kc ks : Nat} {ad : Nat → Nat} (w_th w_pt w_cl w_wa w_co_ w_fi w_bu w_ho w_lh w_mg w_wd w_fpi w_fal : Int32) (w_po w_de : Int64) (fl he nx mtt fz ic gp f_i f_n mif mdf : Nat → Int32) (qn : Nat → Nat) (gr9 mg9 : Nat → Int64) (its nb q124 q129 p_n : Nat) (tk wt : Int32) (hT : ¬ tk = 0) (hch_i : z_ch f_i) (hg_i : ¬ fa_cnt (fun k => decide (f_i k = 103)) 12 = 0) (h0_n : f_n 0 = nI p_n) (hp_n : 1 ≤ p_n ∧ p_n < 9) (hv_i : vlA f_i fl) (sh : Int32) (hsh : mdf 3 = sh) (s : Int32) (hs : s = z_bi (decide (tk < wt))) (K : ∀ (gp : Nat → Int32) (qn : Nat → Nat), DU g M_Mm_pour Ψ w0 n 461 [(11, .int (pfF f_i f_n p_n mg9 tk w_mg sh (icQ f_i fl w_lh (decide (tk < wt)) 108))), (6, .ref q129), (5, .ref q124), (0, .ref (ad 52))] [] [((ad 52), .inr (12, [.int w_th, .ref (ad 53), .int w_pt, .ref (ad 54), .ref (ad 55), .ref (ad 56), .ref (ad 57), .ref (ad 58), .ref (ad 59), .ref (ad 60), .ref (ad 61), .int w_cl, .int w_wa, .int w_co_, .int w_fi, .int w_bu, .int w_ho, .ref (ad 62), .ref (ad 63), .ref (ad 64), .int w_lh, .int w_mg, .int w_wd, .int w_fpi, .int w_fal, .ref (ad 65), .ref (ad 66), .ref (ad 67), .ref (ad 68), .long w_po, .long w_de])), ((ad 63), .inl (0, 4, .inl mif)), ((ad 64), .inl (3, 16, .inr (.inl gr9))), ((ad 54), .inl (0, 108, .inl fl)), ((ad 55), .inl (0, 108, .inl he)), ((ad 56), .inl (0, 108, .inl nx)), ((ad 57), .inl (0, 108, .inl mtt)), ((ad 58), .inl (0, 108, .inl fz)), ((ad 59), .inl (2, 108, .inl ic)), ((ad 60), .inl (0, 108, .inl (fun k => nI (qn k)))), ((ad 61), .inl (0, 108, .inl gp)), (its, .inl (1, 108, .inl f_i)), (nb, .inl (0, 5, .inl f_n)), (q124, .inl (0, 6, .inl (upd mdf 4 (pE4 w_mg)))), (q129, .inl (3, 4, .inr (.inl mg9)))] kc ks) : DU g M_Mm_pour Ψ w0 n 378 [(10, .int (pE10 mg9 tk w_mg)), (8, .int (pE8 f_n)), (6, .ref q129), (5, .ref q124), (4, .int tk), (3, .int wt), (2, .ref nb), (1, .ref its), (0, .ref (ad 52))] [.int s, .ref its, .ref (ad 52), .int (pE5 sh)] [((ad 52), .inr (12, [.int w_th, .ref (ad 53), .int w_pt, .ref (ad 54), .ref (ad 55), .ref (ad 56), .ref (ad 57), .ref (ad 58), .ref (ad 59), .ref (ad 60), .ref (ad 61), .int w_cl, .int w_wa, .int w_co_, .int w_fi, .int w_bu, .int w_ho, .ref (ad 62), .ref (ad 63), .ref (ad 64), .int w_lh, .int w_mg, .int w_wd, .int w_fpi, .int w_fal, .ref (ad 65), .ref (ad 66), .ref (ad 67), .ref (ad 68), .long w_po, .long w_de])), ((ad 63), .inl (0, 4, .inl mif)), ((ad 64), .inl (3, 16, .inr (.inl gr9))), ((ad 54), .inl (0, 108, .inl fl)), ((ad 55), .inl (0, 108, .inl he)), ((ad 56), .inl (0, 108, .inl nx)), ((ad 57), .inl (0, 108, .inl mtt)), ((ad 58), .inl (0, 108, .inl fz)), ((ad 59), .inl (2, 108, .inl ic)), ((ad 60), .inl (0, 108, .inl (fun k => nI (qn k)))), ((ad 61), .inl (0, 108, .inl gp)), (its, .inl (1, 108, .inl f_i)), (nb, .inl (0, 5, .inl f_n)), (q124, .inl (0, 6, .inl (upd mdf 4 (pE4 w_mg)))), (q129, .inl (3, 4, .inr (.inl mg9)))] kc ks := by
  subst hs
  refine y_callV (As := [.ref its, .int (z_bi (decide (tk < wt)))]) (rest := [.int (pE5 sh)]) (csC := [((ad 52), .inr (12, [.int w_th, .ref (ad 53), .int w_pt, .ref (ad 54), .ref (ad 55), .ref (ad 56), .ref (ad 57), .ref (ad 58), .ref (ad 59), .ref (ad 60), .ref (ad 61), .int w_cl, .int w_wa, .int w_co_, .int w_fi, .int w_bu, .int w_ho, .ref (ad 62), .ref (ad 63), .ref (ad 64), .int w_lh, .int w_mg, .int w_wd, .int w_fpi, .int w_fal, .ref (ad 65), .ref (ad 66), .ref (ad 67), .ref (ad 68), .long w_po, .long w_de])), (its, .inl (1, 108, .inl f_i)), ((ad 54), .inl (0, 108, .inl fl))]) (is := [0, 11, 3]) (q0 := 0) rfl rfl ln_Mm_297 w_im_Mm_isCold w_se_Mm_isCold ok_Mm_pour_Mm_isCold d_Mm_pour_378 (C_Mm_isCold9 g (ad 52) (ad 53) (ad 54) (ad 55) (ad 56) (ad 57) (ad 58) (ad 59) (ad 60) (ad 61) (ad 62) (ad 63) (ad 64) (ad 65) (ad 66) (ad 67) (ad 68) w_th w_pt w_cl w_wa w_co_ w_fi w_bu w_ho w_lh w_mg w_wd w_fpi w_fal w_po w_de its f_i fl (decide (tk < wt)) hv_i) rfl rfl (Nat.le_of_ble_eq_true rfl) rfl (by decide) (by omega) (by omega) (fun E cs1 hx => ?_) (fun v cs1 hx => ?_)
  · exact absurd hx.1 (by simp)
  · obtain ⟨e1, rfl⟩ := hx
    cases e1
    refine ⟨rfl, ?_⟩
    refine y_st (st2 := [.int (z_bi (icQ f_i fl w_lh (decide (tk < wt)) 108)), .int (pE5 sh)]) rfl ?_
    refine y_cs (cs2 := [((ad 52), .inr (12, [.int w_th, .ref (ad 53), .int w_pt, .ref (ad 54), .ref (ad 55), .ref (ad 56), .ref (ad 57), .ref (ad 58), .ref (ad 59), .ref (ad 60), .ref (ad 61), .int w_cl, .int w_wa, .int w_co_, .int w_fi, .int w_bu, .int w_ho, .ref (ad 62), .ref (ad 63), .ref (ad 64), .int w_lh, .int w_mg, .int w_wd, .int w_fpi, .int w_fal, .ref (ad 65), .ref (ad 66), .ref (ad 67), .ref (ad 68), .long w_po, .long w_de])), ((ad 63), .inl (0, 4, .inl mif)), ((ad 64), .inl (3, 16, .inr (.inl gr9))), ((ad 54), .inl (0, 108, .inl fl)), ((ad 55), .inl (0, 108, .inl he)), ((ad 56), .inl (0, 108, .inl nx)), ((ad 57), .inl (0, 108, .inl mtt)), ((ad 58), .inl (0, 108, .inl fz)), ((ad 59), .inl (2, 108, .inl ic)), ((ad 60), .inl (0, 108, .inl (fun k => nI (qn k)))), ((ad 61), .inl (0, 108, .inl gp)), (its, .inl (1, 108, .inl f_i)), (nb, .inl (0, 5, .inl f_n)), (q124, .inl (0, 6, .inl (upd mdf 4 (pE4 w_mg)))), (q129, .inl (3, 4, .inr (.inl mg9)))]) rfl ?_
    refine y_if_eq (tgt := 388) d_Mm_pour_381 (by decide) (fun c_381 => ?_) (fun c_381 => ?_)
    · refine y_iconst d_Mm_pour_388 (v := 0) (by decide) ?_
      refine y_lv (lv' := [(10, .int (pE10 mg9 tk w_mg)), (8, .int (pE8 f_n)), (6, .ref q129), (5, .ref q124), (4, .int tk), (3, .int wt), (2, .ref nb), (1, .ref its), (0, .ref (ad 52))]) [0, 1, 2, 3, 4, 5, 6, 7, 8] rfl ?_
      exact Jx7_pour g w_th w_pt w_cl w_wa w_co_ w_fi w_bu w_ho w_lh w_mg w_wd w_fpi w_fal w_po w_de fl he nx mtt fz ic gp f_i f_n mif mdf qn gr9 mg9 its nb q124 q129 p_n tk wt hT hch_i hg_i h0_n hp_n hv_i sh hsh _ (Eq.symm (if_neg (show ¬ (icQ f_i fl w_lh (decide (tk < wt)) 108) = true from by rw [z_bi0 c_381]; decide))) K
    · refine y_iconst d_Mm_pour_384 (v := 2) (by decide) ?_
      refine y_goto (tgt := 389) d_Mm_pour_385 (by decide) ?_
      refine y_lv (lv' := [(10, .int (pE10 mg9 tk w_mg)), (8, .int (pE8 f_n)), (6, .ref q129), (5, .ref q124), (4, .int tk), (3, .int wt), (2, .ref nb), (1, .ref its), (0, .ref (ad 52))]) [0, 1, 2, 3, 4, 5, 6, 7, 8] rfl ?_
      exact Jx7_pour g w_th w_pt w_cl w_wa w_co_ w_fi w_bu w_ho w_lh w_mg w_wd w_fpi w_fal w_po w_de fl he nx mtt fz ic gp f_i f_n mif mdf qn gr9 mg9 its nb q124 q129 p_n tk wt hT hch_i hg_i h0_n hp_n hv_i sh hsh _ (Eq.symm (if_pos (z_bi1 c_381))) K
theorem d_Mm_pour_365 : decode prog_14_method_77_code 365 = .ok (.aload_n 0, 1) := zo_42 (zd_b zq_prog_14_method_77_code_11 13 rfl rfl rfl)
theorem d_Mm_pour_366 : decode prog_14_method_77_code 366 = .ok (.aload_n 1, 1) := zo_43 (zd_b zq_prog_14_method_77_code_11 14 rfl rfl rfl)
theorem d_Mm_pour_367 : decode prog_14_method_77_code 367 = .ok (.iload 4, 2) := zo_21 (d := 4) (zd_b zq_prog_14_method_77_code_11 15 rfl rfl rfl) (zd_b zq_prog_14_method_77_code_11 16 rfl rfl rfl)
theorem d_Mm_pour_369 : decode prog_14_method_77_code 369 = .ok (.iload_n 3, 1) := zo_29 (zd_b zq_prog_14_method_77_code_11 17 rfl rfl rfl)
theorem d_Mm_pour_370 : decode prog_14_method_77_code 370 = .ok (.if_icmp .ge 7, 3) := zo_162 (d := 0) (e := 7) (zd_b zq_prog_14_method_77_code_11 18 rfl rfl rfl) (zd_b zq_prog_14_method_77_code_11 19 rfl rfl rfl) (zd_b zq_prog_14_method_77_code_11 20 rfl rfl rfl) (by decide +kernel)
theorem d_Mm_pour_377 : decode prog_14_method_77_code 377 = .ok (.iconst 0, 1) := zo_3 (zd_b zq_prog_14_method_77_code_11 25 rfl rfl rfl)
theorem d_Mm_pour_373 : decode prog_14_method_77_code 373 = .ok (.iconst 1, 1) := zo_4 (zd_b zq_prog_14_method_77_code_11 21 rfl rfl rfl)
theorem d_Mm_pour_374 : decode prog_14_method_77_code 374 = .ok (.goto 4, 3) := zo_167 (d := 0) (e := 4) (zd_b zq_prog_14_method_77_code_11 22 rfl rfl rfl) (zd_b zq_prog_14_method_77_code_11 23 rfl rfl rfl) (zd_b zq_prog_14_method_77_code_11 24 rfl rfl rfl) (by decide +kernel)
set_option maxHeartbeats 4000000 in
set_option maxRecDepth 100000 in
theorem Jx5_pour (g : zG) {Ψ : zO → zW → Prop} {w0 : zW} {n kc ks : Nat} {ad : Nat → Nat} (w_th w_pt w_cl w_wa w_co_ w_fi w_bu w_ho w_lh w_mg w_wd w_fpi w_fal : Int32) (w_po w_de : Int64) (fl he nx mtt fz ic gp f_i f_n mif mdf : Nat → Int32) (qn : Nat → Nat) (gr9 mg9 : Nat → Int64) (its nb q124 q129 p_n : Nat) (tk wt : Int32) (hT : ¬ tk = 0) (hch_i : z_ch f_i) (hg_i : ¬ fa_cnt (fun k => decide (f_i k = 103)) 12 = 0) (h0_n : f_n 0 = nI p_n) (hp_n : 1 ≤ p_n ∧ p_n < 9) (hv_i : vlA f_i fl) (sh : Int32) (hsh : mdf 3 = sh) (x : Int32) (hx : x = pE5 sh) (K : ∀ (gp : Nat → Int32) (qn : Nat → Nat), DU g M_Mm_pour Ψ w0 n 461 [(11, .int (pfF f_i f_n p_n mg9 tk w_mg sh (icQ f_i fl w_lh (decide (tk < wt)) 108))), (6, .ref q129), (5, .ref q124), (0, .ref (ad 52))] [] [((ad 52), .inr (12, [.int w_th, .ref (ad 53), .int w_pt, .ref (ad 54), .ref (ad 55), .ref (ad 56), .ref (ad 57), .ref (ad 58), .ref (ad 59), .ref (ad 60), .ref (ad 61), .int w_cl, .int w_wa, .int w_co_, .int w_fi, .int w_bu, .int w_ho, .ref (ad 62), .ref (ad 63), .ref (ad 64), .int w_lh, .int w_mg, .int w_wd, .int w_fpi, .int w_fal, .ref (ad 65), .ref (ad 66), .ref (ad 67), .ref (ad 68), .long w_po, .long w_de])), ((ad 63), .inl (0, 4, .inl mif)), ((ad 64), .inl (3, 16, .inr (.inl gr9))), ((ad 54), .inl (0, 108, .inl fl)), ((ad 55), .inl (0, 108, .inl he)), ((ad 56), .inl (0, 108, .inl nx)), ((ad 57), .inl (0, 108, .inl mtt)), ((ad 58), .inl (0, 108, .inl fz)), ((ad 59), .inl (2, 108, .inl ic)), ((ad 60), .inl (0, 108, .inl (fun k => nI (qn k)))), ((ad 61), .inl (0, 108, .inl gp)), (its, .inl (1, 108, .inl f_i)), (nb, .inl (0, 5, .inl f_n)), (q124, .inl (0, 6, .inl (upd mdf 4 (pE4 w_mg)))), (q129, .inl (3, 4, .inr (.inl mg9)))] kc ks) : DU g M_Mm_pour Ψ w0 n 365 [(10, .int (pE10 mg9 tk w_mg)), (8, .int (pE8 f_n)), (6, .ref q129), (5, .ref q124), (4, .int tk), (3, .int wt), (2, .ref nb), (1, .ref its), (0, .ref (ad 52))] [.int x] [((ad 52), .inr (12, [.int w_th, .ref (ad 53), .int w_pt, .ref (ad 54), .ref (ad 55), .ref (ad 56), .ref (ad 57), .ref (ad 58), .ref (ad 59), .ref (ad 60), .ref (ad 61), .int w_cl, .int w_wa, .int w_co_, .int w_fi, .int w_bu, .int w_ho, .ref (ad 62), .ref (ad 63), .ref (ad 64), .int w_lh, .int w_mg, .int w_wd, .int w_fpi, .int w_fal, .ref (ad 65), .ref (ad 66), .ref (ad 67), .ref (ad 68), .long w_po, .long w_de])), ((ad 63), .inl (0, 4, .inl mif)), ((ad 64), .inl (3, 16, .inr (.inl gr9))), ((ad 54), .inl (0, 108, .inl fl)), ((ad 55), .inl (0, 108, .inl he)), ((ad 56), .inl (0, 108, .inl nx)), ((ad 57), .inl (0, 108, .inl mtt)), ((ad 58), .inl (0, 108, .inl fz)), ((ad 59), .inl (2, 108, .inl ic)), ((ad 60), .inl (0, 108, .inl (fun k => nI (qn k)))), ((ad 61), .inl (0, 108, .inl gp)), (its, .inl (1, 108, .inl f_i)), (nb, .inl (0, 5, .inl f_n)), (q124, .inl (0, 6, .inl (upd mdf 4 (pE4 w_mg)))), (q129, .inl (3, 4, .inr (.inl mg9)))] kc ks := by
  subst hx
  refine y_aload_n d_Mm_pour_365 rfl 8 rfl ?_
  refine y_aload_n d_Mm_pour_366 rfl 7 rfl ?_
  refine y_iload d_Mm_pour_367 4 rfl ?_
  refine y_iload_n d_Mm_pour_369 rfl 5 rfl ?_
  refine y_icmp_ge (tgt := 377) d_Mm_pour_370 (by decide) (fun c_370 => ?_) (fun c_370 => ?_)
  · refine y_iconst d_Mm_pour_377 (v := 0) (by decide) ?_
    refine y_lv (lv' := [(10, .int (pE10 mg9 tk w_mg)), (8, .int (pE8 f_n)), (6, .ref q129), (5, .ref q124), (4, .int tk), (3, .int wt), (2, .ref nb), (1, .ref its), (0, .ref (ad 52))]) [0, 1, 2, 3, 4, 5, 6, 7, 8] rfl ?_
    exact Jx6_pour g w_th w_pt w_cl w_wa w_co_ w_fi w_bu w_ho w_lh w_mg w_wd w_fpi w_fal w_po w_de fl he nx mtt fz ic gp f_i f_n mif mdf qn gr9 mg9 its nb q124 q129 p_n tk wt hT hch_i hg_i h0_n hp_n hv_i sh hsh _ ((by rw [decide_eq_false (Int32.not_lt.mpr c_370)]; rfl)) K
  · refine y_iconst d_Mm_pour_373 (v := 1) (by decide) ?_
    refine y_goto (tgt := 378) d_Mm_pour_374 (by decide) ?_
    refine y_lv (lv' := [(10, .int (pE10 mg9 tk w_mg)), (8, .int (pE8 f_n)), (6, .ref q129), (5, .ref q124), (4, .int tk), (3, .int wt), (2, .ref nb), (1, .ref its), (0, .ref (ad 52))]) [0, 1, 2, 3, 4, 5, 6, 7, 8] rfl ?_
    exact Jx6_pour g w_th w_pt w_cl w_wa w_co_ w_fi w_bu w_ho w_lh w_mg w_wd w_fpi w_fal w_po w_de fl he nx mtt fz ic gp f_i f_n mif mdf qn gr9 mg9 its nb q124 q129 p_n tk wt hT hch_i hg_i h0_n hp_n hv_i sh hsh _ ((by rw [decide_eq_true (Int32.not_le.mp c_370)]; rfl)) K
theorem d_Mm_pour_351 : decode prog_14_method_77_code 351 = .ok (.istore 10, 2) := zo_54 (d := 10) (zd_b zq_prog_14_method_77_code_10 31 rfl rfl rfl) (zd_b zq_prog_14_method_77_code_11 0 rfl rfl rfl)
theorem d_Mm_pour_353 : decode prog_14_method_77_code 353 = .ok (.aload 5, 2) := zo_25 (d := 5) (zd_b zq_prog_14_method_77_code_11 1 rfl rfl rfl) (zd_b zq_prog_14_method_77_code_11 2 rfl rfl rfl)
theorem d_Mm_pour_355 : decode prog_14_method_77_code 355 = .ok (.iconst 3, 1) := zo_6 (zd_b zq_prog_14_method_77_code_11 3 rfl rfl rfl)
theorem d_Mm_pour_356 : decode prog_14_method_77_code 356 = .ok (.iaload, 1) := zo_46 (zd_b zq_prog_14_method_77_code_11 4 rfl rfl rfl)
theorem d_Mm_pour_357 : decode prog_14_method_77_code 357 = .ok (.ifCond .le 7, 3) := zo_158 (d := 0) (e := 7) (zd_b zq_prog_14_method_77_code_11 5 rfl rfl rfl) (zd_b zq_prog_14_method_77_code_11 6 rfl rfl rfl) (zd_b zq_prog_14_method_77_code_11 7 rfl rfl rfl) (by decide +kernel)
theorem d_Mm_pour_364 : decode prog_14_method_77_code 364 = .ok (.iconst 0, 1) := zo_3 (zd_b zq_prog_14_method_77_code_11 12 rfl rfl rfl)
theorem d_Mm_pour_360 : decode prog_14_method_77_code 360 = .ok (.iconst 1, 1) := zo_4 (zd_b zq_prog_14_method_77_code_11 8 rfl rfl rfl)
theorem d_Mm_pour_361 : decode prog_14_method_77_code 361 = .ok (.goto 4, 3) := zo_167 (d := 0) (e := 4) (zd_b zq_prog_14_method_77_code_11 9 rfl rfl rfl) (zd_b zq_prog_14_method_77_code_11 10 rfl rfl rfl) (zd_b zq_prog_14_method_77_code_11 11 rfl rfl rfl) (by decide +kernel)
set_option maxHeartbeats 4000000 in
set_option maxRecDepth 100000 in
theorem Jx4_pour (g : zG) {Ψ : zO → zW → Prop} {w0 : zW} {n kc ks : Nat} {ad : Nat → Nat} (w_th w_pt w_cl w_wa w_co_ w_fi w_bu w_ho w_lh w_mg w_wd w_fpi w_fal : Int32) (w_po w_de : Int64) (fl he nx mtt fz ic gp f_i f_n mif mdf : Nat → Int32) (qn : Nat → Nat) (gr9 mg9 : Nat → Int64) (its nb q124 q129 p_n : Nat) (tk wt : Int32) (hT : ¬ tk = 0) (hch_i : z_ch f_i) (hg_i : ¬ fa_cnt (fun k => decide (f_i k = 103)) 12 = 0) (h0_n : f_n 0 = nI p_n) (hp_n : 1 ≤ p_n ∧ p_n < 9) (hv_i : vlA f_i fl) (sh : Int32) (hsh : mdf 3 = sh) (x10 : Int32) (hx10 : x10 = (pE10 mg9 tk w_mg)) (K : ∀ (gp : Nat → Int32) (qn : Nat → Nat), DU g M_Mm_pour Ψ w0 n 461 [(11, .int (pfF f_i f_n p_n mg9 tk w_mg sh (icQ f_i fl w_lh (decide (tk < wt)) 108))), (6, .ref q129), (5, .ref q124), (0, .ref (ad 52))] [] [((ad 52), .inr (12, [.int w_th, .ref (ad 53), .int w_pt, .ref (ad 54), .ref (ad 55), .ref (ad 56), .ref (ad 57), .ref (ad 58), .ref (ad 59), .ref (ad 60), .ref (ad 61), .int w_cl, .int w_wa, .int w_co_, .int w_fi, .int w_bu, .int w_ho, .ref (ad 62), .ref (ad 63), .ref (ad 64), .int w_lh, .int w_mg, .int w_wd, .int w_fpi, .int w_fal, .ref (ad 65), .ref (ad 66), .ref (ad 67), .ref (ad 68), .long w_po, .long w_de])), ((ad 63), .inl (0, 4, .inl mif)), ((ad 64), .inl (3, 16, .inr (.inl gr9))), ((ad 54), .inl (0, 108, .inl fl)), ((ad 55), .inl (0, 108, .inl he)), ((ad 56), .inl (0, 108, .inl nx)), ((ad 57), .inl (0, 108, .inl mtt)), ((ad 58), .inl (0, 108, .inl fz)), ((ad 59), .inl (2, 108, .inl ic)), ((ad 60), .inl (0, 108, .inl (fun k => nI (qn k)))), ((ad 61), .inl (0, 108, .inl gp)), (its, .inl (1, 108, .inl f_i)), (nb, .inl (0, 5, .inl f_n)), (q124, .inl (0, 6, .inl (upd mdf 4 (pE4 w_mg)))), (q129, .inl (3, 4, .inr (.inl mg9)))] kc ks) : DU g M_Mm_pour Ψ w0 n 351 [(8, .int (pE8 f_n)), (6, .ref q129), (5, .ref q124), (4, .int tk), (3, .int wt), (2, .ref nb), (1, .ref its), (0, .ref (ad 52))] [.int x10] [((ad 52), .inr (12, [.int w_th, .ref (ad 53), .int w_pt, .ref (ad 54), .ref (ad 55), .ref (ad 56), .ref (ad 57), .ref (ad 58), .ref (ad 59), .ref (ad 60), .ref (ad 61), .int w_cl, .int w_wa, .int w_co_, .int w_fi, .int w_bu, .int w_ho, .ref (ad 62), .ref (ad 63), .ref (ad 64), .int w_lh, .int w_mg, .int w_wd, .int w_fpi, .int w_fal, .ref (ad 65), .ref (ad 66), .ref (ad 67), .ref (ad 68), .long w_po, .long w_de])), ((ad 63), .inl (0, 4, .inl mif)), ((ad 64), .inl (3, 16, .inr (.inl gr9))), ((ad 54), .inl (0, 108, .inl fl)), ((ad 55), .inl (0, 108, .inl he)), ((ad 56), .inl (0, 108, .inl nx)), ((ad 57), .inl (0, 108, .inl mtt)), ((ad 58), .inl (0, 108, .inl fz)), ((ad 59), .inl (2, 108, .inl ic)), ((ad 60), .inl (0, 108, .inl (fun k => nI (qn k)))), ((ad 61), .inl (0, 108, .inl gp)), (its, .inl (1, 108, .inl f_i)), (nb, .inl (0, 5, .inl f_n)), (q124, .inl (0, 6, .inl (upd mdf 4 (pE4 w_mg)))), (q129, .inl (3, 4, .inr (.inl mg9)))] kc ks := by
  subst hx10
  refine y_istore (lv' := [(10, .int (pE10 mg9 tk w_mg)), (8, .int (pE8 f_n)), (6, .ref q129), (5, .ref q124), (4, .int tk), (3, .int wt), (2, .ref nb), (1, .ref its), (0, .ref (ad 52))]) d_Mm_pour_351 (by decide) rfl ?_
  refine y_aload d_Mm_pour_353 3 rfl ?_
  refine y_iconst d_Mm_pour_355 (v := 3) (by decide) ?_
  refine y_iald d_Mm_pour_356 (q0 := 13) rfl (fun q => q.elim (by decide) (by decide)) (v := sh) (show upd mdf 4 (pE4 w_mg) 3 = sh from (upd_ne (by decide)).trans hsh) ?_
  refine y_if_le (tgt := 364) d_Mm_pour_357 (by decide) (fun c_357 => ?_) (fun c_357 => ?_)
  · refine y_iconst d_Mm_pour_364 (v := 0) (by decide) ?_
    refine y_lv (lv' := [(10, .int (pE10 mg9 tk w_mg)), (8, .int (pE8 f_n)), (6, .ref q129), (5, .ref q124), (4, .int tk), (3, .int wt), (2, .ref nb), (1, .ref its), (0, .ref (ad 52))]) [0, 1, 2, 3, 4, 5, 6, 7, 8] rfl ?_
    exact Jx5_pour g w_th w_pt w_cl w_wa w_co_ w_fi w_bu w_ho w_lh w_mg w_wd w_fpi w_fal w_po w_de fl he nx mtt fz ic gp f_i f_n mif mdf qn gr9 mg9 its nb q124 q129 p_n tk wt hT hch_i hg_i h0_n hp_n hv_i sh hsh _ (Eq.symm (if_pos (show sh ≤ 0 from c_357))) K
  · refine y_iconst d_Mm_pour_360 (v := 1) (by decide) ?_
    refine y_goto (tgt := 365) d_Mm_pour_361 (by decide) ?_
    refine y_lv (lv' := [(10, .int (pE10 mg9 tk w_mg)), (8, .int (pE8 f_n)), (6, .ref q129), (5, .ref q124), (4, .int tk), (3, .int wt), (2, .ref nb), (1, .ref its), (0, .ref (ad 52))]) [0, 1, 2, 3, 4, 5, 6, 7, 8] rfl ?_
    exact Jx5_pour g w_th w_pt w_cl w_wa w_co_ w_fi w_bu w_ho w_lh w_mg w_wd w_fpi w_fal w_po w_de fl he nx mtt fz ic gp f_i f_n mif mdf qn gr9 mg9 its nb q124 q129 p_n tk wt hT hch_i hg_i h0_n hp_n hv_i sh hsh _ (Eq.symm (if_neg (show ¬ sh ≤ 0 from c_357))) K
theorem d_Mm_pour_292 : decode prog_14_method_77_code 292 = .ok (.istore 8, 2) := zo_54 (d := 8) (zd_b zq_prog_14_method_77_code_9 4 rfl rfl rfl) (zd_b zq_prog_14_method_77_code_9 5 rfl rfl rfl)
theorem d_Mm_pour_294 : decode prog_14_method_77_code 294 = .ok (.aload 6, 2) := zo_25 (d := 6) (zd_b zq_prog_14_method_77_code_9 6 rfl rfl rfl) (zd_b zq_prog_14_method_77_code_9 7 rfl rfl rfl)
theorem d_Mm_pour_296 : decode prog_14_method_77_code 296 = .ok (.iconst 0, 1) := zo_3 (zd_b zq_prog_14_method_77_code_9 8 rfl rfl rfl)
theorem d_Mm_pour_297 : decode prog_14_method_77_code 297 = .ok (.laload, 1) := zo_47 (zd_b zq_prog_14_method_77_code_9 9 rfl rfl rfl)
theorem d_Mm_pour_298 : decode prog_14_method_77_code 298 = .ok (.ldc2_w 244, 3) := zo_20 (d := 0) (e := 244) (zd_b zq_prog_14_method_77_code_9 10 rfl rfl rfl) (zd_b zq_prog_14_method_77_code_9 11 rfl rfl rfl) (zd_b zq_prog_14_method_77_code_9 12 rfl rfl rfl)
theorem d_Mm_pour_301 : decode prog_14_method_77_code 301 = .ok (.lmul, 1) := zo_105 (zd_b zq_prog_14_method_77_code_9 13 rfl rfl rfl)
theorem d_Mm_pour_302 : decode prog_14_method_77_code 302 = .ok (.iload 4, 2) := zo_21 (d := 4) (zd_b zq_prog_14_method_77_code_9 14 rfl rfl rfl) (zd_b zq_prog_14_method_77_code_9 15 rfl rfl rfl)
theorem d_Mm_pour_304 : decode prog_14_method_77_code 304 = .ok (.i2l, 1) := zo_133 (zd_b zq_prog_14_method_77_code_9 16 rfl rfl rfl)
theorem d_Mm_pour_305 : decode prog_14_method_77_code 305 = .ok (.ldiv, 1) := zo_109 (zd_b zq_prog_14_method_77_code_9 17 rfl rfl rfl)
theorem d_Mm_pour_306 : decode prog_14_method_77_code 306 = .ok (.l2i, 1) := zo_136 (zd_b zq_prog_14_method_77_code_9 18 rfl rfl rfl)
theorem d_Mm_pour_307 : decode prog_14_method_77_code 307 = .ok (.aload 6, 2) := zo_25 (d := 6) (zd_b zq_prog_14_method_77_code_9 19 rfl rfl rfl) (zd_b zq_prog_14_method_77_code_9 20 rfl rfl rfl)
theorem d_Mm_pour_309 : decode prog_14_method_77_code 309 = .ok (.iconst 1, 1) := zo_4 (zd_b zq_prog_14_method_77_code_9 21 rfl rfl rfl)
theorem d_Mm_pour_310 : decode prog_14_method_77_code 310 = .ok (.laload, 1) := zo_47 (zd_b zq_prog_14_method_77_code_9 22 rfl rfl rfl)
theorem d_Mm_pour_311 : decode prog_14_method_77_code 311 = .ok (.ldc2_w 244, 3) := zo_20 (d := 0) (e := 244) (zd_b zq_prog_14_method_77_code_9 23 rfl rfl rfl) (zd_b zq_prog_14_method_77_code_9 24 rfl rfl rfl) (zd_b zq_prog_14_method_77_code_9 25 rfl rfl rfl)
theorem d_Mm_pour_314 : decode prog_14_method_77_code 314 = .ok (.lmul, 1) := zo_105 (zd_b zq_prog_14_method_77_code_9 26 rfl rfl rfl)
theorem d_Mm_pour_315 : decode prog_14_method_77_code 315 = .ok (.iload 4, 2) := zo_21 (d := 4) (zd_b zq_prog_14_method_77_code_9 27 rfl rfl rfl) (zd_b zq_prog_14_method_77_code_9 28 rfl rfl rfl)
theorem d_Mm_pour_317 : decode prog_14_method_77_code 317 = .ok (.i2l, 1) := zo_133 (zd_b zq_prog_14_method_77_code_9 29 rfl rfl rfl)
theorem d_Mm_pour_318 : decode prog_14_method_77_code 318 = .ok (.ldiv, 1) := zo_109 (zd_b zq_prog_14_method_77_code_9 30 rfl rfl rfl)
theorem d_Mm_pour_319 : decode prog_14_method_77_code 319 = .ok (.l2i, 1) := zo_136 (zd_b zq_prog_14_method_77_code_9 31 rfl rfl rfl)
theorem d_Mm_pour_320 : decode prog_14_method_77_code 320 = .ok (.iconst 3, 1) := zo_6 (zd_b zq_prog_14_method_77_code_10 0 rfl rfl rfl)
theorem d_Mm_pour_321 : decode prog_14_method_77_code 321 = .ok (.idiv, 1) := zo_108 (zd_b zq_prog_14_method_77_code_10 1 rfl rfl rfl)
theorem d_Mm_pour_322 : decode prog_14_method_77_code 322 = .ok (.iadd, 1) := zo_96 (zd_b zq_prog_14_method_77_code_10 2 rfl rfl rfl)
theorem d_Mm_pour_323 : decode prog_14_method_77_code 323 = .ok (.istore 9, 2) := zo_54 (d := 9) (zd_b zq_prog_14_method_77_code_10 3 rfl rfl rfl) (zd_b zq_prog_14_method_77_code_10 4 rfl rfl rfl)
theorem d_Mm_pour_325 : decode prog_14_method_77_code 325 = .ok (.iload 9, 2) := zo_21 (d := 9) (zd_b zq_prog_14_method_77_code_10 5 rfl rfl rfl) (zd_b zq_prog_14_method_77_code_10 6 rfl rfl rfl)
theorem d_Mm_pour_327 : decode prog_14_method_77_code 327 = .ok (.sipush 370, 3) := zo_17 (d := 1) (e := 114) (zd_b zq_prog_14_method_77_code_10 7 rfl rfl rfl) (zd_b zq_prog_14_method_77_code_10 8 rfl rfl rfl) (zd_b zq_prog_14_method_77_code_10 9 rfl rfl rfl) (by decide +kernel)
theorem d_Mm_pour_330 : decode prog_14_method_77_code 330 = .ok (.if_icmp .lt 16, 3) := zo_161 (d := 0) (e := 16) (zd_b zq_prog_14_method_77_code_10 10 rfl rfl rfl) (zd_b zq_prog_14_method_77_code_10 11 rfl rfl rfl) (zd_b zq_prog_14_method_77_code_10 12 rfl rfl rfl) (by decide +kernel)
theorem d_Mm_pour_346 : decode prog_14_method_77_code 346 = .ok (.iconst 1, 1) := zo_4 (zd_b zq_prog_14_method_77_code_10 26 rfl rfl rfl)
theorem d_Mm_pour_347 : decode prog_14_method_77_code 347 = .ok (.goto 4, 3) := zo_167 (d := 0) (e := 4) (zd_b zq_prog_14_method_77_code_10 27 rfl rfl rfl) (zd_b zq_prog_14_method_77_code_10 28 rfl rfl rfl) (zd_b zq_prog_14_method_77_code_10 29 rfl rfl rfl) (by decide +kernel)
theorem d_Mm_pour_333 : decode prog_14_method_77_code 333 = .ok (.aload_n 0, 1) := zo_42 (zd_b zq_prog_14_method_77_code_10 13 rfl rfl rfl)
theorem d_Mm_pour_334 : decode prog_14_method_77_code 334 = .ok (.getfield 260, 3) := zo_180 (d := 1) (e := 4) (zd_b zq_prog_14_method_77_code_10 14 rfl rfl rfl) (zd_b zq_prog_14_method_77_code_10 15 rfl rfl rfl) (zd_b zq_prog_14_method_77_code_10 16 rfl rfl rfl)
theorem d_Mm_pour_337 : decode prog_14_method_77_code 337 = .ok (.iconst 1, 1) := zo_4 (zd_b zq_prog_14_method_77_code_10 17 rfl rfl rfl)
theorem d_Mm_pour_338 : decode prog_14_method_77_code 338 = .ok (.bipush 19, 2) := zo_16 (d := 19) (zd_b zq_prog_14_method_77_code_10 18 rfl rfl rfl) (zd_b zq_prog_14_method_77_code_10 19 rfl rfl rfl) (by decide +kernel)
theorem d_Mm_pour_340 : decode prog_14_method_77_code 340 = .ok (.invokestatic 87, 3) := zo_184 (d := 0) (e := 87) (zd_b zq_prog_14_method_77_code_10 20 rfl rfl rfl) (zd_b zq_prog_14_method_77_code_10 21 rfl rfl rfl) (zd_b zq_prog_14_method_77_code_10 22 rfl rfl rfl)
theorem ok_Mm_pour_Mm_in : z_ok M_Mm_pour M_Mm_in 3 := ⟨z_mj7 (i := 190) rfl (by decide +kernel), rfl, ⟨by decide +kernel, by decide +kernel, by decide +kernel⟩, ⟨by decide, by decide⟩, z_mj1 (i := 14) rfl (by decide +kernel), rfl⟩
theorem d_Mm_pour_343 : decode prog_14_method_77_code 343 = .ok (.ifCond .eq 7, 3) := zo_153 (d := 0) (e := 7) (zd_b zq_prog_14_method_77_code_10 23 rfl rfl rfl) (zd_b zq_prog_14_method_77_code_10 24 rfl rfl rfl) (zd_b zq_prog_14_method_77_code_10 25 rfl rfl rfl) (by decide +kernel)
theorem d_Mm_pour_350 : decode prog_14_method_77_code 350 = .ok (.iconst 0, 1) := zo_3 (zd_b zq_prog_14_method_77_code_10 30 rfl rfl rfl)
set_option maxHeartbeats 4000000 in
set_option maxRecDepth 100000 in
theorem Jx3_pour (g : zG) {Ψ : zO → zW → Prop} {w0 : zW} {n kc ks : Nat} {ad : Nat → Nat} (w_th w_pt w_cl w_wa w_co_ w_fi w_bu w_ho w_lh w_mg w_wd w_fpi w_fal : Int32) (w_po w_de : Int64) (fl he nx mtt fz ic gp f_i f_n mif mdf : Nat → Int32) (qn : Nat → Nat) (gr9 mg9 : Nat → Int64) (its nb q124 q129 p_n : Nat) (tk wt : Int32) (hT : ¬ tk = 0) (hch_i : z_ch f_i) (hg_i : ¬ fa_cnt (fun k => decide (f_i k = 103)) 12 = 0) (h0_n : f_n 0 = nI p_n) (hp_n : 1 ≤ p_n ∧ p_n < 9) (hv_i : vlA f_i fl) (sh : Int32) (hsh : mdf 3 = sh) (x8 : Int32) (hx8 : x8 = (pE8 f_n)) (K : ∀ (gp : Nat → Int32) (qn : Nat → Nat), DU g M_Mm_pour Ψ w0 n 461 [(11, .int (pfF f_i f_n p_n mg9 tk w_mg sh (icQ f_i fl w_lh (decide (tk < wt)) 108))), (6, .ref q129), (5, .ref q124), (0, .ref (ad 52))] [] [((ad 52), .inr (12, [.int w_th, .ref (ad 53), .int w_pt, .ref (ad 54), .ref (ad 55), .ref (ad 56), .ref (ad 57), .ref (ad 58), .ref (ad 59), .ref (ad 60), .ref (ad 61), .int w_cl, .int w_wa, .int w_co_, .int w_fi, .int w_bu, .int w_ho, .ref (ad 62), .ref (ad 63), .ref (ad 64), .int w_lh, .int w_mg, .int w_wd, .int w_fpi, .int w_fal, .ref (ad 65), .ref (ad 66), .ref (ad 67), .ref (ad 68), .long w_po, .long w_de])), ((ad 63), .inl (0, 4, .inl mif)), ((ad 64), .inl (3, 16, .inr (.inl gr9))), ((ad 54), .inl (0, 108, .inl fl)), ((ad 55), .inl (0, 108, .inl he)), ((ad 56), .inl (0, 108, .inl nx)), ((ad 57), .inl (0, 108, .inl mtt)), ((ad 58), .inl (0, 108, .inl fz)), ((ad 59), .inl (2, 108, .inl ic)), ((ad 60), .inl (0, 108, .inl (fun k => nI (qn k)))), ((ad 61), .inl (0, 108, .inl gp)), (its, .inl (1, 108, .inl f_i)), (nb, .inl (0, 5, .inl f_n)), (q124, .inl (0, 6, .inl (upd mdf 4 (pE4 w_mg)))), (q129, .inl (3, 4, .inr (.inl mg9)))] kc ks) : DU g M_Mm_pour Ψ w0 n 292 [(6, .ref q129), (5, .ref q124), (4, .int tk), (3, .int wt), (2, .ref nb), (1, .ref its), (0, .ref (ad 52))] [.int x8] [((ad 52), .inr (12, [.int w_th, .ref (ad 53), .int w_pt, .ref (ad 54), .ref (ad 55), .ref (ad 56), .ref (ad 57), .ref (ad 58), .ref (ad 59), .ref (ad 60), .ref (ad 61), .int w_cl, .int w_wa, .int w_co_, .int w_fi, .int w_bu, .int w_ho, .ref (ad 62), .ref (ad 63), .ref (ad 64), .int w_lh, .int w_mg, .int w_wd, .int w_fpi, .int w_fal, .ref (ad 65), .ref (ad 66), .ref (ad 67), .ref (ad 68), .long w_po, .long w_de])), ((ad 63), .inl (0, 4, .inl mif)), ((ad 64), .inl (3, 16, .inr (.inl gr9))), ((ad 54), .inl (0, 108, .inl fl)), ((ad 55), .inl (0, 108, .inl he)), ((ad 56), .inl (0, 108, .inl nx)), ((ad 57), .inl (0, 108, .inl mtt)), ((ad 58), .inl (0, 108, .inl fz)), ((ad 59), .inl (2, 108, .inl ic)), ((ad 60), .inl (0, 108, .inl (fun k => nI (qn k)))), ((ad 61), .inl (0, 108, .inl gp)), (its, .inl (1, 108, .inl f_i)), (nb, .inl (0, 5, .inl f_n)), (q124, .inl (0, 6, .inl (upd mdf 4 (pE4 w_mg)))), (q129, .inl (3, 4, .inr (.inl mg9)))] kc ks := by
  subst hx8
  refine y_istore (lv' := [(8, .int (pE8 f_n)), (6, .ref q129), (5, .ref q124), (4, .int tk), (3, .int wt), (2, .ref nb), (1, .ref its), (0, .ref (ad 52))]) d_Mm_pour_292 (by decide) rfl ?_
  refine y_aload d_Mm_pour_294 1 rfl ?_
  refine y_iconst d_Mm_pour_296 (v := 0) (by decide) ?_
  refine y_lald d_Mm_pour_297 (q0 := 14) rfl (fun q => q.elim (by decide) (by decide)) (v := mg9 0) rfl ?_
  refine y_ldc2 ct_Mm_244 d_Mm_pour_298 ?_
  refine y_lmul d_Mm_pour_301 (v := (mg9 0) * 10) rfl ?_
  refine y_iload d_Mm_pour_302 3 rfl ?_
  refine y_i2l d_Mm_pour_304 (v := tk.toInt64) rfl ?_
  refine y_ldiv d_Mm_pour_305 (v := ((mg9 0) * 10) / tk.toInt64) (z_l0 hT) rfl ?_
  refine y_l2i d_Mm_pour_306 (v := (((mg9 0) * 10) / tk.toInt64).toInt32) rfl ?_
  refine y_aload d_Mm_pour_307 1 rfl ?_
  refine y_iconst d_Mm_pour_309 (v := 1) (by decide) ?_
  refine y_lald d_Mm_pour_310 (q0 := 14) rfl (fun q => q.elim (by decide) (by decide)) (v := mg9 1) rfl ?_
  refine y_ldc2 ct_Mm_244 d_Mm_pour_311 ?_
  refine y_lmul d_Mm_pour_314 (v := (mg9 1) * 10) rfl ?_
  refine y_iload d_Mm_pour_315 3 rfl ?_
  refine y_i2l d_Mm_pour_317 (v := tk.toInt64) rfl ?_
  refine y_ldiv d_Mm_pour_318 (v := ((mg9 1) * 10) / tk.toInt64) (z_l0 hT) rfl ?_
  refine y_l2i d_Mm_pour_319 (v := (((mg9 1) * 10) / tk.toInt64).toInt32) rfl ?_
  refine y_iconst d_Mm_pour_320 (v := 3) (by decide) ?_
  refine y_idiv d_Mm_pour_321 (v := ((((mg9 1) * 10) / tk.toInt64).toInt32) / 3) (by decide) rfl ?_
  refine y_iadd d_Mm_pour_322 (v := pE9 mg9 tk) rfl ?_
  refine y_istore (lv' := [(9, .int (pE9 mg9 tk)), (8, .int (pE8 f_n)), (6, .ref q129), (5, .ref q124), (4, .int tk), (3, .int wt), (2, .ref nb), (1, .ref its), (0, .ref (ad 52))]) d_Mm_pour_323 (by decide) rfl ?_
  refine y_iload d_Mm_pour_325 0 rfl ?_
  refine y_sipush d_Mm_pour_327 (v := 370) (by decide) ?_
  refine y_icmp_lt (tgt := 346) d_Mm_pour_330 (by decide) (fun c_330 => ?_) (fun c_330 => ?_)
  · refine y_iconst d_Mm_pour_346 (v := 1) (by decide) ?_
    refine y_goto (tgt := 351) d_Mm_pour_347 (by decide) ?_
    refine y_lv (lv' := [(8, .int (pE8 f_n)), (6, .ref q129), (5, .ref q124), (4, .int tk), (3, .int wt), (2, .ref nb), (1, .ref its), (0, .ref (ad 52))]) [1, 2, 3, 4, 5, 6, 7, 8] rfl ?_
    exact Jx4_pour g w_th w_pt w_cl w_wa w_co_ w_fi w_bu w_ho w_lh w_mg w_wd w_fpi w_fal w_po w_de fl he nx mtt fz ic gp f_i f_n mif mdf qn gr9 mg9 its nb q124 q129 p_n tk wt hT hch_i hg_i h0_n hp_n hv_i sh hsh _ (by first | exact Eq.symm (if_pos (Or.inl c_330)) | exact Eq.symm (if_pos (Or.inr (z_b0n c_343)))) K
  · refine y_aload_n d_Mm_pour_333 rfl 8 rfl ?_
    refine y_get fs_Mm_260 d_Mm_pour_334 (q0 := 0) rfl rfl ?_
    refine y_iconst d_Mm_pour_337 (v := 1) (by decide) ?_
    refine y_bipush d_Mm_pour_338 (v := 19) (by decide) ?_
    refine y_callS (As := [.int w_mg, .int 1, .int 19]) (rest := []) (csC := []) (is := []) ln_Mm_87 w_st_Mm_in ok_Mm_pour_Mm_in d_Mm_pour_340 (C_Mm_in g w_mg 1 19) rfl rfl (Nat.le_of_ble_eq_true rfl) rfl (by decide) (by omega) (by omega) (fun E cs1 hx => ?_) (fun v cs1 hx => ?_)
    · exact absurd hx.1 (by simp)
    · obtain ⟨e1, rfl⟩ := hx
      cases e1
      refine ⟨rfl, ?_⟩
      refine y_st (st2 := [.int (if 1 ≤ w_mg ∧ w_mg ≤ 19 then 1 else 0)]) rfl ?_
      refine y_cs (cs2 := [((ad 52), .inr (12, [.int w_th, .ref (ad 53), .int w_pt, .ref (ad 54), .ref (ad 55), .ref (ad 56), .ref (ad 57), .ref (ad 58), .ref (ad 59), .ref (ad 60), .ref (ad 61), .int w_cl, .int w_wa, .int w_co_, .int w_fi, .int w_bu, .int w_ho, .ref (ad 62), .ref (ad 63), .ref (ad 64), .int w_lh, .int w_mg, .int w_wd, .int w_fpi, .int w_fal, .ref (ad 65), .ref (ad 66), .ref (ad 67), .ref (ad 68), .long w_po, .long w_de])), ((ad 63), .inl (0, 4, .inl mif)), ((ad 64), .inl (3, 16, .inr (.inl gr9))), ((ad 54), .inl (0, 108, .inl fl)), ((ad 55), .inl (0, 108, .inl he)), ((ad 56), .inl (0, 108, .inl nx)), ((ad 57), .inl (0, 108, .inl mtt)), ((ad 58), .inl (0, 108, .inl fz)), ((ad 59), .inl (2, 108, .inl ic)), ((ad 60), .inl (0, 108, .inl (fun k => nI (qn k)))), ((ad 61), .inl (0, 108, .inl gp)), (its, .inl (1, 108, .inl f_i)), (nb, .inl (0, 5, .inl f_n)), (q124, .inl (0, 6, .inl (upd mdf 4 (pE4 w_mg)))), (q129, .inl (3, 4, .inr (.inl mg9)))]) rfl ?_
      refine y_if_eq (tgt := 350) d_Mm_pour_343 (by decide) (fun c_343 => ?_) (fun c_343 => ?_)
      · refine y_iconst d_Mm_pour_350 (v := 0) (by decide) ?_
        refine y_lv (lv' := [(8, .int (pE8 f_n)), (6, .ref q129), (5, .ref q124), (4, .int tk), (3, .int wt), (2, .ref nb), (1, .ref its), (0, .ref (ad 52))]) [1, 2, 3, 4, 5, 6, 7, 8] rfl ?_
        exact Jx4_pour g w_th w_pt w_cl w_wa w_co_ w_fi w_bu w_ho w_lh w_mg w_wd w_fpi w_fal w_po w_de fl he nx mtt fz ic gp f_i f_n mif mdf qn gr9 mg9 its nb q124 q129 p_n tk wt hT hch_i hg_i h0_n hp_n hv_i sh hsh _ (Eq.symm (if_neg (fun q => q.elim c_330 (fun e => absurd c_343 (by rw [if_pos e]; decide))))) K
      · refine y_iconst d_Mm_pour_346 (v := 1) (by decide) ?_
        refine y_goto (tgt := 351) d_Mm_pour_347 (by decide) ?_
        refine y_lv (lv' := [(8, .int (pE8 f_n)), (6, .ref q129), (5, .ref q124), (4, .int tk), (3, .int wt), (2, .ref nb), (1, .ref its), (0, .ref (ad 52))]) [1, 2, 3, 4, 5, 6, 7, 8] rfl ?_
        exact Jx4_pour g w_th w_pt w_cl w_wa w_co_ w_fi w_bu w_ho w_lh w_mg w_wd w_fpi w_fal w_po w_de fl he nx mtt fz ic gp f_i f_n mif mdf qn gr9 mg9 its nb q124 q129 p_n tk wt hT hch_i hg_i h0_n hp_n hv_i sh hsh _ (by first | exact Eq.symm (if_pos (Or.inl c_330)) | exact Eq.symm (if_pos (Or.inr (z_b0n c_343)))) K
theorem d_Mm_pour_262 : decode prog_14_method_77_code 262 = .ok (.iastore, 1) := zo_79 (zd_b zq_prog_14_method_77_code_8 6 rfl rfl rfl)
theorem d_Mm_pour_263 : decode prog_14_method_77_code 263 = .ok (.aload_n 2, 1) := zo_44 (zd_b zq_prog_14_method_77_code_8 7 rfl rfl rfl)
theorem d_Mm_pour_264 : decode prog_14_method_77_code 264 = .ok (.iconst 2, 1) := zo_5 (zd_b zq_prog_14_method_77_code_8 8 rfl rfl rfl)
theorem d_Mm_pour_265 : decode prog_14_method_77_code 265 = .ok (.iaload, 1) := zo_46 (zd_b zq_prog_14_method_77_code_8 9 rfl rfl rfl)
theorem d_Mm_pour_266 : decode prog_14_method_77_code 266 = .ok (.bipush 80, 2) := zo_16 (d := 80) (zd_b zq_prog_14_method_77_code_8 10 rfl rfl rfl) (zd_b zq_prog_14_method_77_code_8 11 rfl rfl rfl) (by decide +kernel)
theorem d_Mm_pour_268 : decode prog_14_method_77_code 268 = .ok (.if_icmp .ge 11, 3) := zo_162 (d := 0) (e := 11) (zd_b zq_prog_14_method_77_code_8 12 rfl rfl rfl) (zd_b zq_prog_14_method_77_code_8 13 rfl rfl rfl) (zd_b zq_prog_14_method_77_code_8 14 rfl rfl rfl) (by decide +kernel)
theorem d_Mm_pour_279 : decode prog_14_method_77_code 279 = .ok (.aload_n 2, 1) := zo_44 (zd_b zq_prog_14_method_77_code_8 23 rfl rfl rfl)
theorem d_Mm_pour_280 : decode prog_14_method_77_code 280 = .ok (.iconst 4, 1) := zo_7 (zd_b zq_prog_14_method_77_code_8 24 rfl rfl rfl)
theorem d_Mm_pour_281 : decode prog_14_method_77_code 281 = .ok (.iaload, 1) := zo_46 (zd_b zq_prog_14_method_77_code_8 25 rfl rfl rfl)
theorem d_Mm_pour_282 : decode prog_14_method_77_code 282 = .ok (.bipush 60, 2) := zo_16 (d := 60) (zd_b zq_prog_14_method_77_code_8 26 rfl rfl rfl) (zd_b zq_prog_14_method_77_code_8 27 rfl rfl rfl) (by decide +kernel)
theorem d_Mm_pour_284 : decode prog_14_method_77_code 284 = .ok (.if_icmp .le 7, 3) := zo_164 (d := 0) (e := 7) (zd_b zq_prog_14_method_77_code_8 28 rfl rfl rfl) (zd_b zq_prog_14_method_77_code_8 29 rfl rfl rfl) (zd_b zq_prog_14_method_77_code_8 30 rfl rfl rfl) (by decide +kernel)
theorem d_Mm_pour_291 : decode prog_14_method_77_code 291 = .ok (.iconst 0, 1) := zo_3 (zd_b zq_prog_14_method_77_code_9 3 rfl rfl rfl)
theorem d_Mm_pour_287 : decode prog_14_method_77_code 287 = .ok (.iconst 1, 1) := zo_4 (zd_b zq_prog_14_method_77_code_8 31 rfl rfl rfl)
theorem d_Mm_pour_288 : decode prog_14_method_77_code 288 = .ok (.goto 4, 3) := zo_167 (d := 0) (e := 4) (zd_b zq_prog_14_method_77_code_9 0 rfl rfl rfl) (zd_b zq_prog_14_method_77_code_9 1 rfl rfl rfl) (zd_b zq_prog_14_method_77_code_9 2 rfl rfl rfl) (by decide +kernel)
theorem d_Mm_pour_271 : decode prog_14_method_77_code 271 = .ok (.aload_n 2, 1) := zo_44 (zd_b zq_prog_14_method_77_code_8 15 rfl rfl rfl)
theorem d_Mm_pour_272 : decode prog_14_method_77_code 272 = .ok (.iconst 3, 1) := zo_6 (zd_b zq_prog_14_method_77_code_8 16 rfl rfl rfl)
theorem d_Mm_pour_273 : decode prog_14_method_77_code 273 = .ok (.iaload, 1) := zo_46 (zd_b zq_prog_14_method_77_code_8 17 rfl rfl rfl)
theorem d_Mm_pour_274 : decode prog_14_method_77_code 274 = .ok (.bipush 40, 2) := zo_16 (d := 40) (zd_b zq_prog_14_method_77_code_8 18 rfl rfl rfl) (zd_b zq_prog_14_method_77_code_8 19 rfl rfl rfl) (by decide +kernel)
theorem d_Mm_pour_276 : decode prog_14_method_77_code 276 = .ok (.if_icmp .gt 11, 3) := zo_163 (d := 0) (e := 11) (zd_b zq_prog_14_method_77_code_8 20 rfl rfl rfl) (zd_b zq_prog_14_method_77_code_8 21 rfl rfl rfl) (zd_b zq_prog_14_method_77_code_8 22 rfl rfl rfl) (by decide +kernel)
set_option maxHeartbeats 4000000 in
set_option maxRecDepth 100000 in
theorem Jx2_pour (g : zG) {Ψ : zO → zW → Prop} {w0 : zW} {n kc ks : Nat} {ad : Nat → Nat} (w_th w_pt w_cl w_wa w_co_ w_fi w_bu w_ho w_lh w_mg w_wd w_fpi w_fal : Int32) (w_po w_de : Int64) (fl he nx mtt fz ic gp f_i f_n mif mdf : Nat → Int32) (qn : Nat → Nat) (gr9 mg9 : Nat → Int64) (its nb q124 q129 p_n : Nat) (tk wt : Int32) (hT : ¬ tk = 0) (hch_i : z_ch f_i) (hg_i : ¬ fa_cnt (fun k => decide (f_i k = 103)) 12 = 0) (h0_n : f_n 0 = nI p_n) (hp_n : 1 ≤ p_n ∧ p_n < 9) (hv_i : vlA f_i fl) (sh : Int32) (hsh : mdf 3 = sh) (x4 : Int32) (hx4 : x4 = (pE4 w_mg)) (K : ∀ (gp : Nat → Int32) (qn : Nat → Nat), DU g M_Mm_pour Ψ w0 n 461 [(11, .int (pfF f_i f_n p_n mg9 tk w_mg sh (icQ f_i fl w_lh (decide (tk < wt)) 108))), (6, .ref q129), (5, .ref q124), (0, .ref (ad 52))] [] [((ad 52), .inr (12, [.int w_th, .ref (ad 53), .int w_pt, .ref (ad 54), .ref (ad 55), .ref (ad 56), .ref (ad 57), .ref (ad 58), .ref (ad 59), .ref (ad 60), .ref (ad 61), .int w_cl, .int w_wa, .int w_co_, .int w_fi, .int w_bu, .int w_ho, .ref (ad 62), .ref (ad 63), .ref (ad 64), .int w_lh, .int w_mg, .int w_wd, .int w_fpi, .int w_fal, .ref (ad 65), .ref (ad 66), .ref (ad 67), .ref (ad 68), .long w_po, .long w_de])), ((ad 63), .inl (0, 4, .inl mif)), ((ad 64), .inl (3, 16, .inr (.inl gr9))), ((ad 54), .inl (0, 108, .inl fl)), ((ad 55), .inl (0, 108, .inl he)), ((ad 56), .inl (0, 108, .inl nx)), ((ad 57), .inl (0, 108, .inl mtt)), ((ad 58), .inl (0, 108, .inl fz)), ((ad 59), .inl (2, 108, .inl ic)), ((ad 60), .inl (0, 108, .inl (fun k => nI (qn k)))), ((ad 61), .inl (0, 108, .inl gp)), (its, .inl (1, 108, .inl f_i)), (nb, .inl (0, 5, .inl f_n)), (q124, .inl (0, 6, .inl (upd mdf 4 (pE4 w_mg)))), (q129, .inl (3, 4, .inr (.inl mg9)))] kc ks) : DU g M_Mm_pour Ψ w0 n 262 [(6, .ref q129), (5, .ref q124), (4, .int tk), (3, .int wt), (2, .ref nb), (1, .ref its), (0, .ref (ad 52))] [.int x4, .int 4, .ref q124] [((ad 52), .inr (12, [.int w_th, .ref (ad 53), .int w_pt, .ref (ad 54), .ref (ad 55), .ref (ad 56), .ref (ad 57), .ref (ad 58), .ref (ad 59), .ref (ad 60), .ref (ad 61), .int w_cl, .int w_wa, .int w_co_, .int w_fi, .int w_bu, .int w_ho, .ref (ad 62), .ref (ad 63), .ref (ad 64), .int w_lh, .int w_mg, .int w_wd, .int w_fpi, .int w_fal, .ref (ad 65), .ref (ad 66), .ref (ad 67), .ref (ad 68), .long w_po, .long w_de])), ((ad 63), .inl (0, 4, .inl mif)), ((ad 64), .inl (3, 16, .inr (.inl gr9))), ((ad 54), .inl (0, 108, .inl fl)), ((ad 55), .inl (0, 108, .inl he)), ((ad 56), .inl (0, 108, .inl nx)), ((ad 57), .inl (0, 108, .inl mtt)), ((ad 58), .inl (0, 108, .inl fz)), ((ad 59), .inl (2, 108, .inl ic)), ((ad 60), .inl (0, 108, .inl (fun k => nI (qn k)))), ((ad 61), .inl (0, 108, .inl gp)), (its, .inl (1, 108, .inl f_i)), (nb, .inl (0, 5, .inl f_n)), (q124, .inl (0, 6, .inl mdf)), (q129, .inl (3, 4, .inr (.inl mg9)))] kc ks := by
  subst hx4
  refine y_iast d_Mm_pour_262 (q0 := 13) rfl (fun q => q.elim (by decide) (by decide)) (f' := upd mdf 4 (pE4 w_mg)) rfl (cs' := [((ad 52), .inr (12, [.int w_th, .ref (ad 53), .int w_pt, .ref (ad 54), .ref (ad 55), .ref (ad 56), .ref (ad 57), .ref (ad 58), .ref (ad 59), .ref (ad 60), .ref (ad 61), .int w_cl, .int w_wa, .int w_co_, .int w_fi, .int w_bu, .int w_ho, .ref (ad 62), .ref (ad 63), .ref (ad 64), .int w_lh, .int w_mg, .int w_wd, .int w_fpi, .int w_fal, .ref (ad 65), .ref (ad 66), .ref (ad 67), .ref (ad 68), .long w_po, .long w_de])), ((ad 63), .inl (0, 4, .inl mif)), ((ad 64), .inl (3, 16, .inr (.inl gr9))), ((ad 54), .inl (0, 108, .inl fl)), ((ad 55), .inl (0, 108, .inl he)), ((ad 56), .inl (0, 108, .inl nx)), ((ad 57), .inl (0, 108, .inl mtt)), ((ad 58), .inl (0, 108, .inl fz)), ((ad 59), .inl (2, 108, .inl ic)), ((ad 60), .inl (0, 108, .inl (fun k => nI (qn k)))), ((ad 61), .inl (0, 108, .inl gp)), (its, .inl (1, 108, .inl f_i)), (nb, .inl (0, 5, .inl f_n)), (q124, .inl (0, 6, .inl (upd mdf 4 (pE4 w_mg)))), (q129, .inl (3, 4, .inr (.inl mg9)))]) rfl ?_
  refine y_aload_n d_Mm_pour_263 rfl 4 rfl ?_
  refine y_iconst d_Mm_pour_264 (v := 2) (by decide) ?_
  refine y_iald d_Mm_pour_265 (q0 := 12) rfl (fun q => q.elim (by decide) (by decide)) (v := f_n 2) rfl ?_
  refine y_bipush d_Mm_pour_266 (v := 80) (by decide) ?_
  refine y_icmp_ge (tgt := 279) d_Mm_pour_268 (by decide) (fun c_268 => ?_) (fun c_268 => ?_)
  · refine y_aload_n d_Mm_pour_279 rfl 4 rfl ?_
    refine y_iconst d_Mm_pour_280 (v := 4) (by decide) ?_
    refine y_iald d_Mm_pour_281 (q0 := 12) rfl (fun q => q.elim (by decide) (by decide)) (v := f_n 4) rfl ?_
    refine y_bipush d_Mm_pour_282 (v := 60) (by decide) ?_
    refine y_icmp_le (tgt := 291) d_Mm_pour_284 (by decide) (fun c_284 => ?_) (fun c_284 => ?_)
    · refine y_iconst d_Mm_pour_291 (v := 0) (by decide) ?_
      refine y_lv (lv' := [(6, .ref q129), (5, .ref q124), (4, .int tk), (3, .int wt), (2, .ref nb), (1, .ref its), (0, .ref (ad 52))]) [0, 1, 2, 3, 4, 5, 6] rfl ?_
      exact Jx3_pour g w_th w_pt w_cl w_wa w_co_ w_fi w_bu w_ho w_lh w_mg w_wd w_fpi w_fal w_po w_de fl he nx mtt fz ic gp f_i f_n mif mdf qn gr9 mg9 its nb q124 q129 p_n tk wt hT hch_i hg_i h0_n hp_n hv_i sh hsh _ (Eq.symm (if_neg (by first | exact (fun q => q.elim (fun e => absurd e.1 (Int32.not_lt.mpr c_268)) (fun e => absurd c_284 (Int32.not_le.mpr e))) | exact (fun q => q.elim (fun e => c_276 e.2) (fun e => absurd c_284 (Int32.not_le.mpr e)))))) K
    · refine y_iconst d_Mm_pour_287 (v := 1) (by decide) ?_
      refine y_goto (tgt := 292) d_Mm_pour_288 (by decide) ?_
      refine y_lv (lv' := [(6, .ref q129), (5, .ref q124), (4, .int tk), (3, .int wt), (2, .ref nb), (1, .ref its), (0, .ref (ad 52))]) [0, 1, 2, 3, 4, 5, 6] rfl ?_
      exact Jx3_pour g w_th w_pt w_cl w_wa w_co_ w_fi w_bu w_ho w_lh w_mg w_wd w_fpi w_fal w_po w_de fl he nx mtt fz ic gp f_i f_n mif mdf qn gr9 mg9 its nb q124 q129 p_n tk wt hT hch_i hg_i h0_n hp_n hv_i sh hsh _ (by first | exact Eq.symm (if_pos (Or.inl (And.intro (Int32.not_le.mp c_268) c_276))) | exact Eq.symm (if_pos (Or.inr (Int32.not_le.mp c_284)))) K
  · refine y_aload_n d_Mm_pour_271 rfl 4 rfl ?_
    refine y_iconst d_Mm_pour_272 (v := 3) (by decide) ?_
    refine y_iald d_Mm_pour_273 (q0 := 12) rfl (fun q => q.elim (by decide) (by decide)) (v := f_n 3) rfl ?_
    refine y_bipush d_Mm_pour_274 (v := 40) (by decide) ?_
    refine y_icmp_gt (tgt := 287) d_Mm_pour_276 (by decide) (fun c_276 => ?_) (fun c_276 => ?_)
    · refine y_iconst d_Mm_pour_287 (v := 1) (by decide) ?_
      refine y_goto (tgt := 292) d_Mm_pour_288 (by decide) ?_
      refine y_lv (lv' := [(6, .ref q129), (5, .ref q124), (4, .int tk), (3, .int wt), (2, .ref nb), (1, .ref its), (0, .ref (ad 52))]) [0, 1, 2, 3, 4, 5, 6] rfl ?_
      exact Jx3_pour g w_th w_pt w_cl w_wa w_co_ w_fi w_bu w_ho w_lh w_mg w_wd w_fpi w_fal w_po w_de fl he nx mtt fz ic gp f_i f_n mif mdf qn gr9 mg9 its nb q124 q129 p_n tk wt hT hch_i hg_i h0_n hp_n hv_i sh hsh _ (by first | exact Eq.symm (if_pos (Or.inl (And.intro (Int32.not_le.mp c_268) c_276))) | exact Eq.symm (if_pos (Or.inr (Int32.not_le.mp c_284)))) K
    · refine y_aload_n d_Mm_pour_279 rfl 4 rfl ?_
      refine y_iconst d_Mm_pour_280 (v := 4) (by decide) ?_
      refine y_iald d_Mm_pour_281 (q0 := 12) rfl (fun q => q.elim (by decide) (by decide)) (v := f_n 4) rfl ?_
      refine y_bipush d_Mm_pour_282 (v := 60) (by decide) ?_
      refine y_icmp_le (tgt := 291) d_Mm_pour_284 (by decide) (fun c_284 => ?_) (fun c_284 => ?_)
      · refine y_iconst d_Mm_pour_291 (v := 0) (by decide) ?_
        refine y_lv (lv' := [(6, .ref q129), (5, .ref q124), (4, .int tk), (3, .int wt), (2, .ref nb), (1, .ref its), (0, .ref (ad 52))]) [0, 1, 2, 3, 4, 5, 6] rfl ?_
        exact Jx3_pour g w_th w_pt w_cl w_wa w_co_ w_fi w_bu w_ho w_lh w_mg w_wd w_fpi w_fal w_po w_de fl he nx mtt fz ic gp f_i f_n mif mdf qn gr9 mg9 its nb q124 q129 p_n tk wt hT hch_i hg_i h0_n hp_n hv_i sh hsh _ (Eq.symm (if_neg (by first | exact (fun q => q.elim (fun e => absurd e.1 (Int32.not_lt.mpr c_268)) (fun e => absurd c_284 (Int32.not_le.mpr e))) | exact (fun q => q.elim (fun e => c_276 e.2) (fun e => absurd c_284 (Int32.not_le.mpr e)))))) K
      · refine y_iconst d_Mm_pour_287 (v := 1) (by decide) ?_
        refine y_goto (tgt := 292) d_Mm_pour_288 (by decide) ?_
        refine y_lv (lv' := [(6, .ref q129), (5, .ref q124), (4, .int tk), (3, .int wt), (2, .ref nb), (1, .ref its), (0, .ref (ad 52))]) [0, 1, 2, 3, 4, 5, 6] rfl ?_
        exact Jx3_pour g w_th w_pt w_cl w_wa w_co_ w_fi w_bu w_ho w_lh w_mg w_wd w_fpi w_fal w_po w_de fl he nx mtt fz ic gp f_i f_n mif mdf qn gr9 mg9 its nb q124 q129 p_n tk wt hT hch_i hg_i h0_n hp_n hv_i sh hsh _ (by first | exact Eq.symm (if_pos (Or.inl (And.intro (Int32.not_le.mp c_268) c_276))) | exact Eq.symm (if_pos (Or.inr (Int32.not_le.mp c_284)))) K
theorem d_Mm_pour_245 : decode prog_14_method_77_code 245 = .ok (.aload 5, 2) := zo_25 (d := 5) (zd_b zq_prog_14_method_77_code_7 21 rfl rfl rfl) (zd_b zq_prog_14_method_77_code_7 22 rfl rfl rfl)
theorem d_Mm_pour_247 : decode prog_14_method_77_code 247 = .ok (.iconst 4, 1) := zo_7 (zd_b zq_prog_14_method_77_code_7 23 rfl rfl rfl)
theorem d_Mm_pour_248 : decode prog_14_method_77_code 248 = .ok (.aload_n 0, 1) := zo_42 (zd_b zq_prog_14_method_77_code_7 24 rfl rfl rfl)
theorem d_Mm_pour_249 : decode prog_14_method_77_code 249 = .ok (.getfield 260, 3) := zo_180 (d := 1) (e := 4) (zd_b zq_prog_14_method_77_code_7 25 rfl rfl rfl) (zd_b zq_prog_14_method_77_code_7 26 rfl rfl rfl) (zd_b zq_prog_14_method_77_code_7 27 rfl rfl rfl)
theorem d_Mm_pour_252 : decode prog_14_method_77_code 252 = .ok (.bipush 20, 2) := zo_16 (d := 20) (zd_b zq_prog_14_method_77_code_7 28 rfl rfl rfl) (zd_b zq_prog_14_method_77_code_7 29 rfl rfl rfl) (by decide +kernel)
theorem d_Mm_pour_254 : decode prog_14_method_77_code 254 = .ok (.if_icmp .lt 7, 3) := zo_161 (d := 0) (e := 7) (zd_b zq_prog_14_method_77_code_7 30 rfl rfl rfl) (zd_b zq_prog_14_method_77_code_7 31 rfl rfl rfl) (zd_b zq_prog_14_method_77_code_8 0 rfl rfl rfl) (by decide +kernel)
theorem d_Mm_pour_261 : decode prog_14_method_77_code 261 = .ok (.iconst 0, 1) := zo_3 (zd_b zq_prog_14_method_77_code_8 5 rfl rfl rfl)
theorem d_Mm_pour_257 : decode prog_14_method_77_code 257 = .ok (.iconst 1, 1) := zo_4 (zd_b zq_prog_14_method_77_code_8 1 rfl rfl rfl)
theorem d_Mm_pour_258 : decode prog_14_method_77_code 258 = .ok (.goto 4, 3) := zo_167 (d := 0) (e := 4) (zd_b zq_prog_14_method_77_code_8 2 rfl rfl rfl) (zd_b zq_prog_14_method_77_code_8 3 rfl rfl rfl) (zd_b zq_prog_14_method_77_code_8 4 rfl rfl rfl) (by decide +kernel)
set_option maxHeartbeats 4000000 in
set_option maxRecDepth 100000 in
theorem Jx1_pour (g : zG) {Ψ : zO → zW → Prop} {w0 : zW} {n kc ks : Nat} {ad : Nat → Nat} (w_th w_pt w_cl w_wa w_co_ w_fi w_bu w_ho w_lh w_mg w_wd w_fpi w_fal : Int32) (w_po w_de : Int64) (fl he nx mtt fz ic gp f_i f_n mif mdf : Nat → Int32) (qn : Nat → Nat) (gr9 mg9 : Nat → Int64) (its nb q124 q129 p_n : Nat) (tk wt : Int32) (hT : ¬ tk = 0) (hch_i : z_ch f_i) (hg_i : ¬ fa_cnt (fun k => decide (f_i k = 103)) 12 = 0) (h0_n : f_n 0 = nI p_n) (hp_n : 1 ≤ p_n ∧ p_n < 9) (hv_i : vlA f_i fl) (sh : Int32) (hsh : mdf 3 = sh) (K : ∀ (gp : Nat → Int32) (qn : Nat → Nat), DU g M_Mm_pour Ψ w0 n 461 [(11, .int (pfF f_i f_n p_n mg9 tk w_mg sh (icQ f_i fl w_lh (decide (tk < wt)) 108))), (6, .ref q129), (5, .ref q124), (0, .ref (ad 52))] [] [((ad 52), .inr (12, [.int w_th, .ref (ad 53), .int w_pt, .ref (ad 54), .ref (ad 55), .ref (ad 56), .ref (ad 57), .ref (ad 58), .ref (ad 59), .ref (ad 60), .ref (ad 61), .int w_cl, .int w_wa, .int w_co_, .int w_fi, .int w_bu, .int w_ho, .ref (ad 62), .ref (ad 63), .ref (ad 64), .int w_lh, .int w_mg, .int w_wd, .int w_fpi, .int w_fal, .ref (ad 65), .ref (ad 66), .ref (ad 67), .ref (ad 68), .long w_po, .long w_de])), ((ad 63), .inl (0, 4, .inl mif)), ((ad 64), .inl (3, 16, .inr (.inl gr9))), ((ad 54), .inl (0, 108, .inl fl)), ((ad 55), .inl (0, 108, .inl he)), ((ad 56), .inl (0, 108, .inl nx)), ((ad 57), .inl (0, 108, .inl mtt)), ((ad 58), .inl (0, 108, .inl fz)), ((ad 59), .inl (2, 108, .inl ic)), ((ad 60), .inl (0, 108, .inl (fun k => nI (qn k)))), ((ad 61), .inl (0, 108, .inl gp)), (its, .inl (1, 108, .inl f_i)), (nb, .inl (0, 5, .inl f_n)), (q124, .inl (0, 6, .inl (upd mdf 4 (pE4 w_mg)))), (q129, .inl (3, 4, .inr (.inl mg9)))] kc ks) : DU g M_Mm_pour Ψ w0 n 245 [(6, .ref q129), (5, .ref q124), (4, .int tk), (3, .int wt), (2, .ref nb), (1, .ref its), (0, .ref (ad 52))] [] [((ad 52), .inr (12, [.int w_th, .ref (ad 53), .int w_pt, .ref (ad 54), .ref (ad 55), .ref (ad 56), .ref (ad 57), .ref (ad 58), .ref (ad 59), .ref (ad 60), .ref (ad 61), .int w_cl, .int w_wa, .int w_co_, .int w_fi, .int w_bu, .int w_ho, .ref (ad 62), .ref (ad 63), .ref (ad 64), .int w_lh, .int w_mg, .int w_wd, .int w_fpi, .int w_fal, .ref (ad 65), .ref (ad 66), .ref (ad 67), .ref (ad 68), .long w_po, .long w_de])), ((ad 63), .inl (0, 4, .inl mif)), ((ad 64), .inl (3, 16, .inr (.inl gr9))), ((ad 54), .inl (0, 108, .inl fl)), ((ad 55), .inl (0, 108, .inl he)), ((ad 56), .inl (0, 108, .inl nx)), ((ad 57), .inl (0, 108, .inl mtt)), ((ad 58), .inl (0, 108, .inl fz)), ((ad 59), .inl (2, 108, .inl ic)), ((ad 60), .inl (0, 108, .inl (fun k => nI (qn k)))), ((ad 61), .inl (0, 108, .inl gp)), (its, .inl (1, 108, .inl f_i)), (nb, .inl (0, 5, .inl f_n)), (q124, .inl (0, 6, .inl mdf)), (q129, .inl (3, 4, .inr (.inl mg9)))] kc ks := by
  refine y_aload d_Mm_pour_245 1 rfl ?_
  refine y_iconst d_Mm_pour_247 (v := 4) (by decide) ?_
  refine y_aload_n d_Mm_pour_248 rfl 6 rfl ?_
  refine y_get fs_Mm_260 d_Mm_pour_249 (q0 := 0) rfl rfl ?_
  refine y_bipush d_Mm_pour_252 (v := 20) (by decide) ?_
  refine y_icmp_lt (tgt := 261) d_Mm_pour_254 (by decide) (fun c_254 => ?_) (fun c_254 => ?_)
  · refine y_iconst d_Mm_pour_261 (v := 0) (by decide) ?_
    refine y_lv (lv' := [(6, .ref q129), (5, .ref q124), (4, .int tk), (3, .int wt), (2, .ref nb), (1, .ref its), (0, .ref (ad 52))]) [0, 1, 2, 3, 4, 5, 6] rfl ?_
    exact Jx2_pour g w_th w_pt w_cl w_wa w_co_ w_fi w_bu w_ho w_lh w_mg w_wd w_fpi w_fal w_po w_de fl he nx mtt fz ic gp f_i f_n mif mdf qn gr9 mg9 its nb q124 q129 p_n tk wt hT hch_i hg_i h0_n hp_n hv_i sh hsh _ (Eq.symm (if_pos c_254)) K
  · refine y_iconst d_Mm_pour_257 (v := 1) (by decide) ?_
    refine y_goto (tgt := 262) d_Mm_pour_258 (by decide) ?_
    refine y_lv (lv' := [(6, .ref q129), (5, .ref q124), (4, .int tk), (3, .int wt), (2, .ref nb), (1, .ref its), (0, .ref (ad 52))]) [0, 1, 2, 3, 4, 5, 6] rfl ?_
    exact Jx2_pour g w_th w_pt w_cl w_wa w_co_ w_fi w_bu w_ho w_lh w_mg w_wd w_fpi w_fal w_po w_de fl he nx mtt fz ic gp f_i f_n mif mdf qn gr9 mg9 its nb q124 q129 p_n tk wt hT hch_i hg_i h0_n hp_n hv_i sh hsh _ (Eq.symm (if_neg c_254)) K
set_option maxHeartbeats 4000000 in
set_option maxRecDepth 100000 in
theorem Qx_Mm_pourE {g : zG} {ad : Nat → Nat} {t : zTT} {u : zNN} {w : zW} (hI : IV g ad t u w) (h0 : u.1 3 = 0) : zMB g M_Mm_pour [.ref (ad 52)] w (fun o w1 => o = .inl (some (.int 0)) ∧ IV g ad t u w1) 0 0 := by
  obtain ⟨e_m, wf_m, k_m⟩ := hI.1.2 52 (by decide)
  obtain ⟨v_m_th, rfl⟩ := kd_52.mp k_m
  refine y_of (by decide) rfl (Nat.le_of_ble_eq_true rfl) (y_base (cs := [((ad 52), .inr (12, [.int v_m_th, .ref (ad 53), .int (nI ((t.1 52).2.2 0)), .ref (ad 54), .ref (ad 55), .ref (ad 56), .ref (ad 57), .ref (ad 58), .ref (ad 59), .ref (ad 60), .ref (ad 61), .int ((t.1 52).1 0), .int ((t.1 52).1 1), .int ((t.1 52).1 2), .int ((t.1 52).1 3), .int ((t.1 52).1 4), .int ((t.1 52).1 5), .ref (ad 62), .ref (ad 63), .ref (ad 64), .int ((t.1 52).1 6), .int ((t.1 52).1 7), .int ((t.1 52).1 8), .int ((t.1 52).1 9), .int ((t.1 52).1 10), .ref (ad 65), .ref (ad 66), .ref (ad 67), .ref (ad 68), .long ((t.1 52).2.1 0), .long ((t.1 52).2.1 1)]))]) (hI.1.I [52] _ rfl (by decide) (by decide) (List.forall_mem_cons.mpr ⟨wf_m, (fun _ h => nomatch h)⟩)) ?_)
  refine y_lvE (lv2 := [(0, .ref (ad 52))]) rfl ?_
  refine y_aload_n d_Mm_pour_0 rfl 0 rfl ?_
  refine y_iconst d_Mm_pour_1 (v := 0) (by decide) ?_
  refine y_put fp_Mm_84 d_Mm_pour_2 (fun h => nomatch h) rfl rfl (q0 := 0) rfl (Nat.le_of_ble_eq_true rfl) (cs' := [((ad 52), .inr (12, [.int 0, .ref (ad 53), .int (nI ((t.1 52).2.2 0)), .ref (ad 54), .ref (ad 55), .ref (ad 56), .ref (ad 57), .ref (ad 58), .ref (ad 59), .ref (ad 60), .ref (ad 61), .int ((t.1 52).1 0), .int ((t.1 52).1 1), .int ((t.1 52).1 2), .int ((t.1 52).1 3), .int ((t.1 52).1 4), .int ((t.1 52).1 5), .ref (ad 62), .ref (ad 63), .ref (ad 64), .int ((t.1 52).1 6), .int ((t.1 52).1 7), .int ((t.1 52).1 8), .int ((t.1 52).1 9), .int ((t.1 52).1 10), .ref (ad 65), .ref (ad 66), .ref (ad 67), .ref (ad 68), .long ((t.1 52).2.1 0), .long ((t.1 52).2.1 1)]))]) rfl ?_
  refine y_aload_n d_Mm_pour_5 rfl 0 rfl ?_
  refine y_aload_n d_Mm_pour_6 rfl 0 rfl ?_
  refine y_get fs_Mm_72 d_Mm_pour_7 (q0 := 0) rfl rfl ?_
  refine yw_callVL (As := []) (rest := [.ref (ad 52)]) (ci := 13) rfl (fun wA hA => ((hI.gen (t2 := t) (is := [52]) (L2 := []) hA rfl ⟨kd_52.mpr ⟨_, rfl⟩, trivial⟩ (by decide) (by decide) (fun _ h => nomatch h) (fun _ h => nomatch h) (fun _ _ _ => rfl) (fun h => h) rfl).2.1.1 3 (by decide)).ob) ln_Mm_289 w_im_AL_isEmpty w_se_AL_isEmpty ok_Mm_pour_AL_isEmpty d_Mm_pour_10 (fun wA hA => Q_isEmpty ((hI.gen (t2 := t) (is := [52]) (L2 := []) hA rfl ⟨kd_52.mpr ⟨_, rfl⟩, trivial⟩ (by decide) (by decide) (fun _ h => nomatch h) (fun _ h => nomatch h) (fun _ _ _ => rfl) (fun h => h) rfl).2.1.1 3 (by decide))) rfl rfl (Nat.le_of_ble_eq_true rfl) (by omega) (by omega) (fun wA10 hA10 E wB10 hx => ?_) (fun wA10 hA10 v wB10 hx => ?_)
  · exact absurd hx.1 (by simp)
  · obtain ⟨e1, e2⟩ := hx
    rw [if_pos h0] at e1
    cases e1
    refine yw_st (st2 := [.int 1, .ref (ad 52)]) rfl ?_
    subst e2
    refine y_go hA10 ?_
    refine y_iconst d_Mm_pour_13 (v := 1) (by decide) ?_
    refine y_callV (As := [.int 1, .int 1]) (rest := []) (csC := [((ad 52), .inr (12, [.int 0, .ref (ad 53), .int (nI ((t.1 52).2.2 0)), .ref (ad 54), .ref (ad 55), .ref (ad 56), .ref (ad 57), .ref (ad 58), .ref (ad 59), .ref (ad 60), .ref (ad 61), .int ((t.1 52).1 0), .int ((t.1 52).1 1), .int ((t.1 52).1 2), .int ((t.1 52).1 3), .int ((t.1 52).1 4), .int ((t.1 52).1 5), .ref (ad 62), .ref (ad 63), .ref (ad 64), .int ((t.1 52).1 6), .int ((t.1 52).1 7), .int ((t.1 52).1 8), .int ((t.1 52).1 9), .int ((t.1 52).1 10), .ref (ad 65), .ref (ad 66), .ref (ad 67), .ref (ad 68), .long ((t.1 52).2.1 0), .long ((t.1 52).2.1 1)]))]) (is := [0]) (q0 := 0) rfl rfl ln_Mm_103 w_im_Mm_fails w_se_Mm_fails ok_Mm_pour_Mm_fails d_Mm_pour_14 (C_Mm_fails1 g (ad 52) (ad 53) (ad 54) (ad 55) (ad 56) (ad 57) (ad 58) (ad 59) (ad 60) (ad 61) (ad 62) (ad 63) (ad 64) (ad 65) (ad 66) (ad 67) (ad 68) 0 (nI ((t.1 52).2.2 0)) ((t.1 52).1 0) ((t.1 52).1 1) ((t.1 52).1 2) ((t.1 52).1 3) ((t.1 52).1 4) ((t.1 52).1 5) ((t.1 52).1 6) ((t.1 52).1 7) ((t.1 52).1 8) ((t.1 52).1 9) ((t.1 52).1 10) ((t.1 52).2.1 0) ((t.1 52).2.1 1)) rfl rfl (Nat.le_of_ble_eq_true rfl) rfl (by decide) (by omega) (by omega) (fun E cs1 hx => ?_) (fun v cs1 hx => ?_)
    · exact absurd hx.1 (by simp)
    · obtain ⟨e1, rfl⟩ := hx
      cases e1
      refine ⟨rfl, ?_⟩
      refine y_st (st2 := [.int 1]) rfl ?_
      refine y_cs (cs2 := [((ad 52), .inr (12, [.int 1, .ref (ad 53), .int (nI ((t.1 52).2.2 0)), .ref (ad 54), .ref (ad 55), .ref (ad 56), .ref (ad 57), .ref (ad 58), .ref (ad 59), .ref (ad 60), .ref (ad 61), .int ((t.1 52).1 0), .int ((t.1 52).1 1), .int ((t.1 52).1 2), .int ((t.1 52).1 3), .int ((t.1 52).1 4), .int ((t.1 52).1 5), .ref (ad 62), .ref (ad 63), .ref (ad 64), .int ((t.1 52).1 6), .int ((t.1 52).1 7), .int ((t.1 52).1 8), .int ((t.1 52).1 9), .int ((t.1 52).1 10), .ref (ad 65), .ref (ad 66), .ref (ad 67), .ref (ad 68), .long ((t.1 52).2.1 0), .long ((t.1 52).2.1 1)]))]) rfl ?_
      refine y_if_ne (tgt := 77) d_Mm_pour_17 (by decide) (fun c_17 => ?_) (fun c_17 => ?_)
      · refine y_iconst d_Mm_pour_77 (v := 0) (by decide) ?_
        refine y_iret d_Mm_pour_78 rfl rfl ?_
        exact fun w1 h1 => ⟨rfl, (hI.gen (t2 := t) (is := [52]) (L2 := []) h1 rfl ⟨kd_52.mpr ⟨_, rfl⟩, trivial⟩ (by decide) (by decide) (fun _ h => nomatch h) (fun _ h => nomatch h) (fun _ _ _ => rfl) (fun h => h) rfl)⟩
      · exact absurd c_17 (by decide)
theorem d_Mm_pour_20 : decode prog_14_method_77_code 20 = .ok (.aload_n 0, 1) := zo_42 (zd_b zq_prog_14_method_77_code_0 20 rfl rfl rfl)
theorem d_Mm_pour_21 : decode prog_14_method_77_code 21 = .ok (.aload_n 0, 1) := zo_42 (zd_b zq_prog_14_method_77_code_0 21 rfl rfl rfl)
theorem d_Mm_pour_22 : decode prog_14_method_77_code 22 = .ok (.getfield 62, 3) := zo_180 (d := 0) (e := 62) (zd_b zq_prog_14_method_77_code_0 22 rfl rfl rfl) (zd_b zq_prog_14_method_77_code_0 23 rfl rfl rfl) (zd_b zq_prog_14_method_77_code_0 24 rfl rfl rfl)
theorem d_Mm_pour_25 : decode prog_14_method_77_code 25 = .ok (.iconst 1, 1) := zo_4 (zd_b zq_prog_14_method_77_code_0 25 rfl rfl rfl)
theorem d_Mm_pour_26 : decode prog_14_method_77_code 26 = .ok (.iaload, 1) := zo_46 (zd_b zq_prog_14_method_77_code_0 26 rfl rfl rfl)
theorem d_Mm_pour_27 : decode prog_14_method_77_code 27 = .ok (.ifCond .eq 13, 3) := zo_153 (d := 0) (e := 13) (zd_b zq_prog_14_method_77_code_0 27 rfl rfl rfl) (zd_b zq_prog_14_method_77_code_0 28 rfl rfl rfl) (zd_b zq_prog_14_method_77_code_0 29 rfl rfl rfl) (by decide +kernel)
theorem d_Mm_pour_40 : decode prog_14_method_77_code 40 = .ok (.iconst 1, 1) := zo_4 (zd_b zq_prog_14_method_77_code_1 8 rfl rfl rfl)
theorem d_Mm_pour_41 : decode prog_14_method_77_code 41 = .ok (.goto 4, 3) := zo_167 (d := 0) (e := 4) (zd_b zq_prog_14_method_77_code_1 9 rfl rfl rfl) (zd_b zq_prog_14_method_77_code_1 10 rfl rfl rfl) (zd_b zq_prog_14_method_77_code_1 11 rfl rfl rfl) (by decide +kernel)
theorem d_Mm_pour_45 : decode prog_14_method_77_code 45 = .ok (.iconst 2, 1) := zo_5 (zd_b zq_prog_14_method_77_code_1 13 rfl rfl rfl)
theorem d_Mm_pour_46 : decode prog_14_method_77_code 46 = .ok (.invokevirtual 103, 3) := zo_182 (d := 0) (e := 103) (zd_b zq_prog_14_method_77_code_1 14 rfl rfl rfl) (zd_b zq_prog_14_method_77_code_1 15 rfl rfl rfl) (zd_b zq_prog_14_method_77_code_1 16 rfl rfl rfl)
theorem d_Mm_pour_49 : decode prog_14_method_77_code 49 = .ok (.ifCond .ne 28, 3) := zo_154 (d := 0) (e := 28) (zd_b zq_prog_14_method_77_code_1 17 rfl rfl rfl) (zd_b zq_prog_14_method_77_code_1 18 rfl rfl rfl) (zd_b zq_prog_14_method_77_code_1 19 rfl rfl rfl) (by decide +kernel)
theorem d_Mm_pour_30 : decode prog_14_method_77_code 30 = .ok (.aload_n 0, 1) := zo_42 (zd_b zq_prog_14_method_77_code_0 30 rfl rfl rfl)
theorem d_Mm_pour_31 : decode prog_14_method_77_code 31 = .ok (.getfield 257, 3) := zo_180 (d := 1) (e := 1) (zd_b zq_prog_14_method_77_code_0 31 rfl rfl rfl) (zd_b zq_prog_14_method_77_code_1 0 rfl rfl rfl) (zd_b zq_prog_14_method_77_code_1 1 rfl rfl rfl)
theorem d_Mm_pour_34 : decode prog_14_method_77_code 34 = .ok (.sipush 1250, 3) := zo_17 (d := 4) (e := 226) (zd_b zq_prog_14_method_77_code_1 2 rfl rfl rfl) (zd_b zq_prog_14_method_77_code_1 3 rfl rfl rfl) (zd_b zq_prog_14_method_77_code_1 4 rfl rfl rfl) (by decide +kernel)
theorem d_Mm_pour_37 : decode prog_14_method_77_code 37 = .ok (.if_icmp .ge 7, 3) := zo_162 (d := 0) (e := 7) (zd_b zq_prog_14_method_77_code_1 5 rfl rfl rfl) (zd_b zq_prog_14_method_77_code_1 6 rfl rfl rfl) (zd_b zq_prog_14_method_77_code_1 7 rfl rfl rfl) (by decide +kernel)
set_option maxHeartbeats 4000000 in
set_option maxRecDepth 100000 in
theorem Qx_Mm_pourF {g : zG} {ad : Nat → Nat} {t : zTT} {u : zNN} {w : zW} (hI : IV g ad t u w) (h0 : ¬ u.1 3 = 0) (h1 : ¬ (¬ (t.1 63).1 1 = 0 ∧ 1250 ≤ (t.1 52).1 6)) : zMB g M_Mm_pour [.ref (ad 52)] w (fun o w1 => o = .inl (some (.int 0)) ∧ IV g ad t u w1) 4 76 := by
  obtain ⟨e_m, wf_m, k_m⟩ := hI.1.2 52 (by decide)
  obtain ⟨v_m_th, rfl⟩ := kd_52.mp k_m
  obtain ⟨e_mi, wf_mi, k_mi⟩ := hI.1.2 63 (by decide)
  obtain rfl := kd_63.mp k_mi
  obtain ⟨e_mr, wf_mr, k_mr⟩ := hI.1.2 64 (by decide)
  obtain rfl := kd_64.mp k_mr
  obtain ⟨e_mf, wf_mf, k_mf⟩ := hI.1.2 54 (by decide)
  obtain ⟨v_mf_f, rfl⟩ := kd_54.mp k_mf
  obtain ⟨e_mh, wf_mh, k_mh⟩ := hI.1.2 55 (by decide)
  obtain ⟨v_mh_f, rfl⟩ := kd_55.mp k_mh
  obtain ⟨e_mn, wf_mn, k_mn⟩ := hI.1.2 56 (by decide)
  obtain ⟨v_mn_f, rfl⟩ := kd_56.mp k_mn
  obtain ⟨e_mt, wf_mt, k_mt⟩ := hI.1.2 57 (by decide)
  obtain ⟨v_mt_f, rfl⟩ := kd_57.mp k_mt
  obtain ⟨e_mz, wf_mz, k_mz⟩ := hI.1.2 58 (by decide)
  obtain ⟨v_mz_f, rfl⟩ := kd_58.mp k_mz
  obtain ⟨e_mc_, wf_mc_, k_mc_⟩ := hI.1.2 59 (by decide)
  obtain ⟨v_mc__f, rfl⟩ := kd_59.mp k_mc_
  obtain ⟨e_mq, wf_mq, k_mq⟩ := hI.1.2 60 (by decide)
  obtain ⟨v_mq_h, rfl⟩ := kd_60.mp k_mq
  obtain ⟨e_mgr, wf_mgr, k_mgr⟩ := hI.1.2 61 (by decide)
  obtain ⟨v_mgr_f, rfl⟩ := kd_61.mp k_mgr
  refine y_of (by decide) rfl (Nat.le_of_ble_eq_true rfl) (y_base (cs := [((ad 52), .inr (12, [.int v_m_th, .ref (ad 53), .int (nI ((t.1 52).2.2 0)), .ref (ad 54), .ref (ad 55), .ref (ad 56), .ref (ad 57), .ref (ad 58), .ref (ad 59), .ref (ad 60), .ref (ad 61), .int ((t.1 52).1 0), .int ((t.1 52).1 1), .int ((t.1 52).1 2), .int ((t.1 52).1 3), .int ((t.1 52).1 4), .int ((t.1 52).1 5), .ref (ad 62), .ref (ad 63), .ref (ad 64), .int ((t.1 52).1 6), .int ((t.1 52).1 7), .int ((t.1 52).1 8), .int ((t.1 52).1 9), .int ((t.1 52).1 10), .ref (ad 65), .ref (ad 66), .ref (ad 67), .ref (ad 68), .long ((t.1 52).2.1 0), .long ((t.1 52).2.1 1)])), ((ad 63), .inl (0, 4, .inl ((t.1 63).1))), ((ad 64), .inl (3, 16, .inr (.inl ((t.1 64).2.1)))), ((ad 54), .inl (0, 108, .inl v_mf_f)), ((ad 55), .inl (0, 108, .inl v_mh_f)), ((ad 56), .inl (0, 108, .inl v_mn_f)), ((ad 57), .inl (0, 108, .inl v_mt_f)), ((ad 58), .inl (0, 108, .inl v_mz_f)), ((ad 59), .inl (2, 108, .inl v_mc__f)), ((ad 60), .inl (0, 108, .inl (fun k => nI (v_mq_h k)))), ((ad 61), .inl (0, 108, .inl v_mgr_f))]) (hI.1.I [52, 63, 64, 54, 55, 56, 57, 58, 59, 60, 61] _ rfl (by decide) (by decide) (List.forall_mem_cons.mpr ⟨wf_m, (List.forall_mem_cons.mpr ⟨wf_mi, (List.forall_mem_cons.mpr ⟨wf_mr, (List.forall_mem_cons.mpr ⟨wf_mf, (List.forall_mem_cons.mpr ⟨wf_mh, (List.forall_mem_cons.mpr ⟨wf_mn, (List.forall_mem_cons.mpr ⟨wf_mt, (List.forall_mem_cons.mpr ⟨wf_mz, (List.forall_mem_cons.mpr ⟨wf_mc_, (List.forall_mem_cons.mpr ⟨wf_mq, (List.forall_mem_cons.mpr ⟨wf_mgr, (fun _ h => nomatch h)⟩)⟩)⟩)⟩)⟩)⟩)⟩)⟩)⟩)⟩)⟩)) ?_)
  refine y_lvE (lv2 := [(0, .ref (ad 52))]) rfl ?_
  refine y_aload_n d_Mm_pour_0 rfl 0 rfl ?_
  refine y_iconst d_Mm_pour_1 (v := 0) (by decide) ?_
  refine y_put fp_Mm_84 d_Mm_pour_2 (fun h => nomatch h) rfl rfl (q0 := 0) rfl (Nat.le_of_ble_eq_true rfl) (cs' := [((ad 52), .inr (12, [.int 0, .ref (ad 53), .int (nI ((t.1 52).2.2 0)), .ref (ad 54), .ref (ad 55), .ref (ad 56), .ref (ad 57), .ref (ad 58), .ref (ad 59), .ref (ad 60), .ref (ad 61), .int ((t.1 52).1 0), .int ((t.1 52).1 1), .int ((t.1 52).1 2), .int ((t.1 52).1 3), .int ((t.1 52).1 4), .int ((t.1 52).1 5), .ref (ad 62), .ref (ad 63), .ref (ad 64), .int ((t.1 52).1 6), .int ((t.1 52).1 7), .int ((t.1 52).1 8), .int ((t.1 52).1 9), .int ((t.1 52).1 10), .ref (ad 65), .ref (ad 66), .ref (ad 67), .ref (ad 68), .long ((t.1 52).2.1 0), .long ((t.1 52).2.1 1)])), ((ad 63), .inl (0, 4, .inl ((t.1 63).1))), ((ad 64), .inl (3, 16, .inr (.inl ((t.1 64).2.1)))), ((ad 54), .inl (0, 108, .inl v_mf_f)), ((ad 55), .inl (0, 108, .inl v_mh_f)), ((ad 56), .inl (0, 108, .inl v_mn_f)), ((ad 57), .inl (0, 108, .inl v_mt_f)), ((ad 58), .inl (0, 108, .inl v_mz_f)), ((ad 59), .inl (2, 108, .inl v_mc__f)), ((ad 60), .inl (0, 108, .inl (fun k => nI (v_mq_h k)))), ((ad 61), .inl (0, 108, .inl v_mgr_f))]) rfl ?_
  refine y_aload_n d_Mm_pour_5 rfl 0 rfl ?_
  refine y_aload_n d_Mm_pour_6 rfl 0 rfl ?_
  refine y_get fs_Mm_72 d_Mm_pour_7 (q0 := 0) rfl rfl ?_
  refine yw_callVL (As := []) (rest := [.ref (ad 52)]) (ci := 13) rfl (fun wA hA => ((hI.gen (t2 := t) (is := [52, 63, 64, 54, 55, 56, 57, 58, 59, 60, 61]) (L2 := []) hA rfl ⟨kd_52.mpr ⟨_, rfl⟩, kd_63.mpr rfl, kd_64.mpr rfl, kd_54.mpr ⟨_, rfl⟩, kd_55.mpr ⟨_, rfl⟩, kd_56.mpr ⟨_, rfl⟩, kd_57.mpr ⟨_, rfl⟩, kd_58.mpr ⟨_, rfl⟩, kd_59.mpr ⟨_, rfl⟩, kd_60.mpr ⟨_, rfl⟩, kd_61.mpr ⟨_, rfl⟩, trivial⟩ (by decide) (by decide) (fun _ h => nomatch h) (fun _ h => nomatch h) (fun _ _ _ => rfl) (fun h => h) rfl).2.1.1 3 (by decide)).ob) ln_Mm_289 w_im_AL_isEmpty w_se_AL_isEmpty ok_Mm_pour_AL_isEmpty d_Mm_pour_10 (fun wA hA => Q_isEmpty ((hI.gen (t2 := t) (is := [52, 63, 64, 54, 55, 56, 57, 58, 59, 60, 61]) (L2 := []) hA rfl ⟨kd_52.mpr ⟨_, rfl⟩, kd_63.mpr rfl, kd_64.mpr rfl, kd_54.mpr ⟨_, rfl⟩, kd_55.mpr ⟨_, rfl⟩, kd_56.mpr ⟨_, rfl⟩, kd_57.mpr ⟨_, rfl⟩, kd_58.mpr ⟨_, rfl⟩, kd_59.mpr ⟨_, rfl⟩, kd_60.mpr ⟨_, rfl⟩, kd_61.mpr ⟨_, rfl⟩, trivial⟩ (by decide) (by decide) (fun _ h => nomatch h) (fun _ h => nomatch h) (fun _ _ _ => rfl) (fun h => h) rfl).2.1.1 3 (by decide))) rfl rfl (Nat.le_of_ble_eq_true rfl) (by omega) (by omega) (fun wA10 hA10 E wB10 hx => ?_) (fun wA10 hA10 v wB10 hx => ?_)
  · exact absurd hx.1 (by simp)
  · obtain ⟨e1, e2⟩ := hx
    rw [if_neg h0] at e1
    cases e1
    refine yw_st (st2 := [.int 0, .ref (ad 52)]) rfl ?_
    subst e2
    refine y_go hA10 ?_
    refine y_iconst d_Mm_pour_13 (v := 1) (by decide) ?_
    refine y_callV (As := [.int 0, .int 1]) (rest := []) (csC := [((ad 52), .inr (12, [.int 0, .ref (ad 53), .int (nI ((t.1 52).2.2 0)), .ref (ad 54), .ref (ad 55), .ref (ad 56), .ref (ad 57), .ref (ad 58), .ref (ad 59), .ref (ad 60), .ref (ad 61), .int ((t.1 52).1 0), .int ((t.1 52).1 1), .int ((t.1 52).1 2), .int ((t.1 52).1 3), .int ((t.1 52).1 4), .int ((t.1 52).1 5), .ref (ad 62), .ref (ad 63), .ref (ad 64), .int ((t.1 52).1 6), .int ((t.1 52).1 7), .int ((t.1 52).1 8), .int ((t.1 52).1 9), .int ((t.1 52).1 10), .ref (ad 65), .ref (ad 66), .ref (ad 67), .ref (ad 68), .long ((t.1 52).2.1 0), .long ((t.1 52).2.1 1)]))]) (is := [0]) (q0 := 0) rfl rfl ln_Mm_103 w_im_Mm_fails w_se_Mm_fails ok_Mm_pour_Mm_fails d_Mm_pour_14 (C_Mm_fails0 g (ad 52) (ad 53) (ad 54) (ad 55) (ad 56) (ad 57) (ad 58) (ad 59) (ad 60) (ad 61) (ad 62) (ad 63) (ad 64) (ad 65) (ad 66) (ad 67) (ad 68) 0 (nI ((t.1 52).2.2 0)) ((t.1 52).1 0) ((t.1 52).1 1) ((t.1 52).1 2) ((t.1 52).1 3) ((t.1 52).1 4) ((t.1 52).1 5) ((t.1 52).1 6) ((t.1 52).1 7) ((t.1 52).1 8) ((t.1 52).1 9) ((t.1 52).1 10) ((t.1 52).2.1 0) ((t.1 52).2.1 1) 1) rfl rfl (Nat.le_of_ble_eq_true rfl) rfl (by decide) (by omega) (by omega) (fun E cs1 hx => ?_) (fun v cs1 hx => ?_)
    · exact absurd hx.1 (by simp)
    · obtain ⟨e1, rfl⟩ := hx
      cases e1
      refine ⟨rfl, ?_⟩
      refine y_st (st2 := [.int 0]) rfl ?_
      refine y_cs (cs2 := [((ad 52), .inr (12, [.int 0, .ref (ad 53), .int (nI ((t.1 52).2.2 0)), .ref (ad 54), .ref (ad 55), .ref (ad 56), .ref (ad 57), .ref (ad 58), .ref (ad 59), .ref (ad 60), .ref (ad 61), .int ((t.1 52).1 0), .int ((t.1 52).1 1), .int ((t.1 52).1 2), .int ((t.1 52).1 3), .int ((t.1 52).1 4), .int ((t.1 52).1 5), .ref (ad 62), .ref (ad 63), .ref (ad 64), .int ((t.1 52).1 6), .int ((t.1 52).1 7), .int ((t.1 52).1 8), .int ((t.1 52).1 9), .int ((t.1 52).1 10), .ref (ad 65), .ref (ad 66), .ref (ad 67), .ref (ad 68), .long ((t.1 52).2.1 0), .long ((t.1 52).2.1 1)])), ((ad 63), .inl (0, 4, .inl ((t.1 63).1))), ((ad 64), .inl (3, 16, .inr (.inl ((t.1 64).2.1)))), ((ad 54), .inl (0, 108, .inl v_mf_f)), ((ad 55), .inl (0, 108, .inl v_mh_f)), ((ad 56), .inl (0, 108, .inl v_mn_f)), ((ad 57), .inl (0, 108, .inl v_mt_f)), ((ad 58), .inl (0, 108, .inl v_mz_f)), ((ad 59), .inl (2, 108, .inl v_mc__f)), ((ad 60), .inl (0, 108, .inl (fun k => nI (v_mq_h k)))), ((ad 61), .inl (0, 108, .inl v_mgr_f))]) rfl ?_
      refine y_if_ne (tgt := 77) d_Mm_pour_17 (by decide) (fun c_17 => ?_) (fun c_17 => ?_)
      · exact absurd c_17 (by decide)
      · refine y_aload_n d_Mm_pour_20 rfl 0 rfl ?_
        refine y_aload_n d_Mm_pour_21 rfl 0 rfl ?_
        refine y_get fs_Mm_62 d_Mm_pour_22 (q0 := 0) rfl rfl ?_
        refine y_iconst d_Mm_pour_25 (v := 1) (by decide) ?_
        refine y_iald d_Mm_pour_26 (q0 := 1) rfl (fun q => q.elim (by decide) (by decide)) (v := ((t.1 63).1) 1) rfl ?_
        refine y_if_eq (tgt := 40) d_Mm_pour_27 (by decide) (fun c_27 => ?_) (fun c_27 => ?_)
        · refine y_iconst d_Mm_pour_40 (v := 1) (by decide) ?_
          refine y_goto (tgt := 45) d_Mm_pour_41 (by decide) ?_
          refine y_iconst d_Mm_pour_45 (v := 2) (by decide) ?_
          refine y_callV (As := [.int 1, .int 2]) (rest := []) (csC := [((ad 52), .inr (12, [.int 0, .ref (ad 53), .int (nI ((t.1 52).2.2 0)), .ref (ad 54), .ref (ad 55), .ref (ad 56), .ref (ad 57), .ref (ad 58), .ref (ad 59), .ref (ad 60), .ref (ad 61), .int ((t.1 52).1 0), .int ((t.1 52).1 1), .int ((t.1 52).1 2), .int ((t.1 52).1 3), .int ((t.1 52).1 4), .int ((t.1 52).1 5), .ref (ad 62), .ref (ad 63), .ref (ad 64), .int ((t.1 52).1 6), .int ((t.1 52).1 7), .int ((t.1 52).1 8), .int ((t.1 52).1 9), .int ((t.1 52).1 10), .ref (ad 65), .ref (ad 66), .ref (ad 67), .ref (ad 68), .long ((t.1 52).2.1 0), .long ((t.1 52).2.1 1)]))]) (is := [0]) (q0 := 0) rfl rfl ln_Mm_103 w_im_Mm_fails w_se_Mm_fails ok_Mm_pour_Mm_fails d_Mm_pour_46 (C_Mm_fails2 g (ad 52) (ad 53) (ad 54) (ad 55) (ad 56) (ad 57) (ad 58) (ad 59) (ad 60) (ad 61) (ad 62) (ad 63) (ad 64) (ad 65) (ad 66) (ad 67) (ad 68) 0 (nI ((t.1 52).2.2 0)) ((t.1 52).1 0) ((t.1 52).1 1) ((t.1 52).1 2) ((t.1 52).1 3) ((t.1 52).1 4) ((t.1 52).1 5) ((t.1 52).1 6) ((t.1 52).1 7) ((t.1 52).1 8) ((t.1 52).1 9) ((t.1 52).1 10) ((t.1 52).2.1 0) ((t.1 52).2.1 1)) rfl rfl (Nat.le_of_ble_eq_true rfl) rfl (by decide) (by omega) (by omega) (fun E cs1 hx => ?_) (fun v cs1 hx => ?_)
          · exact absurd hx.1 (by simp)
          · obtain ⟨e1, rfl⟩ := hx
            cases e1
            refine ⟨rfl, ?_⟩
            refine y_st (st2 := [.int 1]) rfl ?_
            refine y_cs (cs2 := [((ad 52), .inr (12, [.int 2, .ref (ad 53), .int (nI ((t.1 52).2.2 0)), .ref (ad 54), .ref (ad 55), .ref (ad 56), .ref (ad 57), .ref (ad 58), .ref (ad 59), .ref (ad 60), .ref (ad 61), .int ((t.1 52).1 0), .int ((t.1 52).1 1), .int ((t.1 52).1 2), .int ((t.1 52).1 3), .int ((t.1 52).1 4), .int ((t.1 52).1 5), .ref (ad 62), .ref (ad 63), .ref (ad 64), .int ((t.1 52).1 6), .int ((t.1 52).1 7), .int ((t.1 52).1 8), .int ((t.1 52).1 9), .int ((t.1 52).1 10), .ref (ad 65), .ref (ad 66), .ref (ad 67), .ref (ad 68), .long ((t.1 52).2.1 0), .long ((t.1 52).2.1 1)])), ((ad 63), .inl (0, 4, .inl ((t.1 63).1))), ((ad 64), .inl (3, 16, .inr (.inl ((t.1 64).2.1)))), ((ad 54), .inl (0, 108, .inl v_mf_f)), ((ad 55), .inl (0, 108, .inl v_mh_f)), ((ad 56), .inl (0, 108, .inl v_mn_f)), ((ad 57), .inl (0, 108, .inl v_mt_f)), ((ad 58), .inl (0, 108, .inl v_mz_f)), ((ad 59), .inl (2, 108, .inl v_mc__f)), ((ad 60), .inl (0, 108, .inl (fun k => nI (v_mq_h k)))), ((ad 61), .inl (0, 108, .inl v_mgr_f))]) rfl ?_
            refine y_if_ne (tgt := 77) d_Mm_pour_49 (by decide) (fun c_49 => ?_) (fun c_49 => ?_)
            · refine y_iconst d_Mm_pour_77 (v := 0) (by decide) ?_
              refine y_iret d_Mm_pour_78 rfl rfl ?_
              exact fun w1 h1 => ⟨rfl, (hI.gen (t2 := t) (is := [52, 63, 64, 54, 55, 56, 57, 58, 59, 60, 61]) (L2 := []) h1 rfl ⟨kd_52.mpr ⟨_, rfl⟩, kd_63.mpr rfl, kd_64.mpr rfl, kd_54.mpr ⟨_, rfl⟩, kd_55.mpr ⟨_, rfl⟩, kd_56.mpr ⟨_, rfl⟩, kd_57.mpr ⟨_, rfl⟩, kd_58.mpr ⟨_, rfl⟩, kd_59.mpr ⟨_, rfl⟩, kd_60.mpr ⟨_, rfl⟩, kd_61.mpr ⟨_, rfl⟩, trivial⟩ (by decide) (by decide) (fun _ h => nomatch h) (fun _ h => nomatch h) (fun _ _ _ => rfl) (fun h => h) rfl)⟩
            · exact absurd c_49 (by decide)
        · refine y_aload_n d_Mm_pour_30 rfl 0 rfl ?_
          refine y_get fs_Mm_257 d_Mm_pour_31 (q0 := 0) rfl rfl ?_
          refine y_sipush d_Mm_pour_34 (v := 1250) (by decide) ?_
          refine y_icmp_ge (tgt := 44) d_Mm_pour_37 (by decide) (fun c_37 => ?_) (fun c_37 => ?_)
          · exact absurd ⟨c_27, c_37⟩ h1
          · refine y_iconst d_Mm_pour_40 (v := 1) (by decide) ?_
            refine y_goto (tgt := 45) d_Mm_pour_41 (by decide) ?_
            refine y_iconst d_Mm_pour_45 (v := 2) (by decide) ?_
            refine y_callV (As := [.int 1, .int 2]) (rest := []) (csC := [((ad 52), .inr (12, [.int 0, .ref (ad 53), .int (nI ((t.1 52).2.2 0)), .ref (ad 54), .ref (ad 55), .ref (ad 56), .ref (ad 57), .ref (ad 58), .ref (ad 59), .ref (ad 60), .ref (ad 61), .int ((t.1 52).1 0), .int ((t.1 52).1 1), .int ((t.1 52).1 2), .int ((t.1 52).1 3), .int ((t.1 52).1 4), .int ((t.1 52).1 5), .ref (ad 62), .ref (ad 63), .ref (ad 64), .int ((t.1 52).1 6), .int ((t.1 52).1 7), .int ((t.1 52).1 8), .int ((t.1 52).1 9), .int ((t.1 52).1 10), .ref (ad 65), .ref (ad 66), .ref (ad 67), .ref (ad 68), .long ((t.1 52).2.1 0), .long ((t.1 52).2.1 1)]))]) (is := [0]) (q0 := 0) rfl rfl ln_Mm_103 w_im_Mm_fails w_se_Mm_fails ok_Mm_pour_Mm_fails d_Mm_pour_46 (C_Mm_fails2 g (ad 52) (ad 53) (ad 54) (ad 55) (ad 56) (ad 57) (ad 58) (ad 59) (ad 60) (ad 61) (ad 62) (ad 63) (ad 64) (ad 65) (ad 66) (ad 67) (ad 68) 0 (nI ((t.1 52).2.2 0)) ((t.1 52).1 0) ((t.1 52).1 1) ((t.1 52).1 2) ((t.1 52).1 3) ((t.1 52).1 4) ((t.1 52).1 5) ((t.1 52).1 6) ((t.1 52).1 7) ((t.1 52).1 8) ((t.1 52).1 9) ((t.1 52).1 10) ((t.1 52).2.1 0) ((t.1 52).2.1 1)) rfl rfl (Nat.le_of_ble_eq_true rfl) rfl (by decide) (by omega) (by omega) (fun E cs1 hx => ?_) (fun v cs1 hx => ?_)
            · exact absurd hx.1 (by simp)
            · obtain ⟨e1, rfl⟩ := hx
              cases e1
              refine ⟨rfl, ?_⟩
              refine y_st (st2 := [.int 1]) rfl ?_
              refine y_cs (cs2 := [((ad 52), .inr (12, [.int 2, .ref (ad 53), .int (nI ((t.1 52).2.2 0)), .ref (ad 54), .ref (ad 55), .ref (ad 56), .ref (ad 57), .ref (ad 58), .ref (ad 59), .ref (ad 60), .ref (ad 61), .int ((t.1 52).1 0), .int ((t.1 52).1 1), .int ((t.1 52).1 2), .int ((t.1 52).1 3), .int ((t.1 52).1 4), .int ((t.1 52).1 5), .ref (ad 62), .ref (ad 63), .ref (ad 64), .int ((t.1 52).1 6), .int ((t.1 52).1 7), .int ((t.1 52).1 8), .int ((t.1 52).1 9), .int ((t.1 52).1 10), .ref (ad 65), .ref (ad 66), .ref (ad 67), .ref (ad 68), .long ((t.1 52).2.1 0), .long ((t.1 52).2.1 1)])), ((ad 63), .inl (0, 4, .inl ((t.1 63).1))), ((ad 64), .inl (3, 16, .inr (.inl ((t.1 64).2.1)))), ((ad 54), .inl (0, 108, .inl v_mf_f)), ((ad 55), .inl (0, 108, .inl v_mh_f)), ((ad 56), .inl (0, 108, .inl v_mn_f)), ((ad 57), .inl (0, 108, .inl v_mt_f)), ((ad 58), .inl (0, 108, .inl v_mz_f)), ((ad 59), .inl (2, 108, .inl v_mc__f)), ((ad 60), .inl (0, 108, .inl (fun k => nI (v_mq_h k)))), ((ad 61), .inl (0, 108, .inl v_mgr_f))]) rfl ?_
              refine y_if_ne (tgt := 77) d_Mm_pour_49 (by decide) (fun c_49 => ?_) (fun c_49 => ?_)
              · refine y_iconst d_Mm_pour_77 (v := 0) (by decide) ?_
                refine y_iret d_Mm_pour_78 rfl rfl ?_
                exact fun w1 h1 => ⟨rfl, (hI.gen (t2 := t) (is := [52, 63, 64, 54, 55, 56, 57, 58, 59, 60, 61]) (L2 := []) h1 rfl ⟨kd_52.mpr ⟨_, rfl⟩, kd_63.mpr rfl, kd_64.mpr rfl, kd_54.mpr ⟨_, rfl⟩, kd_55.mpr ⟨_, rfl⟩, kd_56.mpr ⟨_, rfl⟩, kd_57.mpr ⟨_, rfl⟩, kd_58.mpr ⟨_, rfl⟩, kd_59.mpr ⟨_, rfl⟩, kd_60.mpr ⟨_, rfl⟩, kd_61.mpr ⟨_, rfl⟩, trivial⟩ (by decide) (by decide) (fun _ h => nomatch h) (fun _ h => nomatch h) (fun _ _ _ => rfl) (fun h => h) rfl)⟩
              · exact absurd c_49 (by decide)
theorem d_Mm_pour_44 : decode prog_14_method_77_code 44 = .ok (.iconst 0, 1) := zo_3 (zd_b zq_prog_14_method_77_code_1 12 rfl rfl rfl)
theorem d_Mm_pour_52 : decode prog_14_method_77_code 52 = .ok (.aload_n 0, 1) := zo_42 (zd_b zq_prog_14_method_77_code_1 20 rfl rfl rfl)
theorem d_Mm_pour_53 : decode prog_14_method_77_code 53 = .ok (.aload_n 0, 1) := zo_42 (zd_b zq_prog_14_method_77_code_1 21 rfl rfl rfl)
theorem d_Mm_pour_54 : decode prog_14_method_77_code 54 = .ok (.getfield 78, 3) := zo_180 (d := 0) (e := 78) (zd_b zq_prog_14_method_77_code_1 22 rfl rfl rfl) (zd_b zq_prog_14_method_77_code_1 23 rfl rfl rfl) (zd_b zq_prog_14_method_77_code_1 24 rfl rfl rfl)
theorem d_Mm_pour_57 : decode prog_14_method_77_code 57 = .ok (.invokevirtual 208, 3) := zo_182 (d := 0) (e := 208) (zd_b zq_prog_14_method_77_code_1 25 rfl rfl rfl) (zd_b zq_prog_14_method_77_code_1 26 rfl rfl rfl) (zd_b zq_prog_14_method_77_code_1 27 rfl rfl rfl)
theorem ok_Mm_pour_AL_size : z_ok M_Mm_pour M_AL_size 0 := ⟨z_mj2 (i := 172) rfl (by decide +kernel), rfl, ⟨by decide +kernel, by decide +kernel, by decide +kernel⟩, ⟨by decide, by decide⟩, z_mj1 (i := 13) rfl (by decide +kernel), rfl⟩
theorem d_Mm_pour_60 : decode prog_14_method_77_code 60 = .ok (.bipush 30, 2) := zo_16 (d := 30) (zd_b zq_prog_14_method_77_code_1 28 rfl rfl rfl) (zd_b zq_prog_14_method_77_code_1 29 rfl rfl rfl) (by decide +kernel)
theorem d_Mm_pour_62 : decode prog_14_method_77_code 62 = .ok (.if_icmp .ne 7, 3) := zo_160 (d := 0) (e := 7) (zd_b zq_prog_14_method_77_code_1 30 rfl rfl rfl) (zd_b zq_prog_14_method_77_code_1 31 rfl rfl rfl) (zd_b zq_prog_14_method_77_code_2 0 rfl rfl rfl) (by decide +kernel)
theorem d_Mm_pour_65 : decode prog_14_method_77_code 65 = .ok (.iconst 1, 1) := zo_4 (zd_b zq_prog_14_method_77_code_2 1 rfl rfl rfl)
theorem d_Mm_pour_66 : decode prog_14_method_77_code 66 = .ok (.goto 4, 3) := zo_167 (d := 0) (e := 4) (zd_b zq_prog_14_method_77_code_2 2 rfl rfl rfl) (zd_b zq_prog_14_method_77_code_2 3 rfl rfl rfl) (zd_b zq_prog_14_method_77_code_2 4 rfl rfl rfl) (by decide +kernel)
theorem d_Mm_pour_70 : decode prog_14_method_77_code 70 = .ok (.iconst 3, 1) := zo_6 (zd_b zq_prog_14_method_77_code_2 6 rfl rfl rfl)
theorem d_Mm_pour_71 : decode prog_14_method_77_code 71 = .ok (.invokevirtual 103, 3) := zo_182 (d := 0) (e := 103) (zd_b zq_prog_14_method_77_code_2 7 rfl rfl rfl) (zd_b zq_prog_14_method_77_code_2 8 rfl rfl rfl) (zd_b zq_prog_14_method_77_code_2 9 rfl rfl rfl)
theorem d_Mm_pour_74 : decode prog_14_method_77_code 74 = .ok (.ifCond .eq 5, 3) := zo_153 (d := 0) (e := 5) (zd_b zq_prog_14_method_77_code_2 10 rfl rfl rfl) (zd_b zq_prog_14_method_77_code_2 11 rfl rfl rfl) (zd_b zq_prog_14_method_77_code_2 12 rfl rfl rfl) (by decide +kernel)
set_option maxHeartbeats 4000000 in
set_option maxRecDepth 100000 in
theorem Qx_Mm_pourG {g : zG} {ad : Nat → Nat} {t : zTT} {u : zNN} {w : zW} (hI : IV g ad t u w) (h0 : ¬ u.1 3 = 0) (h1 : ¬ (t.1 63).1 1 = 0) (h2 : 1250 ≤ (t.1 52).1 6) (h3 : u.1 5 = 30) : zMB g M_Mm_pour [.ref (ad 52)] w (fun o w1 => o = .inl (some (.int 0)) ∧ IV g ad t u w1) 4 76 := by
  obtain ⟨e_m, wf_m, k_m⟩ := hI.1.2 52 (by decide)
  obtain ⟨v_m_th, rfl⟩ := kd_52.mp k_m
  obtain ⟨e_mi, wf_mi, k_mi⟩ := hI.1.2 63 (by decide)
  obtain rfl := kd_63.mp k_mi
  obtain ⟨e_mr, wf_mr, k_mr⟩ := hI.1.2 64 (by decide)
  obtain rfl := kd_64.mp k_mr
  obtain ⟨e_mf, wf_mf, k_mf⟩ := hI.1.2 54 (by decide)
  obtain ⟨v_mf_f, rfl⟩ := kd_54.mp k_mf
  obtain ⟨e_mh, wf_mh, k_mh⟩ := hI.1.2 55 (by decide)
  obtain ⟨v_mh_f, rfl⟩ := kd_55.mp k_mh
  obtain ⟨e_mn, wf_mn, k_mn⟩ := hI.1.2 56 (by decide)
  obtain ⟨v_mn_f, rfl⟩ := kd_56.mp k_mn
  obtain ⟨e_mt, wf_mt, k_mt⟩ := hI.1.2 57 (by decide)
  obtain ⟨v_mt_f, rfl⟩ := kd_57.mp k_mt
  obtain ⟨e_mz, wf_mz, k_mz⟩ := hI.1.2 58 (by decide)
  obtain ⟨v_mz_f, rfl⟩ := kd_58.mp k_mz
  obtain ⟨e_mc_, wf_mc_, k_mc_⟩ := hI.1.2 59 (by decide)
  obtain ⟨v_mc__f, rfl⟩ := kd_59.mp k_mc_
  obtain ⟨e_mq, wf_mq, k_mq⟩ := hI.1.2 60 (by decide)
  obtain ⟨v_mq_h, rfl⟩ := kd_60.mp k_mq
  obtain ⟨e_mgr, wf_mgr, k_mgr⟩ := hI.1.2 61 (by decide)
  obtain ⟨v_mgr_f, rfl⟩ := kd_61.mp k_mgr
  refine y_of (by decide) rfl (Nat.le_of_ble_eq_true rfl) (y_base (cs := [((ad 52), .inr (12, [.int v_m_th, .ref (ad 53), .int (nI ((t.1 52).2.2 0)), .ref (ad 54), .ref (ad 55), .ref (ad 56), .ref (ad 57), .ref (ad 58), .ref (ad 59), .ref (ad 60), .ref (ad 61), .int ((t.1 52).1 0), .int ((t.1 52).1 1), .int ((t.1 52).1 2), .int ((t.1 52).1 3), .int ((t.1 52).1 4), .int ((t.1 52).1 5), .ref (ad 62), .ref (ad 63), .ref (ad 64), .int ((t.1 52).1 6), .int ((t.1 52).1 7), .int ((t.1 52).1 8), .int ((t.1 52).1 9), .int ((t.1 52).1 10), .ref (ad 65), .ref (ad 66), .ref (ad 67), .ref (ad 68), .long ((t.1 52).2.1 0), .long ((t.1 52).2.1 1)])), ((ad 63), .inl (0, 4, .inl ((t.1 63).1))), ((ad 64), .inl (3, 16, .inr (.inl ((t.1 64).2.1)))), ((ad 54), .inl (0, 108, .inl v_mf_f)), ((ad 55), .inl (0, 108, .inl v_mh_f)), ((ad 56), .inl (0, 108, .inl v_mn_f)), ((ad 57), .inl (0, 108, .inl v_mt_f)), ((ad 58), .inl (0, 108, .inl v_mz_f)), ((ad 59), .inl (2, 108, .inl v_mc__f)), ((ad 60), .inl (0, 108, .inl (fun k => nI (v_mq_h k)))), ((ad 61), .inl (0, 108, .inl v_mgr_f))]) (hI.1.I [52, 63, 64, 54, 55, 56, 57, 58, 59, 60, 61] _ rfl (by decide) (by decide) (List.forall_mem_cons.mpr ⟨wf_m, (List.forall_mem_cons.mpr ⟨wf_mi, (List.forall_mem_cons.mpr ⟨wf_mr, (List.forall_mem_cons.mpr ⟨wf_mf, (List.forall_mem_cons.mpr ⟨wf_mh, (List.forall_mem_cons.mpr ⟨wf_mn, (List.forall_mem_cons.mpr ⟨wf_mt, (List.forall_mem_cons.mpr ⟨wf_mz, (List.forall_mem_cons.mpr ⟨wf_mc_, (List.forall_mem_cons.mpr ⟨wf_mq, (List.forall_mem_cons.mpr ⟨wf_mgr, (fun _ h => nomatch h)⟩)⟩)⟩)⟩)⟩)⟩)⟩)⟩)⟩)⟩)⟩)) ?_)
  refine y_lvE (lv2 := [(0, .ref (ad 52))]) rfl ?_
  refine y_aload_n d_Mm_pour_0 rfl 0 rfl ?_
  refine y_iconst d_Mm_pour_1 (v := 0) (by decide) ?_
  refine y_put fp_Mm_84 d_Mm_pour_2 (fun h => nomatch h) rfl rfl (q0 := 0) rfl (Nat.le_of_ble_eq_true rfl) (cs' := [((ad 52), .inr (12, [.int 0, .ref (ad 53), .int (nI ((t.1 52).2.2 0)), .ref (ad 54), .ref (ad 55), .ref (ad 56), .ref (ad 57), .ref (ad 58), .ref (ad 59), .ref (ad 60), .ref (ad 61), .int ((t.1 52).1 0), .int ((t.1 52).1 1), .int ((t.1 52).1 2), .int ((t.1 52).1 3), .int ((t.1 52).1 4), .int ((t.1 52).1 5), .ref (ad 62), .ref (ad 63), .ref (ad 64), .int ((t.1 52).1 6), .int ((t.1 52).1 7), .int ((t.1 52).1 8), .int ((t.1 52).1 9), .int ((t.1 52).1 10), .ref (ad 65), .ref (ad 66), .ref (ad 67), .ref (ad 68), .long ((t.1 52).2.1 0), .long ((t.1 52).2.1 1)])), ((ad 63), .inl (0, 4, .inl ((t.1 63).1))), ((ad 64), .inl (3, 16, .inr (.inl ((t.1 64).2.1)))), ((ad 54), .inl (0, 108, .inl v_mf_f)), ((ad 55), .inl (0, 108, .inl v_mh_f)), ((ad 56), .inl (0, 108, .inl v_mn_f)), ((ad 57), .inl (0, 108, .inl v_mt_f)), ((ad 58), .inl (0, 108, .inl v_mz_f)), ((ad 59), .inl (2, 108, .inl v_mc__f)), ((ad 60), .inl (0, 108, .inl (fun k => nI (v_mq_h k)))), ((ad 61), .inl (0, 108, .inl v_mgr_f))]) rfl ?_
  refine y_aload_n d_Mm_pour_5 rfl 0 rfl ?_
  refine y_aload_n d_Mm_pour_6 rfl 0 rfl ?_
  refine y_get fs_Mm_72 d_Mm_pour_7 (q0 := 0) rfl rfl ?_
  refine yw_callVL (As := []) (rest := [.ref (ad 52)]) (ci := 13) rfl (fun wA hA => ((hI.gen (t2 := t) (is := [52, 63, 64, 54, 55, 56, 57, 58, 59, 60, 61]) (L2 := []) hA rfl ⟨kd_52.mpr ⟨_, rfl⟩, kd_63.mpr rfl, kd_64.mpr rfl, kd_54.mpr ⟨_, rfl⟩, kd_55.mpr ⟨_, rfl⟩, kd_56.mpr ⟨_, rfl⟩, kd_57.mpr ⟨_, rfl⟩, kd_58.mpr ⟨_, rfl⟩, kd_59.mpr ⟨_, rfl⟩, kd_60.mpr ⟨_, rfl⟩, kd_61.mpr ⟨_, rfl⟩, trivial⟩ (by decide) (by decide) (fun _ h => nomatch h) (fun _ h => nomatch h) (fun _ _ _ => rfl) (fun h => h) rfl).2.1.1 3 (by decide)).ob) ln_Mm_289 w_im_AL_isEmpty w_se_AL_isEmpty ok_Mm_pour_AL_isEmpty d_Mm_pour_10 (fun wA hA => Q_isEmpty ((hI.gen (t2 := t) (is := [52, 63, 64, 54, 55, 56, 57, 58, 59, 60, 61]) (L2 := []) hA rfl ⟨kd_52.mpr ⟨_, rfl⟩, kd_63.mpr rfl, kd_64.mpr rfl, kd_54.mpr ⟨_, rfl⟩, kd_55.mpr ⟨_, rfl⟩, kd_56.mpr ⟨_, rfl⟩, kd_57.mpr ⟨_, rfl⟩, kd_58.mpr ⟨_, rfl⟩, kd_59.mpr ⟨_, rfl⟩, kd_60.mpr ⟨_, rfl⟩, kd_61.mpr ⟨_, rfl⟩, trivial⟩ (by decide) (by decide) (fun _ h => nomatch h) (fun _ h => nomatch h) (fun _ _ _ => rfl) (fun h => h) rfl).2.1.1 3 (by decide))) rfl rfl (Nat.le_of_ble_eq_true rfl) (by omega) (by omega) (fun wA10 hA10 E wB10 hx => ?_) (fun wA10 hA10 v wB10 hx => ?_)
  · exact absurd hx.1 (by simp)
  · obtain ⟨e1, e2⟩ := hx
    rw [if_neg h0] at e1
    cases e1
    refine yw_st (st2 := [.int 0, .ref (ad 52)]) rfl ?_
    subst e2
    refine y_go hA10 ?_
    refine y_iconst d_Mm_pour_13 (v := 1) (by decide) ?_
    refine y_callV (As := [.int 0, .int 1]) (rest := []) (csC := [((ad 52), .inr (12, [.int 0, .ref (ad 53), .int (nI ((t.1 52).2.2 0)), .ref (ad 54), .ref (ad 55), .ref (ad 56), .ref (ad 57), .ref (ad 58), .ref (ad 59), .ref (ad 60), .ref (ad 61), .int ((t.1 52).1 0), .int ((t.1 52).1 1), .int ((t.1 52).1 2), .int ((t.1 52).1 3), .int ((t.1 52).1 4), .int ((t.1 52).1 5), .ref (ad 62), .ref (ad 63), .ref (ad 64), .int ((t.1 52).1 6), .int ((t.1 52).1 7), .int ((t.1 52).1 8), .int ((t.1 52).1 9), .int ((t.1 52).1 10), .ref (ad 65), .ref (ad 66), .ref (ad 67), .ref (ad 68), .long ((t.1 52).2.1 0), .long ((t.1 52).2.1 1)]))]) (is := [0]) (q0 := 0) rfl rfl ln_Mm_103 w_im_Mm_fails w_se_Mm_fails ok_Mm_pour_Mm_fails d_Mm_pour_14 (C_Mm_fails0 g (ad 52) (ad 53) (ad 54) (ad 55) (ad 56) (ad 57) (ad 58) (ad 59) (ad 60) (ad 61) (ad 62) (ad 63) (ad 64) (ad 65) (ad 66) (ad 67) (ad 68) 0 (nI ((t.1 52).2.2 0)) ((t.1 52).1 0) ((t.1 52).1 1) ((t.1 52).1 2) ((t.1 52).1 3) ((t.1 52).1 4) ((t.1 52).1 5) ((t.1 52).1 6) ((t.1 52).1 7) ((t.1 52).1 8) ((t.1 52).1 9) ((t.1 52).1 10) ((t.1 52).2.1 0) ((t.1 52).2.1 1) 1) rfl rfl (Nat.le_of_ble_eq_true rfl) rfl (by decide) (by omega) (by omega) (fun E cs1 hx => ?_) (fun v cs1 hx => ?_)
    · exact absurd hx.1 (by simp)
    · obtain ⟨e1, rfl⟩ := hx
      cases e1
      refine ⟨rfl, ?_⟩
      refine y_st (st2 := [.int 0]) rfl ?_
      refine y_cs (cs2 := [((ad 52), .inr (12, [.int 0, .ref (ad 53), .int (nI ((t.1 52).2.2 0)), .ref (ad 54), .ref (ad 55), .ref (ad 56), .ref (ad 57), .ref (ad 58), .ref (ad 59), .ref (ad 60), .ref (ad 61), .int ((t.1 52).1 0), .int ((t.1 52).1 1), .int ((t.1 52).1 2), .int ((t.1 52).1 3), .int ((t.1 52).1 4), .int ((t.1 52).1 5), .ref (ad 62), .ref (ad 63), .ref (ad 64), .int ((t.1 52).1 6), .int ((t.1 52).1 7), .int ((t.1 52).1 8), .int ((t.1 52).1 9), .int ((t.1 52).1 10), .ref (ad 65), .ref (ad 66), .ref (ad 67), .ref (ad 68), .long ((t.1 52).2.1 0), .long ((t.1 52).2.1 1)])), ((ad 63), .inl (0, 4, .inl ((t.1 63).1))), ((ad 64), .inl (3, 16, .inr (.inl ((t.1 64).2.1)))), ((ad 54), .inl (0, 108, .inl v_mf_f)), ((ad 55), .inl (0, 108, .inl v_mh_f)), ((ad 56), .inl (0, 108, .inl v_mn_f)), ((ad 57), .inl (0, 108, .inl v_mt_f)), ((ad 58), .inl (0, 108, .inl v_mz_f)), ((ad 59), .inl (2, 108, .inl v_mc__f)), ((ad 60), .inl (0, 108, .inl (fun k => nI (v_mq_h k)))), ((ad 61), .inl (0, 108, .inl v_mgr_f))]) rfl ?_
      refine y_if_ne (tgt := 77) d_Mm_pour_17 (by decide) (fun c_17 => ?_) (fun c_17 => ?_)
      · exact absurd c_17 (by decide)
      · refine y_aload_n d_Mm_pour_20 rfl 0 rfl ?_
        refine y_aload_n d_Mm_pour_21 rfl 0 rfl ?_
        refine y_get fs_Mm_62 d_Mm_pour_22 (q0 := 0) rfl rfl ?_
        refine y_iconst d_Mm_pour_25 (v := 1) (by decide) ?_
        refine y_iald d_Mm_pour_26 (q0 := 1) rfl (fun q => q.elim (by decide) (by decide)) (v := ((t.1 63).1) 1) rfl ?_
        refine y_if_eq (tgt := 40) d_Mm_pour_27 (by decide) (fun c_27 => ?_) (fun c_27 => ?_)
        · exact absurd c_27 h1
        · refine y_aload_n d_Mm_pour_30 rfl 0 rfl ?_
          refine y_get fs_Mm_257 d_Mm_pour_31 (q0 := 0) rfl rfl ?_
          refine y_sipush d_Mm_pour_34 (v := 1250) (by decide) ?_
          refine y_icmp_ge (tgt := 44) d_Mm_pour_37 (by decide) (fun c_37 => ?_) (fun c_37 => ?_)
          · refine y_iconst d_Mm_pour_44 (v := 0) (by decide) ?_
            refine y_iconst d_Mm_pour_45 (v := 2) (by decide) ?_
            refine y_callV (As := [.int 0, .int 2]) (rest := []) (csC := [((ad 52), .inr (12, [.int 0, .ref (ad 53), .int (nI ((t.1 52).2.2 0)), .ref (ad 54), .ref (ad 55), .ref (ad 56), .ref (ad 57), .ref (ad 58), .ref (ad 59), .ref (ad 60), .ref (ad 61), .int ((t.1 52).1 0), .int ((t.1 52).1 1), .int ((t.1 52).1 2), .int ((t.1 52).1 3), .int ((t.1 52).1 4), .int ((t.1 52).1 5), .ref (ad 62), .ref (ad 63), .ref (ad 64), .int ((t.1 52).1 6), .int ((t.1 52).1 7), .int ((t.1 52).1 8), .int ((t.1 52).1 9), .int ((t.1 52).1 10), .ref (ad 65), .ref (ad 66), .ref (ad 67), .ref (ad 68), .long ((t.1 52).2.1 0), .long ((t.1 52).2.1 1)]))]) (is := [0]) (q0 := 0) rfl rfl ln_Mm_103 w_im_Mm_fails w_se_Mm_fails ok_Mm_pour_Mm_fails d_Mm_pour_46 (C_Mm_fails0 g (ad 52) (ad 53) (ad 54) (ad 55) (ad 56) (ad 57) (ad 58) (ad 59) (ad 60) (ad 61) (ad 62) (ad 63) (ad 64) (ad 65) (ad 66) (ad 67) (ad 68) 0 (nI ((t.1 52).2.2 0)) ((t.1 52).1 0) ((t.1 52).1 1) ((t.1 52).1 2) ((t.1 52).1 3) ((t.1 52).1 4) ((t.1 52).1 5) ((t.1 52).1 6) ((t.1 52).1 7) ((t.1 52).1 8) ((t.1 52).1 9) ((t.1 52).1 10) ((t.1 52).2.1 0) ((t.1 52).2.1 1) 2) rfl rfl (Nat.le_of_ble_eq_true rfl) rfl (by decide) (by omega) (by omega) (fun E cs1 hx => ?_) (fun v cs1 hx => ?_)
            · exact absurd hx.1 (by simp)
            · obtain ⟨e1, rfl⟩ := hx
              cases e1
              refine ⟨rfl, ?_⟩
              refine y_st (st2 := [.int 0]) rfl ?_
              refine y_cs (cs2 := [((ad 52), .inr (12, [.int 0, .ref (ad 53), .int (nI ((t.1 52).2.2 0)), .ref (ad 54), .ref (ad 55), .ref (ad 56), .ref (ad 57), .ref (ad 58), .ref (ad 59), .ref (ad 60), .ref (ad 61), .int ((t.1 52).1 0), .int ((t.1 52).1 1), .int ((t.1 52).1 2), .int ((t.1 52).1 3), .int ((t.1 52).1 4), .int ((t.1 52).1 5), .ref (ad 62), .ref (ad 63), .ref (ad 64), .int ((t.1 52).1 6), .int ((t.1 52).1 7), .int ((t.1 52).1 8), .int ((t.1 52).1 9), .int ((t.1 52).1 10), .ref (ad 65), .ref (ad 66), .ref (ad 67), .ref (ad 68), .long ((t.1 52).2.1 0), .long ((t.1 52).2.1 1)])), ((ad 63), .inl (0, 4, .inl ((t.1 63).1))), ((ad 64), .inl (3, 16, .inr (.inl ((t.1 64).2.1)))), ((ad 54), .inl (0, 108, .inl v_mf_f)), ((ad 55), .inl (0, 108, .inl v_mh_f)), ((ad 56), .inl (0, 108, .inl v_mn_f)), ((ad 57), .inl (0, 108, .inl v_mt_f)), ((ad 58), .inl (0, 108, .inl v_mz_f)), ((ad 59), .inl (2, 108, .inl v_mc__f)), ((ad 60), .inl (0, 108, .inl (fun k => nI (v_mq_h k)))), ((ad 61), .inl (0, 108, .inl v_mgr_f))]) rfl ?_
              refine y_if_ne (tgt := 77) d_Mm_pour_49 (by decide) (fun c_49 => ?_) (fun c_49 => ?_)
              · exact absurd c_49 (by decide)
              · refine y_aload_n d_Mm_pour_52 rfl 0 rfl ?_
                refine y_aload_n d_Mm_pour_53 rfl 0 rfl ?_
                refine y_get fs_Mm_78 d_Mm_pour_54 (q0 := 0) rfl rfl ?_
                refine yw_callVL (As := []) (rest := [.ref (ad 52)]) (ci := 13) rfl (fun wA hA => ((hI.gen (t2 := t) (is := [52, 63, 64, 54, 55, 56, 57, 58, 59, 60, 61]) (L2 := []) hA rfl ⟨kd_52.mpr ⟨_, rfl⟩, kd_63.mpr rfl, kd_64.mpr rfl, kd_54.mpr ⟨_, rfl⟩, kd_55.mpr ⟨_, rfl⟩, kd_56.mpr ⟨_, rfl⟩, kd_57.mpr ⟨_, rfl⟩, kd_58.mpr ⟨_, rfl⟩, kd_59.mpr ⟨_, rfl⟩, kd_60.mpr ⟨_, rfl⟩, kd_61.mpr ⟨_, rfl⟩, trivial⟩ (by decide) (by decide) (fun _ h => nomatch h) (fun _ h => nomatch h) (fun _ _ _ => rfl) (fun h => h) rfl).2.1.1 5 (by decide)).ob) ln_Mm_208 w_im_AL_size w_se_AL_size ok_Mm_pour_AL_size d_Mm_pour_57 (fun wA hA => Q_size ((hI.gen (t2 := t) (is := [52, 63, 64, 54, 55, 56, 57, 58, 59, 60, 61]) (L2 := []) hA rfl ⟨kd_52.mpr ⟨_, rfl⟩, kd_63.mpr rfl, kd_64.mpr rfl, kd_54.mpr ⟨_, rfl⟩, kd_55.mpr ⟨_, rfl⟩, kd_56.mpr ⟨_, rfl⟩, kd_57.mpr ⟨_, rfl⟩, kd_58.mpr ⟨_, rfl⟩, kd_59.mpr ⟨_, rfl⟩, kd_60.mpr ⟨_, rfl⟩, kd_61.mpr ⟨_, rfl⟩, trivial⟩ (by decide) (by decide) (fun _ h => nomatch h) (fun _ h => nomatch h) (fun _ _ _ => rfl) (fun h => h) rfl).2.1.1 5 (by decide))) rfl rfl (Nat.le_of_ble_eq_true rfl) (by omega) (by omega) (fun wA57 hA57 E wB57 hx => ?_) (fun wA57 hA57 v wB57 hx => ?_)
                · exact absurd hx.1 (by simp)
                · obtain ⟨e1, e2⟩ := hx
                  cases e1
                  refine yw_st (st2 := [.int (nI (u.1 5)), .ref (ad 52)]) rfl ?_
                  subst e2
                  refine y_go hA57 ?_
                  refine y_bipush d_Mm_pour_60 (v := 30) (by decide) ?_
                  refine y_icmp_ne (tgt := 69) d_Mm_pour_62 (by decide) (fun c_62 => ?_) (fun c_62 => ?_)
                  · exact absurd (by rw [h3]; rfl) c_62
                  · refine y_iconst d_Mm_pour_65 (v := 1) (by decide) ?_
                    refine y_goto (tgt := 70) d_Mm_pour_66 (by decide) ?_
                    refine y_iconst d_Mm_pour_70 (v := 3) (by decide) ?_
                    refine y_callV (As := [.int 1, .int 3]) (rest := []) (csC := [((ad 52), .inr (12, [.int 0, .ref (ad 53), .int (nI ((t.1 52).2.2 0)), .ref (ad 54), .ref (ad 55), .ref (ad 56), .ref (ad 57), .ref (ad 58), .ref (ad 59), .ref (ad 60), .ref (ad 61), .int ((t.1 52).1 0), .int ((t.1 52).1 1), .int ((t.1 52).1 2), .int ((t.1 52).1 3), .int ((t.1 52).1 4), .int ((t.1 52).1 5), .ref (ad 62), .ref (ad 63), .ref (ad 64), .int ((t.1 52).1 6), .int ((t.1 52).1 7), .int ((t.1 52).1 8), .int ((t.1 52).1 9), .int ((t.1 52).1 10), .ref (ad 65), .ref (ad 66), .ref (ad 67), .ref (ad 68), .long ((t.1 52).2.1 0), .long ((t.1 52).2.1 1)]))]) (is := [0]) (q0 := 0) rfl rfl ln_Mm_103 w_im_Mm_fails w_se_Mm_fails ok_Mm_pour_Mm_fails d_Mm_pour_71 (C_Mm_fails3 g (ad 52) (ad 53) (ad 54) (ad 55) (ad 56) (ad 57) (ad 58) (ad 59) (ad 60) (ad 61) (ad 62) (ad 63) (ad 64) (ad 65) (ad 66) (ad 67) (ad 68) 0 (nI ((t.1 52).2.2 0)) ((t.1 52).1 0) ((t.1 52).1 1) ((t.1 52).1 2) ((t.1 52).1 3) ((t.1 52).1 4) ((t.1 52).1 5) ((t.1 52).1 6) ((t.1 52).1 7) ((t.1 52).1 8) ((t.1 52).1 9) ((t.1 52).1 10) ((t.1 52).2.1 0) ((t.1 52).2.1 1)) rfl rfl (Nat.le_of_ble_eq_true rfl) rfl (by decide) (by omega) (by omega) (fun E cs1 hx => ?_) (fun v cs1 hx => ?_)
                    · exact absurd hx.1 (by simp)
                    · obtain ⟨e1, rfl⟩ := hx
                      cases e1
                      refine ⟨rfl, ?_⟩
                      refine y_st (st2 := [.int 1]) rfl ?_
                      refine y_cs (cs2 := [((ad 52), .inr (12, [.int 3, .ref (ad 53), .int (nI ((t.1 52).2.2 0)), .ref (ad 54), .ref (ad 55), .ref (ad 56), .ref (ad 57), .ref (ad 58), .ref (ad 59), .ref (ad 60), .ref (ad 61), .int ((t.1 52).1 0), .int ((t.1 52).1 1), .int ((t.1 52).1 2), .int ((t.1 52).1 3), .int ((t.1 52).1 4), .int ((t.1 52).1 5), .ref (ad 62), .ref (ad 63), .ref (ad 64), .int ((t.1 52).1 6), .int ((t.1 52).1 7), .int ((t.1 52).1 8), .int ((t.1 52).1 9), .int ((t.1 52).1 10), .ref (ad 65), .ref (ad 66), .ref (ad 67), .ref (ad 68), .long ((t.1 52).2.1 0), .long ((t.1 52).2.1 1)])), ((ad 63), .inl (0, 4, .inl ((t.1 63).1))), ((ad 64), .inl (3, 16, .inr (.inl ((t.1 64).2.1)))), ((ad 54), .inl (0, 108, .inl v_mf_f)), ((ad 55), .inl (0, 108, .inl v_mh_f)), ((ad 56), .inl (0, 108, .inl v_mn_f)), ((ad 57), .inl (0, 108, .inl v_mt_f)), ((ad 58), .inl (0, 108, .inl v_mz_f)), ((ad 59), .inl (2, 108, .inl v_mc__f)), ((ad 60), .inl (0, 108, .inl (fun k => nI (v_mq_h k)))), ((ad 61), .inl (0, 108, .inl v_mgr_f))]) rfl ?_
                      refine y_if_eq (tgt := 79) d_Mm_pour_74 (by decide) (fun c_74 => ?_) (fun c_74 => ?_)
                      · exact absurd c_74 (by decide)
                      · refine y_iconst d_Mm_pour_77 (v := 0) (by decide) ?_
                        refine y_iret d_Mm_pour_78 rfl rfl ?_
                        exact fun w1 h1 => ⟨rfl, (hI.gen (t2 := t) (is := [52, 63, 64, 54, 55, 56, 57, 58, 59, 60, 61]) (L2 := []) h1 rfl ⟨kd_52.mpr ⟨_, rfl⟩, kd_63.mpr rfl, kd_64.mpr rfl, kd_54.mpr ⟨_, rfl⟩, kd_55.mpr ⟨_, rfl⟩, kd_56.mpr ⟨_, rfl⟩, kd_57.mpr ⟨_, rfl⟩, kd_58.mpr ⟨_, rfl⟩, kd_59.mpr ⟨_, rfl⟩, kd_60.mpr ⟨_, rfl⟩, kd_61.mpr ⟨_, rfl⟩, trivial⟩ (by decide) (by decide) (fun _ h => nomatch h) (fun _ h => nomatch h) (fun _ _ _ => rfl) (fun h => h) rfl)⟩
          · exact absurd h2 c_37
theorem d_Mm_pour_69 : decode prog_14_method_77_code 69 = .ok (.iconst 0, 1) := zo_3 (zd_b zq_prog_14_method_77_code_2 5 rfl rfl rfl)
theorem d_Mm_pour_79 : decode prog_14_method_77_code 79 = .ok (.aload_n 0, 1) := zo_42 (zd_b zq_prog_14_method_77_code_2 15 rfl rfl rfl)
theorem d_Mm_pour_80 : decode prog_14_method_77_code 80 = .ok (.getfield 72, 3) := zo_180 (d := 0) (e := 72) (zd_b zq_prog_14_method_77_code_2 16 rfl rfl rfl) (zd_b zq_prog_14_method_77_code_2 17 rfl rfl rfl) (zd_b zq_prog_14_method_77_code_2 18 rfl rfl rfl)
theorem d_Mm_pour_83 : decode prog_14_method_77_code 83 = .ok (.iconst 0, 1) := zo_3 (zd_b zq_prog_14_method_77_code_2 19 rfl rfl rfl)
theorem d_Mm_pour_84 : decode prog_14_method_77_code 84 = .ok (.invokevirtual 229, 3) := zo_182 (d := 0) (e := 229) (zd_b zq_prog_14_method_77_code_2 20 rfl rfl rfl) (zd_b zq_prog_14_method_77_code_2 21 rfl rfl rfl) (zd_b zq_prog_14_method_77_code_2 22 rfl rfl rfl)
theorem ok_Mm_pour_AL_remove : z_ok M_Mm_pour M_AL_remove 1 := ⟨z_mj6 (i := 122) rfl (by decide +kernel), rfl, ⟨by decide +kernel, by decide +kernel, by decide +kernel⟩, ⟨by decide, by decide⟩, z_mj1 (i := 13) rfl (by decide +kernel), rfl⟩
theorem d_Mm_pour_87 : decode prog_14_method_77_code 87 = .ok (.checkcast 292, 3) := zo_192 (d := 1) (e := 36) (zd_b zq_prog_14_method_77_code_2 23 rfl rfl rfl) (zd_b zq_prog_14_method_77_code_2 24 rfl rfl rfl) (zd_b zq_prog_14_method_77_code_2 25 rfl rfl rfl)
theorem lk_Mm_292 : Cond.classLink "IronpourModel" 292 (z_an 1) ∈ z_gw := z_mj9 (i := 1) rfl (by decide +kernel)
theorem d_Mm_pour_90 : decode prog_14_method_77_code 90 = .ok (.astore_n 1, 1) := zo_76 (zd_b zq_prog_14_method_77_code_2 26 rfl rfl rfl)
theorem d_Mm_pour_91 : decode prog_14_method_77_code 91 = .ok (.aload_n 0, 1) := zo_42 (zd_b zq_prog_14_method_77_code_2 27 rfl rfl rfl)
theorem d_Mm_pour_92 : decode prog_14_method_77_code 92 = .ok (.getfield 75, 3) := zo_180 (d := 0) (e := 75) (zd_b zq_prog_14_method_77_code_2 28 rfl rfl rfl) (zd_b zq_prog_14_method_77_code_2 29 rfl rfl rfl) (zd_b zq_prog_14_method_77_code_2 30 rfl rfl rfl)
theorem d_Mm_pour_95 : decode prog_14_method_77_code 95 = .ok (.iconst 0, 1) := zo_3 (zd_b zq_prog_14_method_77_code_2 31 rfl rfl rfl)
theorem d_Mm_pour_96 : decode prog_14_method_77_code 96 = .ok (.invokevirtual 229, 3) := zo_182 (d := 0) (e := 229) (zd_b zq_prog_14_method_77_code_3 0 rfl rfl rfl) (zd_b zq_prog_14_method_77_code_3 1 rfl rfl rfl) (zd_b zq_prog_14_method_77_code_3 2 rfl rfl rfl)
theorem d_Mm_pour_99 : decode prog_14_method_77_code 99 = .ok (.checkcast 215, 3) := zo_192 (d := 0) (e := 215) (zd_b zq_prog_14_method_77_code_3 3 rfl rfl rfl) (zd_b zq_prog_14_method_77_code_3 4 rfl rfl rfl) (zd_b zq_prog_14_method_77_code_3 5 rfl rfl rfl)
theorem d_Mm_pour_102 : decode prog_14_method_77_code 102 = .ok (.astore_n 2, 1) := zo_77 (zd_b zq_prog_14_method_77_code_3 6 rfl rfl rfl)
theorem d_Mm_pour_103 : decode prog_14_method_77_code 103 = .ok (.iconst 2, 1) := zo_5 (zd_b zq_prog_14_method_77_code_3 7 rfl rfl rfl)
theorem d_Mm_pour_104 : decode prog_14_method_77_code 104 = .ok (.aload_n 1, 1) := zo_43 (zd_b zq_prog_14_method_77_code_3 8 rfl rfl rfl)
theorem d_Mm_pour_105 : decode prog_14_method_77_code 105 = .ok (.invokestatic 134, 3) := zo_184 (d := 0) (e := 134) (zd_b zq_prog_14_method_77_code_3 9 rfl rfl rfl) (zd_b zq_prog_14_method_77_code_3 10 rfl rfl rfl) (zd_b zq_prog_14_method_77_code_3 11 rfl rfl rfl)
theorem ok_Mm_pour_Mm_cellsIn : z_ok M_Mm_pour M_Mm_cellsIn 1 := ⟨z_mj8 (i := 7) rfl (by decide +kernel), rfl, ⟨by decide +kernel, by decide +kernel, by decide +kernel⟩, ⟨by decide, by decide⟩, z_mj1 (i := 14) rfl (by decide +kernel), rfl⟩
theorem d_Mm_pour_108 : decode prog_14_method_77_code 108 = .ok (.imul, 1) := zo_104 (zd_b zq_prog_14_method_77_code_3 12 rfl rfl rfl)
theorem d_Mm_pour_109 : decode prog_14_method_77_code 109 = .ok (.istore_n 3, 1) := zo_62 (zd_b zq_prog_14_method_77_code_3 13 rfl rfl rfl)
theorem d_Mm_pour_110 : decode prog_14_method_77_code 110 = .ok (.iload_n 3, 1) := zo_29 (zd_b zq_prog_14_method_77_code_3 14 rfl rfl rfl)
theorem d_Mm_pour_111 : decode prog_14_method_77_code 111 = .ok (.aload_n 0, 1) := zo_42 (zd_b zq_prog_14_method_77_code_3 15 rfl rfl rfl)
theorem d_Mm_pour_112 : decode prog_14_method_77_code 112 = .ok (.getfield 62, 3) := zo_180 (d := 0) (e := 62) (zd_b zq_prog_14_method_77_code_3 16 rfl rfl rfl) (zd_b zq_prog_14_method_77_code_3 17 rfl rfl rfl) (zd_b zq_prog_14_method_77_code_3 18 rfl rfl rfl)
theorem d_Mm_pour_115 : decode prog_14_method_77_code 115 = .ok (.iconst 1, 1) := zo_4 (zd_b zq_prog_14_method_77_code_3 19 rfl rfl rfl)
theorem d_Mm_pour_116 : decode prog_14_method_77_code 116 = .ok (.iaload, 1) := zo_46 (zd_b zq_prog_14_method_77_code_3 20 rfl rfl rfl)
theorem d_Mm_pour_117 : decode prog_14_method_77_code 117 = .ok (.invokestatic 182, 3) := zo_184 (d := 0) (e := 182) (zd_b zq_prog_14_method_77_code_3 21 rfl rfl rfl) (zd_b zq_prog_14_method_77_code_3 22 rfl rfl rfl) (zd_b zq_prog_14_method_77_code_3 23 rfl rfl rfl)
theorem d_Mm_pour_120 : decode prog_14_method_77_code 120 = .ok (.istore 4, 2) := zo_54 (d := 4) (zd_b zq_prog_14_method_77_code_3 24 rfl rfl rfl) (zd_b zq_prog_14_method_77_code_3 25 rfl rfl rfl)
theorem d_Mm_pour_122 : decode prog_14_method_77_code 122 = .ok (.bipush 6, 2) := zo_16 (d := 6) (zd_b zq_prog_14_method_77_code_3 26 rfl rfl rfl) (zd_b zq_prog_14_method_77_code_3 27 rfl rfl rfl) (by decide +kernel)
theorem d_Mm_pour_124 : decode prog_14_method_77_code 124 = .ok (.newarray .int, 2) := by decide +kernel
theorem d_Mm_pour_126 : decode prog_14_method_77_code 126 = .ok (.astore 5, 2) := zo_58 (d := 5) (zd_b zq_prog_14_method_77_code_3 30 rfl rfl rfl) (zd_b zq_prog_14_method_77_code_3 31 rfl rfl rfl)
theorem d_Mm_pour_128 : decode prog_14_method_77_code 128 = .ok (.iconst 4, 1) := zo_7 (zd_b zq_prog_14_method_77_code_4 0 rfl rfl rfl)
theorem d_Mm_pour_129 : decode prog_14_method_77_code 129 = .ok (.newarray .long, 2) := by decide +kernel
theorem d_Mm_pour_131 : decode prog_14_method_77_code 131 = .ok (.astore 6, 2) := zo_58 (d := 6) (zd_b zq_prog_14_method_77_code_4 3 rfl rfl rfl) (zd_b zq_prog_14_method_77_code_4 4 rfl rfl rfl)
theorem d_Mm_pour_133 : decode prog_14_method_77_code 133 = .ok (.aload_n 0, 1) := zo_42 (zd_b zq_prog_14_method_77_code_4 5 rfl rfl rfl)
theorem d_Mm_pour_134 : decode prog_14_method_77_code 134 = .ok (.getfield 62, 3) := zo_180 (d := 0) (e := 62) (zd_b zq_prog_14_method_77_code_4 6 rfl rfl rfl) (zd_b zq_prog_14_method_77_code_4 7 rfl rfl rfl) (zd_b zq_prog_14_method_77_code_4 8 rfl rfl rfl)
theorem d_Mm_pour_137 : decode prog_14_method_77_code 137 = .ok (.iconst 1, 1) := zo_4 (zd_b zq_prog_14_method_77_code_4 9 rfl rfl rfl)
theorem d_Mm_pour_138 : decode prog_14_method_77_code 138 = .ok (.iaload, 1) := zo_46 (zd_b zq_prog_14_method_77_code_4 10 rfl rfl rfl)
theorem d_Mm_pour_139 : decode prog_14_method_77_code 139 = .ok (.istore 7, 2) := zo_54 (d := 7) (zd_b zq_prog_14_method_77_code_4 11 rfl rfl rfl) (zd_b zq_prog_14_method_77_code_4 12 rfl rfl rfl)
theorem d_Mm_pour_141 : decode prog_14_method_77_code 141 = .ok (.iconst 0, 1) := zo_3 (zd_b zq_prog_14_method_77_code_4 13 rfl rfl rfl)
theorem d_Mm_pour_142 : decode prog_14_method_77_code 142 = .ok (.istore 8, 2) := zo_54 (d := 8) (zd_b zq_prog_14_method_77_code_4 14 rfl rfl rfl) (zd_b zq_prog_14_method_77_code_4 15 rfl rfl rfl)
theorem d_Mm_pour_195 : decode prog_14_method_77_code 195 = .ok (.aload_n 0, 1) := zo_42 (zd_b zq_prog_14_method_77_code_6 3 rfl rfl rfl)
theorem d_Mm_pour_196 : decode prog_14_method_77_code 196 = .ok (.getfield 62, 3) := zo_180 (d := 0) (e := 62) (zd_b zq_prog_14_method_77_code_6 4 rfl rfl rfl) (zd_b zq_prog_14_method_77_code_6 5 rfl rfl rfl) (zd_b zq_prog_14_method_77_code_6 6 rfl rfl rfl)
theorem d_Mm_pour_199 : decode prog_14_method_77_code 199 = .ok (.iconst 1, 1) := zo_4 (zd_b zq_prog_14_method_77_code_6 7 rfl rfl rfl)
theorem d_Mm_pour_200 : decode prog_14_method_77_code 200 = .ok (.dup2, 1) := zo_92 (zd_b zq_prog_14_method_77_code_6 8 rfl rfl rfl)
theorem d_Mm_pour_201 : decode prog_14_method_77_code 201 = .ok (.iaload, 1) := zo_46 (zd_b zq_prog_14_method_77_code_6 9 rfl rfl rfl)
theorem d_Mm_pour_202 : decode prog_14_method_77_code 202 = .ok (.iload 4, 2) := zo_21 (d := 4) (zd_b zq_prog_14_method_77_code_6 10 rfl rfl rfl) (zd_b zq_prog_14_method_77_code_6 11 rfl rfl rfl)
theorem d_Mm_pour_204 : decode prog_14_method_77_code 204 = .ok (.isub, 1) := zo_100 (zd_b zq_prog_14_method_77_code_6 12 rfl rfl rfl)
theorem d_Mm_pour_205 : decode prog_14_method_77_code 205 = .ok (.iastore, 1) := zo_79 (zd_b zq_prog_14_method_77_code_6 13 rfl rfl rfl)
theorem d_Mm_pour_206 : decode prog_14_method_77_code 206 = .ok (.aload_n 0, 1) := zo_42 (zd_b zq_prog_14_method_77_code_6 14 rfl rfl rfl)
theorem d_Mm_pour_207 : decode prog_14_method_77_code 207 = .ok (.dup, 1) := zo_89 (zd_b zq_prog_14_method_77_code_6 15 rfl rfl rfl)
theorem d_Mm_pour_208 : decode prog_14_method_77_code 208 = .ok (.getfield 293, 3) := zo_180 (d := 1) (e := 37) (zd_b zq_prog_14_method_77_code_6 16 rfl rfl rfl) (zd_b zq_prog_14_method_77_code_6 17 rfl rfl rfl) (zd_b zq_prog_14_method_77_code_6 18 rfl rfl rfl)
theorem d_Mm_pour_211 : decode prog_14_method_77_code 211 = .ok (.iload 4, 2) := zo_21 (d := 4) (zd_b zq_prog_14_method_77_code_6 19 rfl rfl rfl) (zd_b zq_prog_14_method_77_code_6 20 rfl rfl rfl)
theorem d_Mm_pour_213 : decode prog_14_method_77_code 213 = .ok (.i2l, 1) := zo_133 (zd_b zq_prog_14_method_77_code_6 21 rfl rfl rfl)
theorem d_Mm_pour_214 : decode prog_14_method_77_code 214 = .ok (.ladd, 1) := zo_97 (zd_b zq_prog_14_method_77_code_6 22 rfl rfl rfl)
theorem d_Mm_pour_215 : decode prog_14_method_77_code 215 = .ok (.putfield 293, 3) := zo_181 (d := 1) (e := 37) (zd_b zq_prog_14_method_77_code_6 23 rfl rfl rfl) (zd_b zq_prog_14_method_77_code_6 24 rfl rfl rfl) (zd_b zq_prog_14_method_77_code_6 25 rfl rfl rfl)
theorem fp_Mm_293 : z_fp "IronpourModel" 293 12 29 false .long := ⟨R_Mm, "IronpourModel", F_Mm, 31, t_Mm, rfl, u_Mm, by decide, t_Mm_ok, n_Mm, rfl, rfl, Or.inl ⟨z_mj7 (i := 112) rfl (by decide +kernel), Or.inl rfl, fun h => nomatch h⟩⟩
theorem d_Mm_pour_218 : decode prog_14_method_77_code 218 = .ok (.aload 5, 2) := zo_25 (d := 5) (zd_b zq_prog_14_method_77_code_6 26 rfl rfl rfl) (zd_b zq_prog_14_method_77_code_6 27 rfl rfl rfl)
theorem d_Mm_pour_220 : decode prog_14_method_77_code 220 = .ok (.iconst 0, 1) := zo_3 (zd_b zq_prog_14_method_77_code_6 28 rfl rfl rfl)
theorem d_Mm_pour_221 : decode prog_14_method_77_code 221 = .ok (.iload 4, 2) := zo_21 (d := 4) (zd_b zq_prog_14_method_77_code_6 29 rfl rfl rfl) (zd_b zq_prog_14_method_77_code_6 30 rfl rfl rfl)
theorem d_Mm_pour_223 : decode prog_14_method_77_code 223 = .ok (.iastore, 1) := zo_79 (zd_b zq_prog_14_method_77_code_6 31 rfl rfl rfl)
theorem d_Mm_pour_224 : decode prog_14_method_77_code 224 = .ok (.aload 5, 2) := zo_25 (d := 5) (zd_b zq_prog_14_method_77_code_7 0 rfl rfl rfl) (zd_b zq_prog_14_method_77_code_7 1 rfl rfl rfl)
theorem d_Mm_pour_226 : decode prog_14_method_77_code 226 = .ok (.iconst 1, 1) := zo_4 (zd_b zq_prog_14_method_77_code_7 2 rfl rfl rfl)
theorem d_Mm_pour_227 : decode prog_14_method_77_code 227 = .ok (.aload_n 0, 1) := zo_42 (zd_b zq_prog_14_method_77_code_7 3 rfl rfl rfl)
theorem d_Mm_pour_228 : decode prog_14_method_77_code 228 = .ok (.getfield 260, 3) := zo_180 (d := 1) (e := 4) (zd_b zq_prog_14_method_77_code_7 4 rfl rfl rfl) (zd_b zq_prog_14_method_77_code_7 5 rfl rfl rfl) (zd_b zq_prog_14_method_77_code_7 6 rfl rfl rfl)
theorem d_Mm_pour_231 : decode prog_14_method_77_code 231 = .ok (.iastore, 1) := zo_79 (zd_b zq_prog_14_method_77_code_7 7 rfl rfl rfl)
theorem d_Mm_pour_232 : decode prog_14_method_77_code 232 = .ok (.aload 5, 2) := zo_25 (d := 5) (zd_b zq_prog_14_method_77_code_7 8 rfl rfl rfl) (zd_b zq_prog_14_method_77_code_7 9 rfl rfl rfl)
theorem d_Mm_pour_234 : decode prog_14_method_77_code 234 = .ok (.iconst 3, 1) := zo_6 (zd_b zq_prog_14_method_77_code_7 10 rfl rfl rfl)
theorem d_Mm_pour_235 : decode prog_14_method_77_code 235 = .ok (.aload_n 0, 1) := zo_42 (zd_b zq_prog_14_method_77_code_7 11 rfl rfl rfl)
theorem d_Mm_pour_236 : decode prog_14_method_77_code 236 = .ok (.aload_n 1, 1) := zo_43 (zd_b zq_prog_14_method_77_code_7 12 rfl rfl rfl)
theorem d_Mm_pour_237 : decode prog_14_method_77_code 237 = .ok (.aload_n 0, 1) := zo_42 (zd_b zq_prog_14_method_77_code_7 13 rfl rfl rfl)
theorem d_Mm_pour_238 : decode prog_14_method_77_code 238 = .ok (.getfield 257, 3) := zo_180 (d := 1) (e := 1) (zd_b zq_prog_14_method_77_code_7 14 rfl rfl rfl) (zd_b zq_prog_14_method_77_code_7 15 rfl rfl rfl) (zd_b zq_prog_14_method_77_code_7 16 rfl rfl rfl)
theorem d_Mm_pour_241 : decode prog_14_method_77_code 241 = .ok (.invokevirtual 173, 3) := zo_182 (d := 0) (e := 173) (zd_b zq_prog_14_method_77_code_7 17 rfl rfl rfl) (zd_b zq_prog_14_method_77_code_7 18 rfl rfl rfl) (zd_b zq_prog_14_method_77_code_7 19 rfl rfl rfl)
theorem ok_Mm_pour_Mm_shrunkOf : z_ok M_Mm_pour M_Mm_shrunkOf 2 := ⟨z_mj8 (i := 76) rfl (by decide +kernel), rfl, ⟨by decide +kernel, by decide +kernel, by decide +kernel⟩, ⟨by decide, by decide⟩, z_mj1 (i := 14) rfl (by decide +kernel), rfl⟩
theorem d_Mm_pour_244 : decode prog_14_method_77_code 244 = .ok (.iastore, 1) := zo_79 (zd_b zq_prog_14_method_77_code_7 20 rfl rfl rfl)
theorem d_Mm_pour_461 : decode prog_14_method_77_code 461 = .ok (.aload 5, 2) := zo_25 (d := 5) (zd_b zq_prog_14_method_77_code_14 13 rfl rfl rfl) (zd_b zq_prog_14_method_77_code_14 14 rfl rfl rfl)
theorem d_Mm_pour_463 : decode prog_14_method_77_code 463 = .ok (.iconst 2, 1) := zo_5 (zd_b zq_prog_14_method_77_code_14 15 rfl rfl rfl)
theorem d_Mm_pour_464 : decode prog_14_method_77_code 464 = .ok (.iload 11, 2) := zo_21 (d := 11) (zd_b zq_prog_14_method_77_code_14 16 rfl rfl rfl) (zd_b zq_prog_14_method_77_code_14 17 rfl rfl rfl)
theorem d_Mm_pour_466 : decode prog_14_method_77_code 466 = .ok (.iastore, 1) := zo_79 (zd_b zq_prog_14_method_77_code_14 18 rfl rfl rfl)
theorem d_Mm_pour_467 : decode prog_14_method_77_code 467 = .ok (.aload_n 0, 1) := zo_42 (zd_b zq_prog_14_method_77_code_14 19 rfl rfl rfl)
theorem d_Mm_pour_468 : decode prog_14_method_77_code 468 = .ok (.getfield 78, 3) := zo_180 (d := 0) (e := 78) (zd_b zq_prog_14_method_77_code_14 20 rfl rfl rfl) (zd_b zq_prog_14_method_77_code_14 21 rfl rfl rfl) (zd_b zq_prog_14_method_77_code_14 22 rfl rfl rfl)
theorem d_Mm_pour_471 : decode prog_14_method_77_code 471 = .ok (.aload 5, 2) := zo_25 (d := 5) (zd_b zq_prog_14_method_77_code_14 23 rfl rfl rfl) (zd_b zq_prog_14_method_77_code_14 24 rfl rfl rfl)
theorem d_Mm_pour_473 : decode prog_14_method_77_code 473 = .ok (.invokevirtual 219, 3) := zo_182 (d := 0) (e := 219) (zd_b zq_prog_14_method_77_code_14 25 rfl rfl rfl) (zd_b zq_prog_14_method_77_code_14 26 rfl rfl rfl) (zd_b zq_prog_14_method_77_code_14 27 rfl rfl rfl)
theorem ok_Mm_pour_AL_add_0 : z_ok M_Mm_pour M_AL_add_0 1 := ⟨z_mj6 (i := 34) rfl (by decide +kernel), rfl, ⟨by decide +kernel, by decide +kernel, by decide +kernel⟩, ⟨by decide, by decide⟩, z_mj1 (i := 13) rfl (by decide +kernel), rfl⟩
theorem d_Mm_pour_476 : decode prog_14_method_77_code 476 = .ok (.pop, 1) := zo_87 (zd_b zq_prog_14_method_77_code_14 28 rfl rfl rfl)
theorem d_Mm_pour_477 : decode prog_14_method_77_code 477 = .ok (.aload_n 0, 1) := zo_42 (zd_b zq_prog_14_method_77_code_14 29 rfl rfl rfl)
theorem d_Mm_pour_478 : decode prog_14_method_77_code 478 = .ok (.getfield 81, 3) := zo_180 (d := 0) (e := 81) (zd_b zq_prog_14_method_77_code_14 30 rfl rfl rfl) (zd_b zq_prog_14_method_77_code_14 31 rfl rfl rfl) (zd_b zq_prog_14_method_77_code_15 0 rfl rfl rfl)
theorem d_Mm_pour_481 : decode prog_14_method_77_code 481 = .ok (.aload 6, 2) := zo_25 (d := 6) (zd_b zq_prog_14_method_77_code_15 1 rfl rfl rfl) (zd_b zq_prog_14_method_77_code_15 2 rfl rfl rfl)
theorem d_Mm_pour_483 : decode prog_14_method_77_code 483 = .ok (.invokevirtual 219, 3) := zo_182 (d := 0) (e := 219) (zd_b zq_prog_14_method_77_code_15 3 rfl rfl rfl) (zd_b zq_prog_14_method_77_code_15 4 rfl rfl rfl) (zd_b zq_prog_14_method_77_code_15 5 rfl rfl rfl)
theorem d_Mm_pour_486 : decode prog_14_method_77_code 486 = .ok (.pop, 1) := zo_87 (zd_b zq_prog_14_method_77_code_15 6 rfl rfl rfl)
theorem d_Mm_pour_487 : decode prog_14_method_77_code 487 = .ok (.aload_n 0, 1) := zo_42 (zd_b zq_prog_14_method_77_code_15 7 rfl rfl rfl)
theorem d_Mm_pour_488 : decode prog_14_method_77_code 488 = .ok (.getfield 78, 3) := zo_180 (d := 0) (e := 78) (zd_b zq_prog_14_method_77_code_15 8 rfl rfl rfl) (zd_b zq_prog_14_method_77_code_15 9 rfl rfl rfl) (zd_b zq_prog_14_method_77_code_15 10 rfl rfl rfl)
theorem d_Mm_pour_491 : decode prog_14_method_77_code 491 = .ok (.invokevirtual 208, 3) := zo_182 (d := 0) (e := 208) (zd_b zq_prog_14_method_77_code_15 11 rfl rfl rfl) (zd_b zq_prog_14_method_77_code_15 12 rfl rfl rfl) (zd_b zq_prog_14_method_77_code_15 13 rfl rfl rfl)
theorem d_Mm_pour_494 : decode prog_14_method_77_code 494 = .ok (.iconst 1, 1) := zo_4 (zd_b zq_prog_14_method_77_code_15 14 rfl rfl rfl)
theorem d_Mm_pour_495 : decode prog_14_method_77_code 495 = .ok (.isub, 1) := zo_100 (zd_b zq_prog_14_method_77_code_15 15 rfl rfl rfl)
theorem d_Mm_pour_496 : decode prog_14_method_77_code 496 = .ok (.ireturn, 1) := zo_172 (zd_b zq_prog_14_method_77_code_15 16 rfl rfl rfl)
set_option maxHeartbeats 4000000 in
set_option maxRecDepth 100000 in
theorem Qx_Mm_pourN {g : zG} {ad : Nat → Nat} {t : zTT} {u : zNN} {w : zW} (hI : IV g ad t u w) (h0 : ¬ u.1 3 = 0) (h1 : ¬ (t.1 63).1 1 = 0) (h2 : 1250 ≤ (t.1 52).1 6) (h3 : ¬ u.1 5 = 30) (n0 : Nat → Nat) (hn0 : u.1 = n0) : zMB g M_Mm_pour [.ref (ad 52)] w (fun o w1 => ∃ (fl he nx mtt fz ic : Nat → Int32) (qn : Nat → Nat), o = .inl (some (.int (nI (n0 5 + 1) - 1))) ∧ ∃ u2 : zNN, u2.1 = z_upL (z_upL (z_upL (z_upL n0 3 (n0 3 - 1)) 4 (n0 4 - 1)) 5 (n0 5 + 1)) 6 (n0 6 + 1) ∧ IV g ad (pmT t (n0 5) (n0 6) (pSh t fl he nx mtt fz ic qn) (pFb t fl he nx mtt fz ic qn)) u2 w1) 4 76 := by
  obtain ⟨e_m, wf_m, k_m⟩ := hI.1.2 52 (by decide)
  obtain ⟨v_m_th, rfl⟩ := kd_52.mp k_m
  obtain ⟨e_mi, wf_mi, k_mi⟩ := hI.1.2 63 (by decide)
  obtain rfl := kd_63.mp k_mi
  obtain ⟨e_mr, wf_mr, k_mr⟩ := hI.1.2 64 (by decide)
  obtain rfl := kd_64.mp k_mr
  obtain ⟨e_mf, wf_mf, k_mf⟩ := hI.1.2 54 (by decide)
  obtain ⟨v_mf_f, rfl⟩ := kd_54.mp k_mf
  obtain ⟨e_mh, wf_mh, k_mh⟩ := hI.1.2 55 (by decide)
  obtain ⟨v_mh_f, rfl⟩ := kd_55.mp k_mh
  obtain ⟨e_mn, wf_mn, k_mn⟩ := hI.1.2 56 (by decide)
  obtain ⟨v_mn_f, rfl⟩ := kd_56.mp k_mn
  obtain ⟨e_mt, wf_mt, k_mt⟩ := hI.1.2 57 (by decide)
  obtain ⟨v_mt_f, rfl⟩ := kd_57.mp k_mt
  obtain ⟨e_mz, wf_mz, k_mz⟩ := hI.1.2 58 (by decide)
  obtain ⟨v_mz_f, rfl⟩ := kd_58.mp k_mz
  obtain ⟨e_mc_, wf_mc_, k_mc_⟩ := hI.1.2 59 (by decide)
  obtain ⟨v_mc__f, rfl⟩ := kd_59.mp k_mc_
  obtain ⟨e_mq, wf_mq, k_mq⟩ := hI.1.2 60 (by decide)
  obtain ⟨v_mq_h, rfl⟩ := kd_60.mp k_mq
  obtain ⟨e_mgr, wf_mgr, k_mgr⟩ := hI.1.2 61 (by decide)
  obtain ⟨v_mgr_f, rfl⟩ := kd_61.mp k_mgr
  have hsz0 := hI.sz
  obtain ⟨m9, hm9⟩ : ∃ m9, u.1 3 = m9 + 1 := ⟨u.1 3 - 1, by omega⟩
  have hm4 : u.1 4 = m9 + 1 := by have := hsz0.2.2.2.2.1; omega
  refine y_of (by decide) rfl (Nat.le_of_ble_eq_true rfl) (y_base (cs := [((ad 52), .inr (12, [.int v_m_th, .ref (ad 53), .int (nI ((t.1 52).2.2 0)), .ref (ad 54), .ref (ad 55), .ref (ad 56), .ref (ad 57), .ref (ad 58), .ref (ad 59), .ref (ad 60), .ref (ad 61), .int ((t.1 52).1 0), .int ((t.1 52).1 1), .int ((t.1 52).1 2), .int ((t.1 52).1 3), .int ((t.1 52).1 4), .int ((t.1 52).1 5), .ref (ad 62), .ref (ad 63), .ref (ad 64), .int ((t.1 52).1 6), .int ((t.1 52).1 7), .int ((t.1 52).1 8), .int ((t.1 52).1 9), .int ((t.1 52).1 10), .ref (ad 65), .ref (ad 66), .ref (ad 67), .ref (ad 68), .long ((t.1 52).2.1 0), .long ((t.1 52).2.1 1)])), ((ad 63), .inl (0, 4, .inl ((t.1 63).1))), ((ad 64), .inl (3, 16, .inr (.inl ((t.1 64).2.1)))), ((ad 54), .inl (0, 108, .inl v_mf_f)), ((ad 55), .inl (0, 108, .inl v_mh_f)), ((ad 56), .inl (0, 108, .inl v_mn_f)), ((ad 57), .inl (0, 108, .inl v_mt_f)), ((ad 58), .inl (0, 108, .inl v_mz_f)), ((ad 59), .inl (2, 108, .inl v_mc__f)), ((ad 60), .inl (0, 108, .inl (fun k => nI (v_mq_h k)))), ((ad 61), .inl (0, 108, .inl v_mgr_f))]) (hI.1.I [52, 63, 64, 54, 55, 56, 57, 58, 59, 60, 61] _ rfl (by decide) (by decide) (List.forall_mem_cons.mpr ⟨wf_m, (List.forall_mem_cons.mpr ⟨wf_mi, (List.forall_mem_cons.mpr ⟨wf_mr, (List.forall_mem_cons.mpr ⟨wf_mf, (List.forall_mem_cons.mpr ⟨wf_mh, (List.forall_mem_cons.mpr ⟨wf_mn, (List.forall_mem_cons.mpr ⟨wf_mt, (List.forall_mem_cons.mpr ⟨wf_mz, (List.forall_mem_cons.mpr ⟨wf_mc_, (List.forall_mem_cons.mpr ⟨wf_mq, (List.forall_mem_cons.mpr ⟨wf_mgr, (fun _ h => nomatch h)⟩)⟩)⟩)⟩)⟩)⟩)⟩)⟩)⟩)⟩)⟩)) ?_)
  refine y_lvE (lv2 := [(0, .ref (ad 52))]) rfl ?_
  refine y_aload_n d_Mm_pour_0 rfl 0 rfl ?_
  refine y_iconst d_Mm_pour_1 (v := 0) (by decide) ?_
  refine y_put fp_Mm_84 d_Mm_pour_2 (fun h => nomatch h) rfl rfl (q0 := 0) rfl (Nat.le_of_ble_eq_true rfl) (cs' := [((ad 52), .inr (12, [.int 0, .ref (ad 53), .int (nI ((t.1 52).2.2 0)), .ref (ad 54), .ref (ad 55), .ref (ad 56), .ref (ad 57), .ref (ad 58), .ref (ad 59), .ref (ad 60), .ref (ad 61), .int ((t.1 52).1 0), .int ((t.1 52).1 1), .int ((t.1 52).1 2), .int ((t.1 52).1 3), .int ((t.1 52).1 4), .int ((t.1 52).1 5), .ref (ad 62), .ref (ad 63), .ref (ad 64), .int ((t.1 52).1 6), .int ((t.1 52).1 7), .int ((t.1 52).1 8), .int ((t.1 52).1 9), .int ((t.1 52).1 10), .ref (ad 65), .ref (ad 66), .ref (ad 67), .ref (ad 68), .long ((t.1 52).2.1 0), .long ((t.1 52).2.1 1)])), ((ad 63), .inl (0, 4, .inl ((t.1 63).1))), ((ad 64), .inl (3, 16, .inr (.inl ((t.1 64).2.1)))), ((ad 54), .inl (0, 108, .inl v_mf_f)), ((ad 55), .inl (0, 108, .inl v_mh_f)), ((ad 56), .inl (0, 108, .inl v_mn_f)), ((ad 57), .inl (0, 108, .inl v_mt_f)), ((ad 58), .inl (0, 108, .inl v_mz_f)), ((ad 59), .inl (2, 108, .inl v_mc__f)), ((ad 60), .inl (0, 108, .inl (fun k => nI (v_mq_h k)))), ((ad 61), .inl (0, 108, .inl v_mgr_f))]) rfl ?_
  refine y_aload_n d_Mm_pour_5 rfl 0 rfl ?_
  refine y_aload_n d_Mm_pour_6 rfl 0 rfl ?_
  refine y_get fs_Mm_72 d_Mm_pour_7 (q0 := 0) rfl rfl ?_
  refine yw_callVL (As := []) (rest := [.ref (ad 52)]) (ci := 13) rfl (fun wA hA => ((hI.gen (t2 := t) (is := [52, 63, 64, 54, 55, 56, 57, 58, 59, 60, 61]) (L2 := []) hA rfl ⟨kd_52.mpr ⟨_, rfl⟩, kd_63.mpr rfl, kd_64.mpr rfl, kd_54.mpr ⟨_, rfl⟩, kd_55.mpr ⟨_, rfl⟩, kd_56.mpr ⟨_, rfl⟩, kd_57.mpr ⟨_, rfl⟩, kd_58.mpr ⟨_, rfl⟩, kd_59.mpr ⟨_, rfl⟩, kd_60.mpr ⟨_, rfl⟩, kd_61.mpr ⟨_, rfl⟩, trivial⟩ (by decide) (by decide) (fun _ h => nomatch h) (fun _ h => nomatch h) (fun _ _ _ => rfl) (fun h => h) rfl).2.1.1 3 (by decide)).ob) ln_Mm_289 w_im_AL_isEmpty w_se_AL_isEmpty ok_Mm_pour_AL_isEmpty d_Mm_pour_10 (fun wA hA => Q_isEmpty ((hI.gen (t2 := t) (is := [52, 63, 64, 54, 55, 56, 57, 58, 59, 60, 61]) (L2 := []) hA rfl ⟨kd_52.mpr ⟨_, rfl⟩, kd_63.mpr rfl, kd_64.mpr rfl, kd_54.mpr ⟨_, rfl⟩, kd_55.mpr ⟨_, rfl⟩, kd_56.mpr ⟨_, rfl⟩, kd_57.mpr ⟨_, rfl⟩, kd_58.mpr ⟨_, rfl⟩, kd_59.mpr ⟨_, rfl⟩, kd_60.mpr ⟨_, rfl⟩, kd_61.mpr ⟨_, rfl⟩, trivial⟩ (by decide) (by decide) (fun _ h => nomatch h) (fun _ h => nomatch h) (fun _ _ _ => rfl) (fun h => h) rfl).2.1.1 3 (by decide))) rfl rfl (Nat.le_of_ble_eq_true rfl) (by omega) (by omega) (fun wA10 hA10 E wB10 hx => ?_) (fun wA10 hA10 v wB10 hx => ?_)
  · exact absurd hx.1 (by simp)
  · obtain ⟨e1, e2⟩ := hx
    rw [if_neg h0] at e1
    cases e1
    refine yw_st (st2 := [.int 0, .ref (ad 52)]) rfl ?_
    subst e2
    refine y_go hA10 ?_
    refine y_iconst d_Mm_pour_13 (v := 1) (by decide) ?_
    refine y_callV (As := [.int 0, .int 1]) (rest := []) (csC := [((ad 52), .inr (12, [.int 0, .ref (ad 53), .int (nI ((t.1 52).2.2 0)), .ref (ad 54), .ref (ad 55), .ref (ad 56), .ref (ad 57), .ref (ad 58), .ref (ad 59), .ref (ad 60), .ref (ad 61), .int ((t.1 52).1 0), .int ((t.1 52).1 1), .int ((t.1 52).1 2), .int ((t.1 52).1 3), .int ((t.1 52).1 4), .int ((t.1 52).1 5), .ref (ad 62), .ref (ad 63), .ref (ad 64), .int ((t.1 52).1 6), .int ((t.1 52).1 7), .int ((t.1 52).1 8), .int ((t.1 52).1 9), .int ((t.1 52).1 10), .ref (ad 65), .ref (ad 66), .ref (ad 67), .ref (ad 68), .long ((t.1 52).2.1 0), .long ((t.1 52).2.1 1)]))]) (is := [0]) (q0 := 0) rfl rfl ln_Mm_103 w_im_Mm_fails w_se_Mm_fails ok_Mm_pour_Mm_fails d_Mm_pour_14 (C_Mm_fails0 g (ad 52) (ad 53) (ad 54) (ad 55) (ad 56) (ad 57) (ad 58) (ad 59) (ad 60) (ad 61) (ad 62) (ad 63) (ad 64) (ad 65) (ad 66) (ad 67) (ad 68) 0 (nI ((t.1 52).2.2 0)) ((t.1 52).1 0) ((t.1 52).1 1) ((t.1 52).1 2) ((t.1 52).1 3) ((t.1 52).1 4) ((t.1 52).1 5) ((t.1 52).1 6) ((t.1 52).1 7) ((t.1 52).1 8) ((t.1 52).1 9) ((t.1 52).1 10) ((t.1 52).2.1 0) ((t.1 52).2.1 1) 1) rfl rfl (Nat.le_of_ble_eq_true rfl) rfl (by decide) (by omega) (by omega) (fun E cs1 hx => ?_) (fun v cs1 hx => ?_)
    · exact absurd hx.1 (by simp)
    · obtain ⟨e1, rfl⟩ := hx
      cases e1
      refine ⟨rfl, ?_⟩
      refine y_st (st2 := [.int 0]) rfl ?_
      refine y_cs (cs2 := [((ad 52), .inr (12, [.int 0, .ref (ad 53), .int (nI ((t.1 52).2.2 0)), .ref (ad 54), .ref (ad 55), .ref (ad 56), .ref (ad 57), .ref (ad 58), .ref (ad 59), .ref (ad 60), .ref (ad 61), .int ((t.1 52).1 0), .int ((t.1 52).1 1), .int ((t.1 52).1 2), .int ((t.1 52).1 3), .int ((t.1 52).1 4), .int ((t.1 52).1 5), .ref (ad 62), .ref (ad 63), .ref (ad 64), .int ((t.1 52).1 6), .int ((t.1 52).1 7), .int ((t.1 52).1 8), .int ((t.1 52).1 9), .int ((t.1 52).1 10), .ref (ad 65), .ref (ad 66), .ref (ad 67), .ref (ad 68), .long ((t.1 52).2.1 0), .long ((t.1 52).2.1 1)])), ((ad 63), .inl (0, 4, .inl ((t.1 63).1))), ((ad 64), .inl (3, 16, .inr (.inl ((t.1 64).2.1)))), ((ad 54), .inl (0, 108, .inl v_mf_f)), ((ad 55), .inl (0, 108, .inl v_mh_f)), ((ad 56), .inl (0, 108, .inl v_mn_f)), ((ad 57), .inl (0, 108, .inl v_mt_f)), ((ad 58), .inl (0, 108, .inl v_mz_f)), ((ad 59), .inl (2, 108, .inl v_mc__f)), ((ad 60), .inl (0, 108, .inl (fun k => nI (v_mq_h k)))), ((ad 61), .inl (0, 108, .inl v_mgr_f))]) rfl ?_
      refine y_if_ne (tgt := 77) d_Mm_pour_17 (by decide) (fun c_17 => ?_) (fun c_17 => ?_)
      · exact absurd c_17 (by decide)
      · refine y_aload_n d_Mm_pour_20 rfl 0 rfl ?_
        refine y_aload_n d_Mm_pour_21 rfl 0 rfl ?_
        refine y_get fs_Mm_62 d_Mm_pour_22 (q0 := 0) rfl rfl ?_
        refine y_iconst d_Mm_pour_25 (v := 1) (by decide) ?_
        refine y_iald d_Mm_pour_26 (q0 := 1) rfl (fun q => q.elim (by decide) (by decide)) (v := ((t.1 63).1) 1) rfl ?_
        refine y_if_eq (tgt := 40) d_Mm_pour_27 (by decide) (fun c_27 => ?_) (fun c_27 => ?_)
        · exact absurd c_27 h1
        · refine y_aload_n d_Mm_pour_30 rfl 0 rfl ?_
          refine y_get fs_Mm_257 d_Mm_pour_31 (q0 := 0) rfl rfl ?_
          refine y_sipush d_Mm_pour_34 (v := 1250) (by decide) ?_
          refine y_icmp_ge (tgt := 44) d_Mm_pour_37 (by decide) (fun c_37 => ?_) (fun c_37 => ?_)
          · refine y_iconst d_Mm_pour_44 (v := 0) (by decide) ?_
            refine y_iconst d_Mm_pour_45 (v := 2) (by decide) ?_
            refine y_callV (As := [.int 0, .int 2]) (rest := []) (csC := [((ad 52), .inr (12, [.int 0, .ref (ad 53), .int (nI ((t.1 52).2.2 0)), .ref (ad 54), .ref (ad 55), .ref (ad 56), .ref (ad 57), .ref (ad 58), .ref (ad 59), .ref (ad 60), .ref (ad 61), .int ((t.1 52).1 0), .int ((t.1 52).1 1), .int ((t.1 52).1 2), .int ((t.1 52).1 3), .int ((t.1 52).1 4), .int ((t.1 52).1 5), .ref (ad 62), .ref (ad 63), .ref (ad 64), .int ((t.1 52).1 6), .int ((t.1 52).1 7), .int ((t.1 52).1 8), .int ((t.1 52).1 9), .int ((t.1 52).1 10), .ref (ad 65), .ref (ad 66), .ref (ad 67), .ref (ad 68), .long ((t.1 52).2.1 0), .long ((t.1 52).2.1 1)]))]) (is := [0]) (q0 := 0) rfl rfl ln_Mm_103 w_im_Mm_fails w_se_Mm_fails ok_Mm_pour_Mm_fails d_Mm_pour_46 (C_Mm_fails0 g (ad 52) (ad 53) (ad 54) (ad 55) (ad 56) (ad 57) (ad 58) (ad 59) (ad 60) (ad 61) (ad 62) (ad 63) (ad 64) (ad 65) (ad 66) (ad 67) (ad 68) 0 (nI ((t.1 52).2.2 0)) ((t.1 52).1 0) ((t.1 52).1 1) ((t.1 52).1 2) ((t.1 52).1 3) ((t.1 52).1 4) ((t.1 52).1 5) ((t.1 52).1 6) ((t.1 52).1 7) ((t.1 52).1 8) ((t.1 52).1 9) ((t.1 52).1 10) ((t.1 52).2.1 0) ((t.1 52).2.1 1) 2) rfl rfl (Nat.le_of_ble_eq_true rfl) rfl (by decide) (by omega) (by omega) (fun E cs1 hx => ?_) (fun v cs1 hx => ?_)
            · exact absurd hx.1 (by simp)
            · obtain ⟨e1, rfl⟩ := hx
              cases e1
              refine ⟨rfl, ?_⟩
              refine y_st (st2 := [.int 0]) rfl ?_
              refine y_cs (cs2 := [((ad 52), .inr (12, [.int 0, .ref (ad 53), .int (nI ((t.1 52).2.2 0)), .ref (ad 54), .ref (ad 55), .ref (ad 56), .ref (ad 57), .ref (ad 58), .ref (ad 59), .ref (ad 60), .ref (ad 61), .int ((t.1 52).1 0), .int ((t.1 52).1 1), .int ((t.1 52).1 2), .int ((t.1 52).1 3), .int ((t.1 52).1 4), .int ((t.1 52).1 5), .ref (ad 62), .ref (ad 63), .ref (ad 64), .int ((t.1 52).1 6), .int ((t.1 52).1 7), .int ((t.1 52).1 8), .int ((t.1 52).1 9), .int ((t.1 52).1 10), .ref (ad 65), .ref (ad 66), .ref (ad 67), .ref (ad 68), .long ((t.1 52).2.1 0), .long ((t.1 52).2.1 1)])), ((ad 63), .inl (0, 4, .inl ((t.1 63).1))), ((ad 64), .inl (3, 16, .inr (.inl ((t.1 64).2.1)))), ((ad 54), .inl (0, 108, .inl v_mf_f)), ((ad 55), .inl (0, 108, .inl v_mh_f)), ((ad 56), .inl (0, 108, .inl v_mn_f)), ((ad 57), .inl (0, 108, .inl v_mt_f)), ((ad 58), .inl (0, 108, .inl v_mz_f)), ((ad 59), .inl (2, 108, .inl v_mc__f)), ((ad 60), .inl (0, 108, .inl (fun k => nI (v_mq_h k)))), ((ad 61), .inl (0, 108, .inl v_mgr_f))]) rfl ?_
              refine y_if_ne (tgt := 77) d_Mm_pour_49 (by decide) (fun c_49 => ?_) (fun c_49 => ?_)
              · exact absurd c_49 (by decide)
              · refine y_aload_n d_Mm_pour_52 rfl 0 rfl ?_
                refine y_aload_n d_Mm_pour_53 rfl 0 rfl ?_
                refine y_get fs_Mm_78 d_Mm_pour_54 (q0 := 0) rfl rfl ?_
                refine yw_callVL (As := []) (rest := [.ref (ad 52)]) (ci := 13) rfl (fun wA hA => ((hI.gen (t2 := t) (is := [52, 63, 64, 54, 55, 56, 57, 58, 59, 60, 61]) (L2 := []) hA rfl ⟨kd_52.mpr ⟨_, rfl⟩, kd_63.mpr rfl, kd_64.mpr rfl, kd_54.mpr ⟨_, rfl⟩, kd_55.mpr ⟨_, rfl⟩, kd_56.mpr ⟨_, rfl⟩, kd_57.mpr ⟨_, rfl⟩, kd_58.mpr ⟨_, rfl⟩, kd_59.mpr ⟨_, rfl⟩, kd_60.mpr ⟨_, rfl⟩, kd_61.mpr ⟨_, rfl⟩, trivial⟩ (by decide) (by decide) (fun _ h => nomatch h) (fun _ h => nomatch h) (fun _ _ _ => rfl) (fun h => h) rfl).2.1.1 5 (by decide)).ob) ln_Mm_208 w_im_AL_size w_se_AL_size ok_Mm_pour_AL_size d_Mm_pour_57 (fun wA hA => Q_size ((hI.gen (t2 := t) (is := [52, 63, 64, 54, 55, 56, 57, 58, 59, 60, 61]) (L2 := []) hA rfl ⟨kd_52.mpr ⟨_, rfl⟩, kd_63.mpr rfl, kd_64.mpr rfl, kd_54.mpr ⟨_, rfl⟩, kd_55.mpr ⟨_, rfl⟩, kd_56.mpr ⟨_, rfl⟩, kd_57.mpr ⟨_, rfl⟩, kd_58.mpr ⟨_, rfl⟩, kd_59.mpr ⟨_, rfl⟩, kd_60.mpr ⟨_, rfl⟩, kd_61.mpr ⟨_, rfl⟩, trivial⟩ (by decide) (by decide) (fun _ h => nomatch h) (fun _ h => nomatch h) (fun _ _ _ => rfl) (fun h => h) rfl).2.1.1 5 (by decide))) rfl rfl (Nat.le_of_ble_eq_true rfl) (by omega) (by omega) (fun wA57 hA57 E wB57 hx => ?_) (fun wA57 hA57 v wB57 hx => ?_)
                · exact absurd hx.1 (by simp)
                · obtain ⟨e1, e2⟩ := hx
                  cases e1
                  refine yw_st (st2 := [.int (nI (u.1 5)), .ref (ad 52)]) rfl ?_
                  subst e2
                  refine y_go hA57 ?_
                  refine y_bipush d_Mm_pour_60 (v := 30) (by decide) ?_
                  refine y_icmp_ne (tgt := 69) d_Mm_pour_62 (by decide) (fun c_62 => ?_) (fun c_62 => ?_)
                  · refine y_iconst d_Mm_pour_69 (v := 0) (by decide) ?_
                    refine y_iconst d_Mm_pour_70 (v := 3) (by decide) ?_
                    refine y_callV (As := [.int 0, .int 3]) (rest := []) (csC := [((ad 52), .inr (12, [.int 0, .ref (ad 53), .int (nI ((t.1 52).2.2 0)), .ref (ad 54), .ref (ad 55), .ref (ad 56), .ref (ad 57), .ref (ad 58), .ref (ad 59), .ref (ad 60), .ref (ad 61), .int ((t.1 52).1 0), .int ((t.1 52).1 1), .int ((t.1 52).1 2), .int ((t.1 52).1 3), .int ((t.1 52).1 4), .int ((t.1 52).1 5), .ref (ad 62), .ref (ad 63), .ref (ad 64), .int ((t.1 52).1 6), .int ((t.1 52).1 7), .int ((t.1 52).1 8), .int ((t.1 52).1 9), .int ((t.1 52).1 10), .ref (ad 65), .ref (ad 66), .ref (ad 67), .ref (ad 68), .long ((t.1 52).2.1 0), .long ((t.1 52).2.1 1)]))]) (is := [0]) (q0 := 0) rfl rfl ln_Mm_103 w_im_Mm_fails w_se_Mm_fails ok_Mm_pour_Mm_fails d_Mm_pour_71 (C_Mm_fails0 g (ad 52) (ad 53) (ad 54) (ad 55) (ad 56) (ad 57) (ad 58) (ad 59) (ad 60) (ad 61) (ad 62) (ad 63) (ad 64) (ad 65) (ad 66) (ad 67) (ad 68) 0 (nI ((t.1 52).2.2 0)) ((t.1 52).1 0) ((t.1 52).1 1) ((t.1 52).1 2) ((t.1 52).1 3) ((t.1 52).1 4) ((t.1 52).1 5) ((t.1 52).1 6) ((t.1 52).1 7) ((t.1 52).1 8) ((t.1 52).1 9) ((t.1 52).1 10) ((t.1 52).2.1 0) ((t.1 52).2.1 1) 3) rfl rfl (Nat.le_of_ble_eq_true rfl) rfl (by decide) (by omega) (by omega) (fun E cs1 hx => ?_) (fun v cs1 hx => ?_)
                    · exact absurd hx.1 (by simp)
                    · obtain ⟨e1, rfl⟩ := hx
                      cases e1
                      refine ⟨rfl, ?_⟩
                      refine y_st (st2 := [.int 0]) rfl ?_
                      refine y_cs (cs2 := [((ad 52), .inr (12, [.int 0, .ref (ad 53), .int (nI ((t.1 52).2.2 0)), .ref (ad 54), .ref (ad 55), .ref (ad 56), .ref (ad 57), .ref (ad 58), .ref (ad 59), .ref (ad 60), .ref (ad 61), .int ((t.1 52).1 0), .int ((t.1 52).1 1), .int ((t.1 52).1 2), .int ((t.1 52).1 3), .int ((t.1 52).1 4), .int ((t.1 52).1 5), .ref (ad 62), .ref (ad 63), .ref (ad 64), .int ((t.1 52).1 6), .int ((t.1 52).1 7), .int ((t.1 52).1 8), .int ((t.1 52).1 9), .int ((t.1 52).1 10), .ref (ad 65), .ref (ad 66), .ref (ad 67), .ref (ad 68), .long ((t.1 52).2.1 0), .long ((t.1 52).2.1 1)])), ((ad 63), .inl (0, 4, .inl ((t.1 63).1))), ((ad 64), .inl (3, 16, .inr (.inl ((t.1 64).2.1)))), ((ad 54), .inl (0, 108, .inl v_mf_f)), ((ad 55), .inl (0, 108, .inl v_mh_f)), ((ad 56), .inl (0, 108, .inl v_mn_f)), ((ad 57), .inl (0, 108, .inl v_mt_f)), ((ad 58), .inl (0, 108, .inl v_mz_f)), ((ad 59), .inl (2, 108, .inl v_mc__f)), ((ad 60), .inl (0, 108, .inl (fun k => nI (v_mq_h k)))), ((ad 61), .inl (0, 108, .inl v_mgr_f))]) rfl ?_
                      refine y_if_eq (tgt := 79) d_Mm_pour_74 (by decide) (fun c_74 => ?_) (fun c_74 => ?_)
                      · refine y_aload_n d_Mm_pour_79 rfl 0 rfl ?_
                        refine y_get fs_Mm_72 d_Mm_pour_80 (q0 := 0) rfl rfl ?_
                        refine y_iconst d_Mm_pour_83 (v := 0) (by decide) ?_
                        refine yw_callVL (As := [.int 0]) (rest := []) (ci := 13) rfl (fun wA hA => ((hI.gen (t2 := t) (is := [52, 63, 64, 54, 55, 56, 57, 58, 59, 60, 61]) (L2 := []) hA rfl ⟨kd_52.mpr ⟨_, rfl⟩, kd_63.mpr rfl, kd_64.mpr rfl, kd_54.mpr ⟨_, rfl⟩, kd_55.mpr ⟨_, rfl⟩, kd_56.mpr ⟨_, rfl⟩, kd_57.mpr ⟨_, rfl⟩, kd_58.mpr ⟨_, rfl⟩, kd_59.mpr ⟨_, rfl⟩, kd_60.mpr ⟨_, rfl⟩, kd_61.mpr ⟨_, rfl⟩, trivial⟩ (by decide) (by decide) (fun _ h => nomatch h) (fun _ h => nomatch h) (fun _ _ _ => rfl) (fun h => h) rfl).2.1.1 3 (by decide)).ob) ln_Mm_229 w_im_AL_remove w_se_AL_remove ok_Mm_pour_AL_remove d_Mm_pour_84 (fun wA hA => Q_rem (i := 0) (m := m9) ((hI.gen (t2 := t) (is := [52, 63, 64, 54, 55, 56, 57, 58, 59, 60, 61]) (L2 := []) hA rfl ⟨kd_52.mpr ⟨_, rfl⟩, kd_63.mpr rfl, kd_64.mpr rfl, kd_54.mpr ⟨_, rfl⟩, kd_55.mpr ⟨_, rfl⟩, kd_56.mpr ⟨_, rfl⟩, kd_57.mpr ⟨_, rfl⟩, kd_58.mpr ⟨_, rfl⟩, kd_59.mpr ⟨_, rfl⟩, kd_60.mpr ⟨_, rfl⟩, kd_61.mpr ⟨_, rfl⟩, trivial⟩ (by decide) (by decide) (fun _ h => nomatch h) (fun _ h => nomatch h) (fun _ _ _ => rfl) (fun h => h) rfl).2.1.1 3 (by decide)) hm9 (fun k hk => ((hI.gen (t2 := t) (is := [52, 63, 64, 54, 55, 56, 57, 58, 59, 60, 61]) (L2 := []) hA rfl ⟨kd_52.mpr ⟨_, rfl⟩, kd_63.mpr rfl, kd_64.mpr rfl, kd_54.mpr ⟨_, rfl⟩, kd_55.mpr ⟨_, rfl⟩, kd_56.mpr ⟨_, rfl⟩, kd_57.mpr ⟨_, rfl⟩, kd_58.mpr ⟨_, rfl⟩, kd_59.mpr ⟨_, rfl⟩, kd_60.mpr ⟨_, rfl⟩, kd_61.mpr ⟨_, rfl⟩, trivial⟩ (by decide) (by decide) (fun _ h => nomatch h) (fun _ h => nomatch h) (fun _ _ _ => rfl) (fun h => h) rfl).2.1.2.1 3 (by decide) k (show k < u.1 3 by omega)).elt3) (Nat.zero_le _)) rfl rfl (Nat.le_of_ble_eq_true rfl) (by omega) (by omega) (fun wA84 hA84 E wB84 hx => ?_) (fun wA84 hA84 v wB84 hx => ?_)
                        · exact absurd hx.1 (by simp)
                        · obtain ⟨e1, e2, e3⟩ := hx
                          cases e1
                          refine yw_st (st2 := [.ref (u.2.2 3 0)]) rfl ?_
                          have hsz := (hI.gen (t2 := t) (is := [52, 63, 64, 54, 55, 56, 57, 58, 59, 60, 61]) (L2 := []) hA84 rfl ⟨kd_52.mpr ⟨_, rfl⟩, kd_63.mpr rfl, kd_64.mpr rfl, kd_54.mpr ⟨_, rfl⟩, kd_55.mpr ⟨_, rfl⟩, kd_56.mpr ⟨_, rfl⟩, kd_57.mpr ⟨_, rfl⟩, kd_58.mpr ⟨_, rfl⟩, kd_59.mpr ⟨_, rfl⟩, kd_60.mpr ⟨_, rfl⟩, kd_61.mpr ⟨_, rfl⟩, trivial⟩ (by decide) (by decide) (fun _ h => nomatch h) (fun _ h => nomatch h) (fun _ _ _ => rfl) (fun h => h) rfl).sz
                          have hI8 := (hI.gen (t2 := t) (is := [52, 63, 64, 54, 55, 56, 57, 58, 59, 60, 61]) (L2 := []) hA84 rfl ⟨kd_52.mpr ⟨_, rfl⟩, kd_63.mpr rfl, kd_64.mpr rfl, kd_54.mpr ⟨_, rfl⟩, kd_55.mpr ⟨_, rfl⟩, kd_56.mpr ⟨_, rfl⟩, kd_57.mpr ⟨_, rfl⟩, kd_58.mpr ⟨_, rfl⟩, kd_59.mpr ⟨_, rfl⟩, kd_60.mpr ⟨_, rfl⟩, kd_61.mpr ⟨_, rfl⟩, trivial⟩ (by decide) (by decide) (fun _ h => nomatch h) (fun _ h => nomatch h) (fun _ _ _ => rfl) (fun h => h) rfl).iw
                          obtain ⟨nf_i, hw0_i, hch_i, hg_i⟩ := hI8.2.1.2.1 3 (by decide) 0 (show 0 < u.1 3 by omega)
                          have hw_i := hI8.kp (L := 3) (by decide) nf_i hw0_i (Or.inr (show (1 : Nat) < 5 by decide)) e3
                          have hI : IW g ad (tls t 3 (z_dlV (t.2 3) 0)) _ _ := hI8.rem (L := 3) (m := m9) (by decide) hm9 (Nat.zero_le _) e2 e3
                          obtain ⟨e_m, wf_m, k_m⟩ := hI.1.2 52 (by decide)
                          obtain ⟨v_m_th, rfl⟩ := kd_52.mp k_m
                          obtain ⟨e_mi, wf_mi, k_mi⟩ := hI.1.2 63 (by decide)
                          obtain rfl := kd_63.mp k_mi
                          obtain ⟨e_mr, wf_mr, k_mr⟩ := hI.1.2 64 (by decide)
                          obtain rfl := kd_64.mp k_mr
                          obtain ⟨e_mf, wf_mf, k_mf⟩ := hI.1.2 54 (by decide)
                          obtain ⟨v_mf_f, rfl⟩ := kd_54.mp k_mf
                          obtain ⟨e_mh, wf_mh, k_mh⟩ := hI.1.2 55 (by decide)
                          obtain ⟨v_mh_f, rfl⟩ := kd_55.mp k_mh
                          obtain ⟨e_mn, wf_mn, k_mn⟩ := hI.1.2 56 (by decide)
                          obtain ⟨v_mn_f, rfl⟩ := kd_56.mp k_mn
                          obtain ⟨e_mt, wf_mt, k_mt⟩ := hI.1.2 57 (by decide)
                          obtain ⟨v_mt_f, rfl⟩ := kd_57.mp k_mt
                          obtain ⟨e_mz, wf_mz, k_mz⟩ := hI.1.2 58 (by decide)
                          obtain ⟨v_mz_f, rfl⟩ := kd_58.mp k_mz
                          obtain ⟨e_mc_, wf_mc_, k_mc_⟩ := hI.1.2 59 (by decide)
                          obtain ⟨v_mc__f, rfl⟩ := kd_59.mp k_mc_
                          obtain ⟨e_mq, wf_mq, k_mq⟩ := hI.1.2 60 (by decide)
                          obtain ⟨v_mq_h, rfl⟩ := kd_60.mp k_mq
                          obtain ⟨e_mgr, wf_mgr, k_mgr⟩ := hI.1.2 61 (by decide)
                          obtain ⟨v_mgr_f, rfl⟩ := kd_61.mp k_mgr
                          refine y_base (cs := [((ad 52), .inr (12, [.int v_m_th, .ref (ad 53), .int (nI (((tls t 3 (z_dlV (t.2 3) 0)).1 52).2.2 0)), .ref (ad 54), .ref (ad 55), .ref (ad 56), .ref (ad 57), .ref (ad 58), .ref (ad 59), .ref (ad 60), .ref (ad 61), .int (((tls t 3 (z_dlV (t.2 3) 0)).1 52).1 0), .int (((tls t 3 (z_dlV (t.2 3) 0)).1 52).1 1), .int (((tls t 3 (z_dlV (t.2 3) 0)).1 52).1 2), .int (((tls t 3 (z_dlV (t.2 3) 0)).1 52).1 3), .int (((tls t 3 (z_dlV (t.2 3) 0)).1 52).1 4), .int (((tls t 3 (z_dlV (t.2 3) 0)).1 52).1 5), .ref (ad 62), .ref (ad 63), .ref (ad 64), .int (((tls t 3 (z_dlV (t.2 3) 0)).1 52).1 6), .int (((tls t 3 (z_dlV (t.2 3) 0)).1 52).1 7), .int (((tls t 3 (z_dlV (t.2 3) 0)).1 52).1 8), .int (((tls t 3 (z_dlV (t.2 3) 0)).1 52).1 9), .int (((tls t 3 (z_dlV (t.2 3) 0)).1 52).1 10), .ref (ad 65), .ref (ad 66), .ref (ad 67), .ref (ad 68), .long (((tls t 3 (z_dlV (t.2 3) 0)).1 52).2.1 0), .long (((tls t 3 (z_dlV (t.2 3) 0)).1 52).2.1 1)])), ((ad 63), .inl (0, 4, .inl (((tls t 3 (z_dlV (t.2 3) 0)).1 63).1))), ((ad 64), .inl (3, 16, .inr (.inl (((tls t 3 (z_dlV (t.2 3) 0)).1 64).2.1)))), ((ad 54), .inl (0, 108, .inl v_mf_f)), ((ad 55), .inl (0, 108, .inl v_mh_f)), ((ad 56), .inl (0, 108, .inl v_mn_f)), ((ad 57), .inl (0, 108, .inl v_mt_f)), ((ad 58), .inl (0, 108, .inl v_mz_f)), ((ad 59), .inl (2, 108, .inl v_mc__f)), ((ad 60), .inl (0, 108, .inl (fun k => nI (v_mq_h k)))), ((ad 61), .inl (0, 108, .inl v_mgr_f)), ((u.2.2 3 0), .inl (1, 108, .inl ((t.2 3 0).2.1)))]) (hI.1.B [52, 63, 64, 54, 55, 56, 57, 58, 59, 60, 61] [((ad 52), .inr (12, [.int v_m_th, .ref (ad 53), .int (nI (((tls t 3 (z_dlV (t.2 3) 0)).1 52).2.2 0)), .ref (ad 54), .ref (ad 55), .ref (ad 56), .ref (ad 57), .ref (ad 58), .ref (ad 59), .ref (ad 60), .ref (ad 61), .int (((tls t 3 (z_dlV (t.2 3) 0)).1 52).1 0), .int (((tls t 3 (z_dlV (t.2 3) 0)).1 52).1 1), .int (((tls t 3 (z_dlV (t.2 3) 0)).1 52).1 2), .int (((tls t 3 (z_dlV (t.2 3) 0)).1 52).1 3), .int (((tls t 3 (z_dlV (t.2 3) 0)).1 52).1 4), .int (((tls t 3 (z_dlV (t.2 3) 0)).1 52).1 5), .ref (ad 62), .ref (ad 63), .ref (ad 64), .int (((tls t 3 (z_dlV (t.2 3) 0)).1 52).1 6), .int (((tls t 3 (z_dlV (t.2 3) 0)).1 52).1 7), .int (((tls t 3 (z_dlV (t.2 3) 0)).1 52).1 8), .int (((tls t 3 (z_dlV (t.2 3) 0)).1 52).1 9), .int (((tls t 3 (z_dlV (t.2 3) 0)).1 52).1 10), .ref (ad 65), .ref (ad 66), .ref (ad 67), .ref (ad 68), .long (((tls t 3 (z_dlV (t.2 3) 0)).1 52).2.1 0), .long (((tls t 3 (z_dlV (t.2 3) 0)).1 52).2.1 1)])), ((ad 63), .inl (0, 4, .inl (((tls t 3 (z_dlV (t.2 3) 0)).1 63).1))), ((ad 64), .inl (3, 16, .inr (.inl (((tls t 3 (z_dlV (t.2 3) 0)).1 64).2.1)))), ((ad 54), .inl (0, 108, .inl v_mf_f)), ((ad 55), .inl (0, 108, .inl v_mh_f)), ((ad 56), .inl (0, 108, .inl v_mn_f)), ((ad 57), .inl (0, 108, .inl v_mt_f)), ((ad 58), .inl (0, 108, .inl v_mz_f)), ((ad 59), .inl (2, 108, .inl v_mc__f)), ((ad 60), .inl (0, 108, .inl (fun k => nI (v_mq_h k)))), ((ad 61), .inl (0, 108, .inl v_mgr_f))] [((u.2.2 3 0), .inl (1, 108, .inl ((t.2 3 0).2.1)))] rfl (by decide) (by decide) (List.forall_mem_cons.mpr ⟨wf_m, (List.forall_mem_cons.mpr ⟨wf_mi, (List.forall_mem_cons.mpr ⟨wf_mr, (List.forall_mem_cons.mpr ⟨wf_mf, (List.forall_mem_cons.mpr ⟨wf_mh, (List.forall_mem_cons.mpr ⟨wf_mn, (List.forall_mem_cons.mpr ⟨wf_mt, (List.forall_mem_cons.mpr ⟨wf_mz, (List.forall_mem_cons.mpr ⟨wf_mc_, (List.forall_mem_cons.mpr ⟨wf_mq, (List.forall_mem_cons.mpr ⟨wf_mgr, (fun _ h => nomatch h)⟩)⟩)⟩)⟩)⟩)⟩)⟩)⟩)⟩)⟩)⟩) (List.forall_mem_cons.mpr ⟨hw_i, (fun _ h => nomatch h)⟩) (List.forall_mem_cons.mpr ⟨nf_i, (fun _ h => nomatch h)⟩) (by simp [z_kd])) ?_
                          refine y_castA (t := 1) (by decide) lk_Mm_292 d_Mm_pour_87 (q0 := 11) rfl ?_
                          refine y_astore_n (lv' := [(1, .ref (u.2.2 3 0)), (0, .ref (ad 52))]) d_Mm_pour_90 rfl (by decide) rfl ?_
                          refine y_aload_n d_Mm_pour_91 rfl 1 rfl ?_
                          refine y_get fs_Mm_75 d_Mm_pour_92 (q0 := 0) rfl rfl ?_
                          refine y_iconst d_Mm_pour_95 (v := 0) (by decide) ?_
                          refine yw_callVL (As := [.int 0]) (rest := []) (ci := 13) rfl (fun wA hA => ((hI.gen (t2 := (tls t 3 (z_dlV (t.2 3) 0))) (is := [52, 63, 64, 54, 55, 56, 57, 58, 59, 60, 61]) (L2 := [(u.2.2 3 0)]) hA rfl ⟨kd_52.mpr ⟨_, rfl⟩, kd_63.mpr rfl, kd_64.mpr rfl, kd_54.mpr ⟨_, rfl⟩, kd_55.mpr ⟨_, rfl⟩, kd_56.mpr ⟨_, rfl⟩, kd_57.mpr ⟨_, rfl⟩, kd_58.mpr ⟨_, rfl⟩, kd_59.mpr ⟨_, rfl⟩, kd_60.mpr ⟨_, rfl⟩, kd_61.mpr ⟨_, rfl⟩, trivial⟩ (by decide) (by decide) (List.forall_mem_cons.mpr ⟨nf_i, (fun _ h => nomatch h)⟩) (List.forall_mem_cons.mpr ⟨⟨_, hw_i, hA.at (q0 := 11) rfl⟩, (fun _ h => nomatch h)⟩) (fun _ _ _ => rfl) (fun h => h) rfl).2.1.1 4 (by decide)).ob) ln_Mm_229 w_im_AL_remove w_se_AL_remove ok_Mm_pour_AL_remove d_Mm_pour_96 (fun wA hA => Q_rem (i := 0) (m := m9) ((hI.gen (t2 := (tls t 3 (z_dlV (t.2 3) 0))) (is := [52, 63, 64, 54, 55, 56, 57, 58, 59, 60, 61]) (L2 := [(u.2.2 3 0)]) hA rfl ⟨kd_52.mpr ⟨_, rfl⟩, kd_63.mpr rfl, kd_64.mpr rfl, kd_54.mpr ⟨_, rfl⟩, kd_55.mpr ⟨_, rfl⟩, kd_56.mpr ⟨_, rfl⟩, kd_57.mpr ⟨_, rfl⟩, kd_58.mpr ⟨_, rfl⟩, kd_59.mpr ⟨_, rfl⟩, kd_60.mpr ⟨_, rfl⟩, kd_61.mpr ⟨_, rfl⟩, trivial⟩ (by decide) (by decide) (List.forall_mem_cons.mpr ⟨nf_i, (fun _ h => nomatch h)⟩) (List.forall_mem_cons.mpr ⟨⟨_, hw_i, hA.at (q0 := 11) rfl⟩, (fun _ h => nomatch h)⟩) (fun _ _ _ => rfl) (fun h => h) rfl).2.1.1 4 (by decide)) hm4 (fun k hk => ((hI.gen (t2 := (tls t 3 (z_dlV (t.2 3) 0))) (is := [52, 63, 64, 54, 55, 56, 57, 58, 59, 60, 61]) (L2 := [(u.2.2 3 0)]) hA rfl ⟨kd_52.mpr ⟨_, rfl⟩, kd_63.mpr rfl, kd_64.mpr rfl, kd_54.mpr ⟨_, rfl⟩, kd_55.mpr ⟨_, rfl⟩, kd_56.mpr ⟨_, rfl⟩, kd_57.mpr ⟨_, rfl⟩, kd_58.mpr ⟨_, rfl⟩, kd_59.mpr ⟨_, rfl⟩, kd_60.mpr ⟨_, rfl⟩, kd_61.mpr ⟨_, rfl⟩, trivial⟩ (by decide) (by decide) (List.forall_mem_cons.mpr ⟨nf_i, (fun _ h => nomatch h)⟩) (List.forall_mem_cons.mpr ⟨⟨_, hw_i, hA.at (q0 := 11) rfl⟩, (fun _ h => nomatch h)⟩) (fun _ _ _ => rfl) (fun h => h) rfl).2.1.2.1 4 (by decide) k (show k < u.1 4 by omega)).elt4) (Nat.zero_le _)) rfl rfl (Nat.le_of_ble_eq_true rfl) (by omega) (by omega) (fun wA96 hA96 E wB96 hx => ?_) (fun wA96 hA96 v wB96 hx => ?_)
                          · exact absurd hx.1 (by simp)
                          · obtain ⟨e1, e2, e3⟩ := hx
                            cases e1
                            refine yw_st (st2 := [.ref (u.2.2 4 0)]) rfl ?_
                            have hI8 := (hI.gen (t2 := (tls t 3 (z_dlV (t.2 3) 0))) (is := [52, 63, 64, 54, 55, 56, 57, 58, 59, 60, 61]) (L2 := [(u.2.2 3 0)]) hA96 rfl ⟨kd_52.mpr ⟨_, rfl⟩, kd_63.mpr rfl, kd_64.mpr rfl, kd_54.mpr ⟨_, rfl⟩, kd_55.mpr ⟨_, rfl⟩, kd_56.mpr ⟨_, rfl⟩, kd_57.mpr ⟨_, rfl⟩, kd_58.mpr ⟨_, rfl⟩, kd_59.mpr ⟨_, rfl⟩, kd_60.mpr ⟨_, rfl⟩, kd_61.mpr ⟨_, rfl⟩, trivial⟩ (by decide) (by decide) (List.forall_mem_cons.mpr ⟨nf_i, (fun _ h => nomatch h)⟩) (List.forall_mem_cons.mpr ⟨⟨_, hw_i, hA96.at (q0 := 11) rfl⟩, (fun _ h => nomatch h)⟩) (fun _ _ _ => rfl) (fun h => h) rfl)
                            obtain ⟨nf_n, hw0_n, h0_n⟩ := hI8.2.1.2.1 4 (by decide) 0 (show 0 < u.1 4 by omega)
                            have hw_n := hI8.kp (L := 4) (by decide) nf_n hw0_n (Or.inr (show (0 : Nat) < 5 by decide)) e3
                            have hc96_11 := hI8.kp (L := 4) (by decide) nf_i (hA96.at (q0 := 11) rfl) (Or.inr (show (1 : Nat) < 5 by decide)) e3
                            have hI : IV g ad (pox t) _ _ := (hI8.rem (L := 4) (m := m9) (by decide) hm4 (Nat.zero_le _) e2 e3).iv (hsz.s34 (by have h9 : u.1 3 ≤ 10 := hsz.2.2.2.1; omega) rfl)
                            obtain ⟨e_m, wf_m, k_m⟩ := hI.1.2 52 (by decide)
                            obtain ⟨v_m_th, rfl⟩ := kd_52.mp k_m
                            obtain ⟨e_mi, wf_mi, k_mi⟩ := hI.1.2 63 (by decide)
                            obtain rfl := kd_63.mp k_mi
                            obtain ⟨e_mr, wf_mr, k_mr⟩ := hI.1.2 64 (by decide)
                            obtain rfl := kd_64.mp k_mr
                            obtain ⟨e_mf, wf_mf, k_mf⟩ := hI.1.2 54 (by decide)
                            obtain ⟨v_mf_f, rfl⟩ := kd_54.mp k_mf
                            obtain ⟨e_mh, wf_mh, k_mh⟩ := hI.1.2 55 (by decide)
                            obtain ⟨v_mh_f, rfl⟩ := kd_55.mp k_mh
                            obtain ⟨e_mn, wf_mn, k_mn⟩ := hI.1.2 56 (by decide)
                            obtain ⟨v_mn_f, rfl⟩ := kd_56.mp k_mn
                            obtain ⟨e_mt, wf_mt, k_mt⟩ := hI.1.2 57 (by decide)
                            obtain ⟨v_mt_f, rfl⟩ := kd_57.mp k_mt
                            obtain ⟨e_mz, wf_mz, k_mz⟩ := hI.1.2 58 (by decide)
                            obtain ⟨v_mz_f, rfl⟩ := kd_58.mp k_mz
                            obtain ⟨e_mc_, wf_mc_, k_mc_⟩ := hI.1.2 59 (by decide)
                            obtain ⟨v_mc__f, rfl⟩ := kd_59.mp k_mc_
                            obtain ⟨e_mq, wf_mq, k_mq⟩ := hI.1.2 60 (by decide)
                            obtain ⟨v_mq_h, rfl⟩ := kd_60.mp k_mq
                            obtain ⟨e_mgr, wf_mgr, k_mgr⟩ := hI.1.2 61 (by decide)
                            obtain ⟨v_mgr_f, rfl⟩ := kd_61.mp k_mgr
                            refine y_base (cs := [((ad 52), .inr (12, [.int v_m_th, .ref (ad 53), .int (nI (((pox t).1 52).2.2 0)), .ref (ad 54), .ref (ad 55), .ref (ad 56), .ref (ad 57), .ref (ad 58), .ref (ad 59), .ref (ad 60), .ref (ad 61), .int (((pox t).1 52).1 0), .int (((pox t).1 52).1 1), .int (((pox t).1 52).1 2), .int (((pox t).1 52).1 3), .int (((pox t).1 52).1 4), .int (((pox t).1 52).1 5), .ref (ad 62), .ref (ad 63), .ref (ad 64), .int (((pox t).1 52).1 6), .int (((pox t).1 52).1 7), .int (((pox t).1 52).1 8), .int (((pox t).1 52).1 9), .int (((pox t).1 52).1 10), .ref (ad 65), .ref (ad 66), .ref (ad 67), .ref (ad 68), .long (((pox t).1 52).2.1 0), .long (((pox t).1 52).2.1 1)])), ((ad 63), .inl (0, 4, .inl (((pox t).1 63).1))), ((ad 64), .inl (3, 16, .inr (.inl (((pox t).1 64).2.1)))), ((ad 54), .inl (0, 108, .inl v_mf_f)), ((ad 55), .inl (0, 108, .inl v_mh_f)), ((ad 56), .inl (0, 108, .inl v_mn_f)), ((ad 57), .inl (0, 108, .inl v_mt_f)), ((ad 58), .inl (0, 108, .inl v_mz_f)), ((ad 59), .inl (2, 108, .inl v_mc__f)), ((ad 60), .inl (0, 108, .inl (fun k => nI (v_mq_h k)))), ((ad 61), .inl (0, 108, .inl v_mgr_f)), ((u.2.2 3 0), .inl (1, 108, .inl ((t.2 3 0).2.1))), ((u.2.2 4 0), .inl (0, 5, .inl ((t.2 4 0).2.1)))]) (hI.1.B [52, 63, 64, 54, 55, 56, 57, 58, 59, 60, 61] [((ad 52), .inr (12, [.int v_m_th, .ref (ad 53), .int (nI (((pox t).1 52).2.2 0)), .ref (ad 54), .ref (ad 55), .ref (ad 56), .ref (ad 57), .ref (ad 58), .ref (ad 59), .ref (ad 60), .ref (ad 61), .int (((pox t).1 52).1 0), .int (((pox t).1 52).1 1), .int (((pox t).1 52).1 2), .int (((pox t).1 52).1 3), .int (((pox t).1 52).1 4), .int (((pox t).1 52).1 5), .ref (ad 62), .ref (ad 63), .ref (ad 64), .int (((pox t).1 52).1 6), .int (((pox t).1 52).1 7), .int (((pox t).1 52).1 8), .int (((pox t).1 52).1 9), .int (((pox t).1 52).1 10), .ref (ad 65), .ref (ad 66), .ref (ad 67), .ref (ad 68), .long (((pox t).1 52).2.1 0), .long (((pox t).1 52).2.1 1)])), ((ad 63), .inl (0, 4, .inl (((pox t).1 63).1))), ((ad 64), .inl (3, 16, .inr (.inl (((pox t).1 64).2.1)))), ((ad 54), .inl (0, 108, .inl v_mf_f)), ((ad 55), .inl (0, 108, .inl v_mh_f)), ((ad 56), .inl (0, 108, .inl v_mn_f)), ((ad 57), .inl (0, 108, .inl v_mt_f)), ((ad 58), .inl (0, 108, .inl v_mz_f)), ((ad 59), .inl (2, 108, .inl v_mc__f)), ((ad 60), .inl (0, 108, .inl (fun k => nI (v_mq_h k)))), ((ad 61), .inl (0, 108, .inl v_mgr_f))] [((u.2.2 3 0), .inl (1, 108, .inl ((t.2 3 0).2.1))), ((u.2.2 4 0), .inl (0, 5, .inl ((t.2 4 0).2.1)))] rfl (by decide) (by decide) (List.forall_mem_cons.mpr ⟨wf_m, (List.forall_mem_cons.mpr ⟨wf_mi, (List.forall_mem_cons.mpr ⟨wf_mr, (List.forall_mem_cons.mpr ⟨wf_mf, (List.forall_mem_cons.mpr ⟨wf_mh, (List.forall_mem_cons.mpr ⟨wf_mn, (List.forall_mem_cons.mpr ⟨wf_mt, (List.forall_mem_cons.mpr ⟨wf_mz, (List.forall_mem_cons.mpr ⟨wf_mc_, (List.forall_mem_cons.mpr ⟨wf_mq, (List.forall_mem_cons.mpr ⟨wf_mgr, (fun _ h => nomatch h)⟩)⟩)⟩)⟩)⟩)⟩)⟩)⟩)⟩)⟩)⟩) (List.forall_mem_cons.mpr ⟨hc96_11, (List.forall_mem_cons.mpr ⟨hw_n, (fun _ h => nomatch h)⟩)⟩) (List.forall_mem_cons.mpr ⟨nf_i, (List.forall_mem_cons.mpr ⟨nf_n, (fun _ h => nomatch h)⟩)⟩) (by simp [z_kd])) ?_
                            refine y_castA (t := 0) (by decide) lk_Mm_215 d_Mm_pour_99 (q0 := 12) rfl ?_
                            refine y_astore_n (lv' := [(2, .ref (u.2.2 4 0)), (1, .ref (u.2.2 3 0)), (0, .ref (ad 52))]) d_Mm_pour_102 rfl (by decide) rfl ?_
                            refine y_iconst d_Mm_pour_103 (v := 2) (by decide) ?_
                            refine y_aload_n d_Mm_pour_104 rfl 1 rfl ?_
                            refine y_callS (As := [.ref (u.2.2 3 0)]) (rest := [.int 2]) (csC := [((u.2.2 3 0), .inl (1, 108, .inl ((t.2 3 0).2.1)))]) (is := [11]) ln_Mm_134 w_st_Mm_cellsIn ok_Mm_pour_Mm_cellsIn d_Mm_pour_105 (C_Mm_cellsIn g (u.2.2 3 0) ((t.2 3 0).2.1)) rfl rfl (Nat.le_of_ble_eq_true rfl) rfl (by decide) (by omega) (by omega) (fun E cs1 hx => ?_) (fun v cs1 hx => ?_)
                            · exact absurd hx.1 (by simp)
                            · obtain ⟨e1, rfl⟩ := hx
                              cases e1
                              refine ⟨rfl, ?_⟩
                              refine y_st (st2 := [.int (nI (fa_cnt (fun k => tmB (((t.2 3 0).2.1) k)) 108)), .int 2]) rfl ?_
                              refine y_cs (cs2 := [((ad 52), .inr (12, [.int v_m_th, .ref (ad 53), .int (nI (((pox t).1 52).2.2 0)), .ref (ad 54), .ref (ad 55), .ref (ad 56), .ref (ad 57), .ref (ad 58), .ref (ad 59), .ref (ad 60), .ref (ad 61), .int (((pox t).1 52).1 0), .int (((pox t).1 52).1 1), .int (((pox t).1 52).1 2), .int (((pox t).1 52).1 3), .int (((pox t).1 52).1 4), .int (((pox t).1 52).1 5), .ref (ad 62), .ref (ad 63), .ref (ad 64), .int (((pox t).1 52).1 6), .int (((pox t).1 52).1 7), .int (((pox t).1 52).1 8), .int (((pox t).1 52).1 9), .int (((pox t).1 52).1 10), .ref (ad 65), .ref (ad 66), .ref (ad 67), .ref (ad 68), .long (((pox t).1 52).2.1 0), .long (((pox t).1 52).2.1 1)])), ((ad 63), .inl (0, 4, .inl (((pox t).1 63).1))), ((ad 64), .inl (3, 16, .inr (.inl (((pox t).1 64).2.1)))), ((ad 54), .inl (0, 108, .inl v_mf_f)), ((ad 55), .inl (0, 108, .inl v_mh_f)), ((ad 56), .inl (0, 108, .inl v_mn_f)), ((ad 57), .inl (0, 108, .inl v_mt_f)), ((ad 58), .inl (0, 108, .inl v_mz_f)), ((ad 59), .inl (2, 108, .inl v_mc__f)), ((ad 60), .inl (0, 108, .inl (fun k => nI (v_mq_h k)))), ((ad 61), .inl (0, 108, .inl v_mgr_f)), ((u.2.2 3 0), .inl (1, 108, .inl ((t.2 3 0).2.1))), ((u.2.2 4 0), .inl (0, 5, .inl ((t.2 4 0).2.1)))]) rfl ?_
                              refine y_imul d_Mm_pour_108 (v := nI (2 * (fa_cnt (fun k => tmB (((t.2 3 0).2.1) k)) 108))) (pk_mul _ _) ?_
                              refine y_istore_n (lv' := [(3, .int (nI (2 * (fa_cnt (fun k => tmB (((t.2 3 0).2.1) k)) 108)))), (2, .ref (u.2.2 4 0)), (1, .ref (u.2.2 3 0)), (0, .ref (ad 52))]) d_Mm_pour_109 rfl (by decide) rfl ?_
                              refine y_iload_n d_Mm_pour_110 rfl 0 rfl ?_
                              refine y_aload_n d_Mm_pour_111 rfl 3 rfl ?_
                              refine y_get fs_Mm_62 d_Mm_pour_112 (q0 := 0) rfl rfl ?_
                              refine y_iconst d_Mm_pour_115 (v := 1) (by decide) ?_
                              refine y_iald d_Mm_pour_116 (q0 := 1) rfl (fun q => q.elim (by decide) (by decide)) (v := (((pox t).1 63).1) 1) rfl ?_
                              refine y_min (v := (if (((pox t).1 63).1) 1 < nI (2 * (fa_cnt (fun k => tmB (((t.2 3 0).2.1) k)) 108)) then (((pox t).1 63).1) 1 else nI (2 * (fa_cnt (fun k => tmB (((t.2 3 0).2.1) k)) 108)))) ln_Mm_182 w_mmin w_mi w_cmin d_Mm_pour_117 (by decide) (by decide) (Nat.le_of_ble_eq_true rfl) rfl ?_
                              refine y_istore (lv' := [(4, .int (if (((pox t).1 63).1) 1 < nI (2 * (fa_cnt (fun k => tmB (((t.2 3 0).2.1) k)) 108)) then (((pox t).1 63).1) 1 else nI (2 * (fa_cnt (fun k => tmB (((t.2 3 0).2.1) k)) 108)))), (3, .int (nI (2 * (fa_cnt (fun k => tmB (((t.2 3 0).2.1) k)) 108)))), (2, .ref (u.2.2 4 0)), (1, .ref (u.2.2 3 0)), (0, .ref (ad 52))]) d_Mm_pour_120 (by decide) rfl ?_
                              have hT : ¬ ptk t = 0 := min_ne h1 (fun q => cnt_pos hg_i (by have h9 := fa_cnt_le (fun k => tmB ((t.2 3 0).2.1 k)) 108; have h8 := nI_z (by omega) q; omega))
                              refine y_lvE (lv2 := [(4, .int (ptk t)), (3, .int (nI (2 * (fa_cnt (fun k => tmB (((t.2 3 0).2.1) k)) 108)))), (2, .ref (u.2.2 4 0)), (1, .ref (u.2.2 3 0)), (0, .ref (ad 52))]) rfl ?_
                              refine y_bipush d_Mm_pour_122 (v := 6) (by decide) ?_
                              refine y_newa_int (N := 6) ac_int d_Mm_pour_124 (by decide) (by decide) (by decide) (by omega) (by omega) (fun q124 => ?_)
                              refine y_cs (cs2 := [((ad 52), .inr (12, [.int v_m_th, .ref (ad 53), .int (nI (((pox t).1 52).2.2 0)), .ref (ad 54), .ref (ad 55), .ref (ad 56), .ref (ad 57), .ref (ad 58), .ref (ad 59), .ref (ad 60), .ref (ad 61), .int (((pox t).1 52).1 0), .int (((pox t).1 52).1 1), .int (((pox t).1 52).1 2), .int (((pox t).1 52).1 3), .int (((pox t).1 52).1 4), .int (((pox t).1 52).1 5), .ref (ad 62), .ref (ad 63), .ref (ad 64), .int (((pox t).1 52).1 6), .int (((pox t).1 52).1 7), .int (((pox t).1 52).1 8), .int (((pox t).1 52).1 9), .int (((pox t).1 52).1 10), .ref (ad 65), .ref (ad 66), .ref (ad 67), .ref (ad 68), .long (((pox t).1 52).2.1 0), .long (((pox t).1 52).2.1 1)])), ((ad 63), .inl (0, 4, .inl (((pox t).1 63).1))), ((ad 64), .inl (3, 16, .inr (.inl (((pox t).1 64).2.1)))), ((ad 54), .inl (0, 108, .inl v_mf_f)), ((ad 55), .inl (0, 108, .inl v_mh_f)), ((ad 56), .inl (0, 108, .inl v_mn_f)), ((ad 57), .inl (0, 108, .inl v_mt_f)), ((ad 58), .inl (0, 108, .inl v_mz_f)), ((ad 59), .inl (2, 108, .inl v_mc__f)), ((ad 60), .inl (0, 108, .inl (fun k => nI (v_mq_h k)))), ((ad 61), .inl (0, 108, .inl v_mgr_f)), ((u.2.2 3 0), .inl (1, 108, .inl ((t.2 3 0).2.1))), ((u.2.2 4 0), .inl (0, 5, .inl ((t.2 4 0).2.1))), (q124, .inl (0, 6, .inl (fun _ => 0)))]) rfl ?_
                              refine y_astore (lv' := [(5, .ref q124), (4, .int (ptk t)), (3, .int (nI (2 * (fa_cnt (fun k => tmB (((t.2 3 0).2.1) k)) 108)))), (2, .ref (u.2.2 4 0)), (1, .ref (u.2.2 3 0)), (0, .ref (ad 52))]) d_Mm_pour_126 (by decide) rfl ?_
                              refine y_iconst d_Mm_pour_128 (v := 4) (by decide) ?_
                              refine y_newa_long (N := 4) ac_long d_Mm_pour_129 (by decide) (by decide) (by decide) (by omega) (by omega) (fun q129 => ?_)
                              refine y_cs (cs2 := [((ad 52), .inr (12, [.int v_m_th, .ref (ad 53), .int (nI (((pox t).1 52).2.2 0)), .ref (ad 54), .ref (ad 55), .ref (ad 56), .ref (ad 57), .ref (ad 58), .ref (ad 59), .ref (ad 60), .ref (ad 61), .int (((pox t).1 52).1 0), .int (((pox t).1 52).1 1), .int (((pox t).1 52).1 2), .int (((pox t).1 52).1 3), .int (((pox t).1 52).1 4), .int (((pox t).1 52).1 5), .ref (ad 62), .ref (ad 63), .ref (ad 64), .int (((pox t).1 52).1 6), .int (((pox t).1 52).1 7), .int (((pox t).1 52).1 8), .int (((pox t).1 52).1 9), .int (((pox t).1 52).1 10), .ref (ad 65), .ref (ad 66), .ref (ad 67), .ref (ad 68), .long (((pox t).1 52).2.1 0), .long (((pox t).1 52).2.1 1)])), ((ad 63), .inl (0, 4, .inl (((pox t).1 63).1))), ((ad 64), .inl (3, 16, .inr (.inl (((pox t).1 64).2.1)))), ((ad 54), .inl (0, 108, .inl v_mf_f)), ((ad 55), .inl (0, 108, .inl v_mh_f)), ((ad 56), .inl (0, 108, .inl v_mn_f)), ((ad 57), .inl (0, 108, .inl v_mt_f)), ((ad 58), .inl (0, 108, .inl v_mz_f)), ((ad 59), .inl (2, 108, .inl v_mc__f)), ((ad 60), .inl (0, 108, .inl (fun k => nI (v_mq_h k)))), ((ad 61), .inl (0, 108, .inl v_mgr_f)), ((u.2.2 3 0), .inl (1, 108, .inl ((t.2 3 0).2.1))), ((u.2.2 4 0), .inl (0, 5, .inl ((t.2 4 0).2.1))), (q124, .inl (0, 6, .inl (fun _ => 0))), (q129, .inl (3, 4, .inr (.inl (fun _ => 0))))]) rfl ?_
                              refine y_astore (lv' := [(6, .ref q129), (5, .ref q124), (4, .int (ptk t)), (3, .int (nI (2 * (fa_cnt (fun k => tmB (((t.2 3 0).2.1) k)) 108)))), (2, .ref (u.2.2 4 0)), (1, .ref (u.2.2 3 0)), (0, .ref (ad 52))]) d_Mm_pour_131 (by decide) rfl ?_
                              refine y_aload_n d_Mm_pour_133 rfl 6 rfl ?_
                              refine y_get fs_Mm_62 d_Mm_pour_134 (q0 := 0) rfl rfl ?_
                              refine y_iconst d_Mm_pour_137 (v := 1) (by decide) ?_
                              refine y_iald d_Mm_pour_138 (q0 := 1) rfl (fun q => q.elim (by decide) (by decide)) (v := (((pox t).1 63).1) 1) rfl ?_
                              refine y_istore (lv' := [(7, .int ((((pox t).1 63).1) 1)), (6, .ref q129), (5, .ref q124), (4, .int (ptk t)), (3, .int (nI (2 * (fa_cnt (fun k => tmB (((t.2 3 0).2.1) k)) 108)))), (2, .ref (u.2.2 4 0)), (1, .ref (u.2.2 3 0)), (0, .ref (ad 52))]) d_Mm_pour_139 (by decide) rfl ?_
                              refine y_iconst d_Mm_pour_141 (v := 0) (by decide) ?_
                              refine y_istore (lv' := [(8, .int 0), (7, .int ((((pox t).1 63).1) 1)), (6, .ref q129), (5, .ref q124), (4, .int (ptk t)), (3, .int (nI (2 * (fa_cnt (fun k => tmB (((t.2 3 0).2.1) k)) 108)))), (2, .ref (u.2.2 4 0)), (1, .ref (u.2.2 3 0)), (0, .ref (ad 52))]) d_Mm_pour_142 (by decide) rfl ?_
                              refine LKx_pour g v_m_th (nI (((pox t).1 52).2.2 0)) (((pox t).1 52).1 0) (((pox t).1 52).1 1) (((pox t).1 52).1 2) (((pox t).1 52).1 3) (((pox t).1 52).1 4) (((pox t).1 52).1 5) (((pox t).1 52).1 6) (((pox t).1 52).1 7) (((pox t).1 52).1 8) (((pox t).1 52).1 9) (((pox t).1 52).1 10) (((pox t).1 52).2.1 0) (((pox t).1 52).2.1 1) v_mf_f v_mh_f v_mn_f v_mt_f v_mz_f v_mc__f v_mgr_f ((t.2 3 0).2.1) ((t.2 4 0).2.1) (((pox t).1 63).1) v_mq_h (u.2.2 3 0) (u.2.2 4 0) q124 q129 (ptk t) (nI (2 * (fa_cnt (fun k => tmB (((t.2 3 0).2.1) k)) 108))) (((pox t).1 64).2.1) h1 (fun _ => ?_) (4 + 1) 0 (Nat.zero_le _) (by omega)
                              refine y_aload_n d_Mm_pour_195 rfl 6 rfl ?_
                              refine y_get fs_Mm_62 d_Mm_pour_196 (q0 := 0) rfl rfl ?_
                              refine y_iconst d_Mm_pour_199 (v := 1) (by decide) ?_
                              refine y_dup2_11 d_Mm_pour_200 rfl rfl ?_
                              refine y_iald d_Mm_pour_201 (q0 := 1) rfl (fun q => q.elim (by decide) (by decide)) (v := (((pox t).1 63).1) 1) rfl ?_
                              refine y_iload d_Mm_pour_202 2 rfl ?_
                              refine y_isub d_Mm_pour_204 (v := ((((pox t).1 63).1) 1) - (ptk t)) rfl ?_
                              refine y_iast d_Mm_pour_205 (q0 := 1) rfl (fun q => q.elim (by decide) (by decide)) (f' := upd (((pox t).1 63).1) 1 (((((pox t).1 63).1) 1) - (ptk t))) rfl (cs' := [((ad 52), .inr (12, [.int v_m_th, .ref (ad 53), .int (nI (((pox t).1 52).2.2 0)), .ref (ad 54), .ref (ad 55), .ref (ad 56), .ref (ad 57), .ref (ad 58), .ref (ad 59), .ref (ad 60), .ref (ad 61), .int (((pox t).1 52).1 0), .int (((pox t).1 52).1 1), .int (((pox t).1 52).1 2), .int (((pox t).1 52).1 3), .int (((pox t).1 52).1 4), .int (((pox t).1 52).1 5), .ref (ad 62), .ref (ad 63), .ref (ad 64), .int (((pox t).1 52).1 6), .int (((pox t).1 52).1 7), .int (((pox t).1 52).1 8), .int (((pox t).1 52).1 9), .int (((pox t).1 52).1 10), .ref (ad 65), .ref (ad 66), .ref (ad 67), .ref (ad 68), .long (((pox t).1 52).2.1 0), .long (((pox t).1 52).2.1 1)])), ((ad 63), .inl (0, 4, .inl (upd (((pox t).1 63).1) 1 (((((pox t).1 63).1) 1) - (ptk t))))), ((ad 64), .inl (3, 16, .inr (.inl ((pgM (((pox t).1 64).2.1) (ptk t) ((((pox t).1 63).1) 1) 4).1)))), ((ad 54), .inl (0, 108, .inl v_mf_f)), ((ad 55), .inl (0, 108, .inl v_mh_f)), ((ad 56), .inl (0, 108, .inl v_mn_f)), ((ad 57), .inl (0, 108, .inl v_mt_f)), ((ad 58), .inl (0, 108, .inl v_mz_f)), ((ad 59), .inl (2, 108, .inl v_mc__f)), ((ad 60), .inl (0, 108, .inl (fun k => nI (v_mq_h k)))), ((ad 61), .inl (0, 108, .inl v_mgr_f)), ((u.2.2 3 0), .inl (1, 108, .inl ((t.2 3 0).2.1))), ((u.2.2 4 0), .inl (0, 5, .inl ((t.2 4 0).2.1))), (q124, .inl (0, 6, .inl (fun _ => 0))), (q129, .inl (3, 4, .inr (.inl ((pgM (((pox t).1 64).2.1) (ptk t) ((((pox t).1 63).1) 1) 4).2))))]) rfl ?_
                              refine y_aload_n d_Mm_pour_206 rfl 6 rfl ?_
                              refine y_dup d_Mm_pour_207 rfl ?_
                              refine y_get fs_Mm_293 d_Mm_pour_208 (q0 := 0) rfl rfl ?_
                              refine y_iload d_Mm_pour_211 2 rfl ?_
                              refine y_i2l d_Mm_pour_213 (v := (ptk t).toInt64) rfl ?_
                              refine y_ladd d_Mm_pour_214 (v := (((pox t).1 52).2.1 0) + ((ptk t).toInt64)) rfl ?_
                              refine y_put fp_Mm_293 d_Mm_pour_215 (fun h => nomatch h) rfl rfl (q0 := 0) rfl (Nat.le_of_ble_eq_true rfl) (cs' := [((ad 52), .inr (12, [.int v_m_th, .ref (ad 53), .int (nI (((pox t).1 52).2.2 0)), .ref (ad 54), .ref (ad 55), .ref (ad 56), .ref (ad 57), .ref (ad 58), .ref (ad 59), .ref (ad 60), .ref (ad 61), .int (((pox t).1 52).1 0), .int (((pox t).1 52).1 1), .int (((pox t).1 52).1 2), .int (((pox t).1 52).1 3), .int (((pox t).1 52).1 4), .int (((pox t).1 52).1 5), .ref (ad 62), .ref (ad 63), .ref (ad 64), .int (((pox t).1 52).1 6), .int (((pox t).1 52).1 7), .int (((pox t).1 52).1 8), .int (((pox t).1 52).1 9), .int (((pox t).1 52).1 10), .ref (ad 65), .ref (ad 66), .ref (ad 67), .ref (ad 68), .long ((((pox t).1 52).2.1 0) + ((ptk t).toInt64)), .long (((pox t).1 52).2.1 1)])), ((ad 63), .inl (0, 4, .inl (upd (((pox t).1 63).1) 1 (((((pox t).1 63).1) 1) - (ptk t))))), ((ad 64), .inl (3, 16, .inr (.inl ((pgM (((pox t).1 64).2.1) (ptk t) ((((pox t).1 63).1) 1) 4).1)))), ((ad 54), .inl (0, 108, .inl v_mf_f)), ((ad 55), .inl (0, 108, .inl v_mh_f)), ((ad 56), .inl (0, 108, .inl v_mn_f)), ((ad 57), .inl (0, 108, .inl v_mt_f)), ((ad 58), .inl (0, 108, .inl v_mz_f)), ((ad 59), .inl (2, 108, .inl v_mc__f)), ((ad 60), .inl (0, 108, .inl (fun k => nI (v_mq_h k)))), ((ad 61), .inl (0, 108, .inl v_mgr_f)), ((u.2.2 3 0), .inl (1, 108, .inl ((t.2 3 0).2.1))), ((u.2.2 4 0), .inl (0, 5, .inl ((t.2 4 0).2.1))), (q124, .inl (0, 6, .inl (fun _ => 0))), (q129, .inl (3, 4, .inr (.inl ((pgM (((pox t).1 64).2.1) (ptk t) ((((pox t).1 63).1) 1) 4).2))))]) rfl ?_
                              refine y_aload d_Mm_pour_218 1 rfl ?_
                              refine y_iconst d_Mm_pour_220 (v := 0) (by decide) ?_
                              refine y_iload d_Mm_pour_221 2 rfl ?_
                              refine y_iast d_Mm_pour_223 (q0 := 13) rfl (fun q => q.elim (by decide) (by decide)) (f' := upd (fun _ => 0) 0 (ptk t)) rfl (cs' := [((ad 52), .inr (12, [.int v_m_th, .ref (ad 53), .int (nI (((pox t).1 52).2.2 0)), .ref (ad 54), .ref (ad 55), .ref (ad 56), .ref (ad 57), .ref (ad 58), .ref (ad 59), .ref (ad 60), .ref (ad 61), .int (((pox t).1 52).1 0), .int (((pox t).1 52).1 1), .int (((pox t).1 52).1 2), .int (((pox t).1 52).1 3), .int (((pox t).1 52).1 4), .int (((pox t).1 52).1 5), .ref (ad 62), .ref (ad 63), .ref (ad 64), .int (((pox t).1 52).1 6), .int (((pox t).1 52).1 7), .int (((pox t).1 52).1 8), .int (((pox t).1 52).1 9), .int (((pox t).1 52).1 10), .ref (ad 65), .ref (ad 66), .ref (ad 67), .ref (ad 68), .long ((((pox t).1 52).2.1 0) + ((ptk t).toInt64)), .long (((pox t).1 52).2.1 1)])), ((ad 63), .inl (0, 4, .inl (upd (((pox t).1 63).1) 1 (((((pox t).1 63).1) 1) - (ptk t))))), ((ad 64), .inl (3, 16, .inr (.inl ((pgM (((pox t).1 64).2.1) (ptk t) ((((pox t).1 63).1) 1) 4).1)))), ((ad 54), .inl (0, 108, .inl v_mf_f)), ((ad 55), .inl (0, 108, .inl v_mh_f)), ((ad 56), .inl (0, 108, .inl v_mn_f)), ((ad 57), .inl (0, 108, .inl v_mt_f)), ((ad 58), .inl (0, 108, .inl v_mz_f)), ((ad 59), .inl (2, 108, .inl v_mc__f)), ((ad 60), .inl (0, 108, .inl (fun k => nI (v_mq_h k)))), ((ad 61), .inl (0, 108, .inl v_mgr_f)), ((u.2.2 3 0), .inl (1, 108, .inl ((t.2 3 0).2.1))), ((u.2.2 4 0), .inl (0, 5, .inl ((t.2 4 0).2.1))), (q124, .inl (0, 6, .inl (upd (fun _ => 0) 0 (ptk t)))), (q129, .inl (3, 4, .inr (.inl ((pgM (((pox t).1 64).2.1) (ptk t) ((((pox t).1 63).1) 1) 4).2))))]) rfl ?_
                              refine y_aload d_Mm_pour_224 1 rfl ?_
                              refine y_iconst d_Mm_pour_226 (v := 1) (by decide) ?_
                              refine y_aload_n d_Mm_pour_227 rfl 6 rfl ?_
                              refine y_get fs_Mm_260 d_Mm_pour_228 (q0 := 0) rfl rfl ?_
                              refine y_iast d_Mm_pour_231 (q0 := 13) rfl (fun q => q.elim (by decide) (by decide)) (f' := upd (upd (fun _ => 0) 0 (ptk t)) 1 (((pox t).1 52).1 7)) rfl (cs' := [((ad 52), .inr (12, [.int v_m_th, .ref (ad 53), .int (nI (((pox t).1 52).2.2 0)), .ref (ad 54), .ref (ad 55), .ref (ad 56), .ref (ad 57), .ref (ad 58), .ref (ad 59), .ref (ad 60), .ref (ad 61), .int (((pox t).1 52).1 0), .int (((pox t).1 52).1 1), .int (((pox t).1 52).1 2), .int (((pox t).1 52).1 3), .int (((pox t).1 52).1 4), .int (((pox t).1 52).1 5), .ref (ad 62), .ref (ad 63), .ref (ad 64), .int (((pox t).1 52).1 6), .int (((pox t).1 52).1 7), .int (((pox t).1 52).1 8), .int (((pox t).1 52).1 9), .int (((pox t).1 52).1 10), .ref (ad 65), .ref (ad 66), .ref (ad 67), .ref (ad 68), .long ((((pox t).1 52).2.1 0) + ((ptk t).toInt64)), .long (((pox t).1 52).2.1 1)])), ((ad 63), .inl (0, 4, .inl (upd (((pox t).1 63).1) 1 (((((pox t).1 63).1) 1) - (ptk t))))), ((ad 64), .inl (3, 16, .inr (.inl ((pgM (((pox t).1 64).2.1) (ptk t) ((((pox t).1 63).1) 1) 4).1)))), ((ad 54), .inl (0, 108, .inl v_mf_f)), ((ad 55), .inl (0, 108, .inl v_mh_f)), ((ad 56), .inl (0, 108, .inl v_mn_f)), ((ad 57), .inl (0, 108, .inl v_mt_f)), ((ad 58), .inl (0, 108, .inl v_mz_f)), ((ad 59), .inl (2, 108, .inl v_mc__f)), ((ad 60), .inl (0, 108, .inl (fun k => nI (v_mq_h k)))), ((ad 61), .inl (0, 108, .inl v_mgr_f)), ((u.2.2 3 0), .inl (1, 108, .inl ((t.2 3 0).2.1))), ((u.2.2 4 0), .inl (0, 5, .inl ((t.2 4 0).2.1))), (q124, .inl (0, 6, .inl (upd (upd (fun _ => 0) 0 (ptk t)) 1 (((pox t).1 52).1 7)))), (q129, .inl (3, 4, .inr (.inl ((pgM (((pox t).1 64).2.1) (ptk t) ((((pox t).1 63).1) 1) 4).2))))]) rfl ?_
                              refine y_aload d_Mm_pour_232 1 rfl ?_
                              refine y_iconst d_Mm_pour_234 (v := 3) (by decide) ?_
                              refine y_aload_n d_Mm_pour_235 rfl 6 rfl ?_
                              refine y_aload_n d_Mm_pour_236 rfl 5 rfl ?_
                              refine y_aload_n d_Mm_pour_237 rfl 6 rfl ?_
                              refine y_get fs_Mm_257 d_Mm_pour_238 (q0 := 0) rfl rfl ?_
                              refine y_callV (As := [.ref (u.2.2 3 0), .int (((pox t).1 52).1 6)]) (rest := [.int 3, .ref q124]) (csC := [((ad 52), .inr (12, [.int v_m_th, .ref (ad 53), .int (nI (((pox t).1 52).2.2 0)), .ref (ad 54), .ref (ad 55), .ref (ad 56), .ref (ad 57), .ref (ad 58), .ref (ad 59), .ref (ad 60), .ref (ad 61), .int (((pox t).1 52).1 0), .int (((pox t).1 52).1 1), .int (((pox t).1 52).1 2), .int (((pox t).1 52).1 3), .int (((pox t).1 52).1 4), .int (((pox t).1 52).1 5), .ref (ad 62), .ref (ad 63), .ref (ad 64), .int (((pox t).1 52).1 6), .int (((pox t).1 52).1 7), .int (((pox t).1 52).1 8), .int (((pox t).1 52).1 9), .int (((pox t).1 52).1 10), .ref (ad 65), .ref (ad 66), .ref (ad 67), .ref (ad 68), .long ((((pox t).1 52).2.1 0) + ((ptk t).toInt64)), .long (((pox t).1 52).2.1 1)])), ((u.2.2 3 0), .inl (1, 108, .inl ((t.2 3 0).2.1))), ((ad 54), .inl (0, 108, .inl v_mf_f)), ((ad 55), .inl (0, 108, .inl v_mh_f)), ((ad 57), .inl (0, 108, .inl v_mt_f)), ((ad 58), .inl (0, 108, .inl v_mz_f)), ((ad 56), .inl (0, 108, .inl v_mn_f)), ((ad 59), .inl (2, 108, .inl v_mc__f)), ((ad 60), .inl (0, 108, .inl (fun k => nI (v_mq_h k))))]) (is := [0, 11, 3, 4, 6, 7, 5, 8, 9]) (q0 := 0) rfl rfl ln_Mm_173 w_im_Mm_shrunkOf w_se_Mm_shrunkOf ok_Mm_pour_Mm_shrunkOf d_Mm_pour_241 (C_Mm_shrunkOf9 g (ad 52) (ad 53) (ad 54) (ad 55) (ad 56) (ad 57) (ad 58) (ad 59) (ad 60) (ad 61) (ad 62) (ad 63) (ad 64) (ad 65) (ad 66) (ad 67) (ad 68) v_m_th (nI (((pox t).1 52).2.2 0)) (((pox t).1 52).1 0) (((pox t).1 52).1 1) (((pox t).1 52).1 2) (((pox t).1 52).1 3) (((pox t).1 52).1 4) (((pox t).1 52).1 5) (((pox t).1 52).1 6) (((pox t).1 52).1 7) (((pox t).1 52).1 8) (((pox t).1 52).1 9) (((pox t).1 52).1 10) ((((pox t).1 52).2.1 0) + ((ptk t).toInt64)) (((pox t).1 52).2.1 1) (u.2.2 3 0) ((t.2 3 0).2.1) v_mf_f v_mh_f v_mn_f v_mt_f v_mz_f v_mc__f v_mq_h (((pox t).1 52).1 6)) rfl rfl (Nat.le_of_ble_eq_true rfl) rfl (by decide) (by omega) (by omega) (fun E cs1 hx => ?_) (fun v cs1 hx => ?_)
                              · exact absurd hx.1 (by simp)
                              · obtain ⟨e1, rfl⟩ := hx
                                cases e1
                                refine ⟨rfl, ?_⟩
                                refine y_st (st2 := [.int (nI (fa_cnt (scP ((t.2 3 0).2.1) (flC ((t.2 3 0).2.1) v_mf_f) (fdB ((t.2 3 0).2.1) (flC ((t.2 3 0).2.1) v_mf_f) (fa_fill (frG (flC ((t.2 3 0).2.1) v_mf_f) (frM ((t.2 3 0).2.1) (flC ((t.2 3 0).2.1) v_mf_f) v_mh_f v_mt_f v_mz_f v_mn_f (((pox t).1 52).1 6)).1.2.2.1) (frM ((t.2 3 0).2.1) (flC ((t.2 3 0).2.1) v_mf_f) v_mh_f v_mt_f v_mz_f v_mn_f (((pox t).1 52).1 6)).1.2.2.1 108) (fdA ((t.2 3 0).2.1) (flC ((t.2 3 0).2.1) v_mf_f) (v_mc__f, v_mq_h, 0, 0) 108) 108).1) 108)), .int 3, .ref q124]) rfl ?_
                                refine y_cs (cs2 := [((ad 52), .inr (12, [.int v_m_th, .ref (ad 53), .int (nI (((pox t).1 52).2.2 0)), .ref (ad 54), .ref (ad 55), .ref (ad 56), .ref (ad 57), .ref (ad 58), .ref (ad 59), .ref (ad 60), .ref (ad 61), .int (((pox t).1 52).1 0), .int (((pox t).1 52).1 1), .int (((pox t).1 52).1 2), .int (((pox t).1 52).1 3), .int (((pox t).1 52).1 4), .int (((pox t).1 52).1 5), .ref (ad 62), .ref (ad 63), .ref (ad 64), .int (((pox t).1 52).1 6), .int (((pox t).1 52).1 7), .int (((pox t).1 52).1 8), .int (((pox t).1 52).1 9), .int (((pox t).1 52).1 10), .ref (ad 65), .ref (ad 66), .ref (ad 67), .ref (ad 68), .long ((((pox t).1 52).2.1 0) + ((ptk t).toInt64)), .long (((pox t).1 52).2.1 1)])), ((ad 63), .inl (0, 4, .inl (upd (((pox t).1 63).1) 1 (((((pox t).1 63).1) 1) - (ptk t))))), ((ad 64), .inl (3, 16, .inr (.inl ((pgM (((pox t).1 64).2.1) (ptk t) ((((pox t).1 63).1) 1) 4).1)))), ((ad 54), .inl (0, 108, .inl (flC ((t.2 3 0).2.1) v_mf_f))), ((ad 55), .inl (0, 108, .inl ((frM ((t.2 3 0).2.1) (flC ((t.2 3 0).2.1) v_mf_f) v_mh_f v_mt_f v_mz_f v_mn_f (((pox t).1 52).1 6)).1.1))), ((ad 56), .inl (0, 108, .inl ((frM ((t.2 3 0).2.1) (flC ((t.2 3 0).2.1) v_mf_f) v_mh_f v_mt_f v_mz_f v_mn_f (((pox t).1 52).1 6)).2))), ((ad 57), .inl (0, 108, .inl ((frM ((t.2 3 0).2.1) (flC ((t.2 3 0).2.1) v_mf_f) v_mh_f v_mt_f v_mz_f v_mn_f (((pox t).1 52).1 6)).1.2.1))), ((ad 58), .inl (0, 108, .inl (fa_fill (frG (flC ((t.2 3 0).2.1) v_mf_f) (frM ((t.2 3 0).2.1) (flC ((t.2 3 0).2.1) v_mf_f) v_mh_f v_mt_f v_mz_f v_mn_f (((pox t).1 52).1 6)).1.2.2.1) (frM ((t.2 3 0).2.1) (flC ((t.2 3 0).2.1) v_mf_f) v_mh_f v_mt_f v_mz_f v_mn_f (((pox t).1 52).1 6)).1.2.2.1 108))), ((ad 59), .inl (2, 108, .inl ((fdB ((t.2 3 0).2.1) (flC ((t.2 3 0).2.1) v_mf_f) (fa_fill (frG (flC ((t.2 3 0).2.1) v_mf_f) (frM ((t.2 3 0).2.1) (flC ((t.2 3 0).2.1) v_mf_f) v_mh_f v_mt_f v_mz_f v_mn_f (((pox t).1 52).1 6)).1.2.2.1) (frM ((t.2 3 0).2.1) (flC ((t.2 3 0).2.1) v_mf_f) v_mh_f v_mt_f v_mz_f v_mn_f (((pox t).1 52).1 6)).1.2.2.1 108) (fdA ((t.2 3 0).2.1) (flC ((t.2 3 0).2.1) v_mf_f) (v_mc__f, v_mq_h, 0, 0) 108) 108).1))), ((ad 60), .inl (0, 108, .inl (fun k => nI ((fdB ((t.2 3 0).2.1) (flC ((t.2 3 0).2.1) v_mf_f) (fa_fill (frG (flC ((t.2 3 0).2.1) v_mf_f) (frM ((t.2 3 0).2.1) (flC ((t.2 3 0).2.1) v_mf_f) v_mh_f v_mt_f v_mz_f v_mn_f (((pox t).1 52).1 6)).1.2.2.1) (frM ((t.2 3 0).2.1) (flC ((t.2 3 0).2.1) v_mf_f) v_mh_f v_mt_f v_mz_f v_mn_f (((pox t).1 52).1 6)).1.2.2.1 108) (fdA ((t.2 3 0).2.1) (flC ((t.2 3 0).2.1) v_mf_f) (v_mc__f, v_mq_h, 0, 0) 108) 108).2.1 k)))), ((ad 61), .inl (0, 108, .inl v_mgr_f)), ((u.2.2 3 0), .inl (1, 108, .inl ((t.2 3 0).2.1))), ((u.2.2 4 0), .inl (0, 5, .inl ((t.2 4 0).2.1))), (q124, .inl (0, 6, .inl (upd (upd (fun _ => 0) 0 (ptk t)) 1 (((pox t).1 52).1 7)))), (q129, .inl (3, 4, .inr (.inl ((pgM (((pox t).1 64).2.1) (ptk t) ((((pox t).1 63).1) 1) 4).2))))]) rfl ?_
                                refine y_iast d_Mm_pour_244 (q0 := 13) rfl (fun q => q.elim (by decide) (by decide)) (f' := upd (upd (upd (fun _ => 0) 0 (ptk t)) 1 (((pox t).1 52).1 7)) 3 (nI (fa_cnt (scP ((t.2 3 0).2.1) (flC ((t.2 3 0).2.1) v_mf_f) (fdB ((t.2 3 0).2.1) (flC ((t.2 3 0).2.1) v_mf_f) (fa_fill (frG (flC ((t.2 3 0).2.1) v_mf_f) (frM ((t.2 3 0).2.1) (flC ((t.2 3 0).2.1) v_mf_f) v_mh_f v_mt_f v_mz_f v_mn_f (((pox t).1 52).1 6)).1.2.2.1) (frM ((t.2 3 0).2.1) (flC ((t.2 3 0).2.1) v_mf_f) v_mh_f v_mt_f v_mz_f v_mn_f (((pox t).1 52).1 6)).1.2.2.1 108) (fdA ((t.2 3 0).2.1) (flC ((t.2 3 0).2.1) v_mf_f) (v_mc__f, v_mq_h, 0, 0) 108) 108).1) 108))) rfl (cs' := [((ad 52), .inr (12, [.int v_m_th, .ref (ad 53), .int (nI (((pox t).1 52).2.2 0)), .ref (ad 54), .ref (ad 55), .ref (ad 56), .ref (ad 57), .ref (ad 58), .ref (ad 59), .ref (ad 60), .ref (ad 61), .int (((pox t).1 52).1 0), .int (((pox t).1 52).1 1), .int (((pox t).1 52).1 2), .int (((pox t).1 52).1 3), .int (((pox t).1 52).1 4), .int (((pox t).1 52).1 5), .ref (ad 62), .ref (ad 63), .ref (ad 64), .int (((pox t).1 52).1 6), .int (((pox t).1 52).1 7), .int (((pox t).1 52).1 8), .int (((pox t).1 52).1 9), .int (((pox t).1 52).1 10), .ref (ad 65), .ref (ad 66), .ref (ad 67), .ref (ad 68), .long ((((pox t).1 52).2.1 0) + ((ptk t).toInt64)), .long (((pox t).1 52).2.1 1)])), ((ad 63), .inl (0, 4, .inl (upd (((pox t).1 63).1) 1 (((((pox t).1 63).1) 1) - (ptk t))))), ((ad 64), .inl (3, 16, .inr (.inl ((pgM (((pox t).1 64).2.1) (ptk t) ((((pox t).1 63).1) 1) 4).1)))), ((ad 54), .inl (0, 108, .inl (flC ((t.2 3 0).2.1) v_mf_f))), ((ad 55), .inl (0, 108, .inl ((frM ((t.2 3 0).2.1) (flC ((t.2 3 0).2.1) v_mf_f) v_mh_f v_mt_f v_mz_f v_mn_f (((pox t).1 52).1 6)).1.1))), ((ad 56), .inl (0, 108, .inl ((frM ((t.2 3 0).2.1) (flC ((t.2 3 0).2.1) v_mf_f) v_mh_f v_mt_f v_mz_f v_mn_f (((pox t).1 52).1 6)).2))), ((ad 57), .inl (0, 108, .inl ((frM ((t.2 3 0).2.1) (flC ((t.2 3 0).2.1) v_mf_f) v_mh_f v_mt_f v_mz_f v_mn_f (((pox t).1 52).1 6)).1.2.1))), ((ad 58), .inl (0, 108, .inl (fa_fill (frG (flC ((t.2 3 0).2.1) v_mf_f) (frM ((t.2 3 0).2.1) (flC ((t.2 3 0).2.1) v_mf_f) v_mh_f v_mt_f v_mz_f v_mn_f (((pox t).1 52).1 6)).1.2.2.1) (frM ((t.2 3 0).2.1) (flC ((t.2 3 0).2.1) v_mf_f) v_mh_f v_mt_f v_mz_f v_mn_f (((pox t).1 52).1 6)).1.2.2.1 108))), ((ad 59), .inl (2, 108, .inl ((fdB ((t.2 3 0).2.1) (flC ((t.2 3 0).2.1) v_mf_f) (fa_fill (frG (flC ((t.2 3 0).2.1) v_mf_f) (frM ((t.2 3 0).2.1) (flC ((t.2 3 0).2.1) v_mf_f) v_mh_f v_mt_f v_mz_f v_mn_f (((pox t).1 52).1 6)).1.2.2.1) (frM ((t.2 3 0).2.1) (flC ((t.2 3 0).2.1) v_mf_f) v_mh_f v_mt_f v_mz_f v_mn_f (((pox t).1 52).1 6)).1.2.2.1 108) (fdA ((t.2 3 0).2.1) (flC ((t.2 3 0).2.1) v_mf_f) (v_mc__f, v_mq_h, 0, 0) 108) 108).1))), ((ad 60), .inl (0, 108, .inl (fun k => nI ((fdB ((t.2 3 0).2.1) (flC ((t.2 3 0).2.1) v_mf_f) (fa_fill (frG (flC ((t.2 3 0).2.1) v_mf_f) (frM ((t.2 3 0).2.1) (flC ((t.2 3 0).2.1) v_mf_f) v_mh_f v_mt_f v_mz_f v_mn_f (((pox t).1 52).1 6)).1.2.2.1) (frM ((t.2 3 0).2.1) (flC ((t.2 3 0).2.1) v_mf_f) v_mh_f v_mt_f v_mz_f v_mn_f (((pox t).1 52).1 6)).1.2.2.1 108) (fdA ((t.2 3 0).2.1) (flC ((t.2 3 0).2.1) v_mf_f) (v_mc__f, v_mq_h, 0, 0) 108) 108).2.1 k)))), ((ad 61), .inl (0, 108, .inl v_mgr_f)), ((u.2.2 3 0), .inl (1, 108, .inl ((t.2 3 0).2.1))), ((u.2.2 4 0), .inl (0, 5, .inl ((t.2 4 0).2.1))), (q124, .inl (0, 6, .inl (upd (upd (upd (fun _ => 0) 0 (ptk t)) 1 (((pox t).1 52).1 7)) 3 (nI (fa_cnt (scP ((t.2 3 0).2.1) (flC ((t.2 3 0).2.1) v_mf_f) (fdB ((t.2 3 0).2.1) (flC ((t.2 3 0).2.1) v_mf_f) (fa_fill (frG (flC ((t.2 3 0).2.1) v_mf_f) (frM ((t.2 3 0).2.1) (flC ((t.2 3 0).2.1) v_mf_f) v_mh_f v_mt_f v_mz_f v_mn_f (((pox t).1 52).1 6)).1.2.2.1) (frM ((t.2 3 0).2.1) (flC ((t.2 3 0).2.1) v_mf_f) v_mh_f v_mt_f v_mz_f v_mn_f (((pox t).1 52).1 6)).1.2.2.1 108) (fdA ((t.2 3 0).2.1) (flC ((t.2 3 0).2.1) v_mf_f) (v_mc__f, v_mq_h, 0, 0) 108) 108).1) 108))))), (q129, .inl (3, 4, .inr (.inl ((pgM (((pox t).1 64).2.1) (ptk t) ((((pox t).1 63).1) 1) 4).2))))]) rfl ?_
                                have hSH : (nI (fa_cnt (scP ((t.2 3 0).2.1) (flC ((t.2 3 0).2.1) v_mf_f) (fdB ((t.2 3 0).2.1) (flC ((t.2 3 0).2.1) v_mf_f) (fa_fill (frG (flC ((t.2 3 0).2.1) v_mf_f) (frM ((t.2 3 0).2.1) (flC ((t.2 3 0).2.1) v_mf_f) v_mh_f v_mt_f v_mz_f v_mn_f (((pox t).1 52).1 6)).1.2.2.1) (frM ((t.2 3 0).2.1) (flC ((t.2 3 0).2.1) v_mf_f) v_mh_f v_mt_f v_mz_f v_mn_f (((pox t).1 52).1 6)).1.2.2.1 108) (fdA ((t.2 3 0).2.1) (flC ((t.2 3 0).2.1) v_mf_f) (v_mc__f, v_mq_h, 0, 0) 108) 108).1) 108)) = (pSh t v_mf_f v_mh_f v_mn_f v_mt_f v_mz_f v_mc__f v_mq_h) := by rw [show ((pox t).1 52).1 6 = (t.1 52).1 6 from rfl]; exact pSh_e t v_mf_f v_mh_f v_mn_f v_mt_f v_mz_f v_mc__f v_mq_h
                                refine y_cs (cs2 := [((ad 52), .inr (12, [.int v_m_th, .ref (ad 53), .int (nI (((pox t).1 52).2.2 0)), .ref (ad 54), .ref (ad 55), .ref (ad 56), .ref (ad 57), .ref (ad 58), .ref (ad 59), .ref (ad 60), .ref (ad 61), .int (((pox t).1 52).1 0), .int (((pox t).1 52).1 1), .int (((pox t).1 52).1 2), .int (((pox t).1 52).1 3), .int (((pox t).1 52).1 4), .int (((pox t).1 52).1 5), .ref (ad 62), .ref (ad 63), .ref (ad 64), .int (((pox t).1 52).1 6), .int (((pox t).1 52).1 7), .int (((pox t).1 52).1 8), .int (((pox t).1 52).1 9), .int (((pox t).1 52).1 10), .ref (ad 65), .ref (ad 66), .ref (ad 67), .ref (ad 68), .long ((((pox t).1 52).2.1 0) + ((ptk t).toInt64)), .long (((pox t).1 52).2.1 1)])), ((ad 63), .inl (0, 4, .inl (upd (((pox t).1 63).1) 1 (((((pox t).1 63).1) 1) - (ptk t))))), ((ad 64), .inl (3, 16, .inr (.inl ((pgM (((pox t).1 64).2.1) (ptk t) ((((pox t).1 63).1) 1) 4).1)))), ((ad 54), .inl (0, 108, .inl (flC ((t.2 3 0).2.1) v_mf_f))), ((ad 55), .inl (0, 108, .inl ((frM ((t.2 3 0).2.1) (flC ((t.2 3 0).2.1) v_mf_f) v_mh_f v_mt_f v_mz_f v_mn_f (((pox t).1 52).1 6)).1.1))), ((ad 56), .inl (0, 108, .inl ((frM ((t.2 3 0).2.1) (flC ((t.2 3 0).2.1) v_mf_f) v_mh_f v_mt_f v_mz_f v_mn_f (((pox t).1 52).1 6)).2))), ((ad 57), .inl (0, 108, .inl ((frM ((t.2 3 0).2.1) (flC ((t.2 3 0).2.1) v_mf_f) v_mh_f v_mt_f v_mz_f v_mn_f (((pox t).1 52).1 6)).1.2.1))), ((ad 58), .inl (0, 108, .inl (fa_fill (frG (flC ((t.2 3 0).2.1) v_mf_f) (frM ((t.2 3 0).2.1) (flC ((t.2 3 0).2.1) v_mf_f) v_mh_f v_mt_f v_mz_f v_mn_f (((pox t).1 52).1 6)).1.2.2.1) (frM ((t.2 3 0).2.1) (flC ((t.2 3 0).2.1) v_mf_f) v_mh_f v_mt_f v_mz_f v_mn_f (((pox t).1 52).1 6)).1.2.2.1 108))), ((ad 59), .inl (2, 108, .inl ((fdB ((t.2 3 0).2.1) (flC ((t.2 3 0).2.1) v_mf_f) (fa_fill (frG (flC ((t.2 3 0).2.1) v_mf_f) (frM ((t.2 3 0).2.1) (flC ((t.2 3 0).2.1) v_mf_f) v_mh_f v_mt_f v_mz_f v_mn_f (((pox t).1 52).1 6)).1.2.2.1) (frM ((t.2 3 0).2.1) (flC ((t.2 3 0).2.1) v_mf_f) v_mh_f v_mt_f v_mz_f v_mn_f (((pox t).1 52).1 6)).1.2.2.1 108) (fdA ((t.2 3 0).2.1) (flC ((t.2 3 0).2.1) v_mf_f) (v_mc__f, v_mq_h, 0, 0) 108) 108).1))), ((ad 60), .inl (0, 108, .inl (fun k => nI ((fdB ((t.2 3 0).2.1) (flC ((t.2 3 0).2.1) v_mf_f) (fa_fill (frG (flC ((t.2 3 0).2.1) v_mf_f) (frM ((t.2 3 0).2.1) (flC ((t.2 3 0).2.1) v_mf_f) v_mh_f v_mt_f v_mz_f v_mn_f (((pox t).1 52).1 6)).1.2.2.1) (frM ((t.2 3 0).2.1) (flC ((t.2 3 0).2.1) v_mf_f) v_mh_f v_mt_f v_mz_f v_mn_f (((pox t).1 52).1 6)).1.2.2.1 108) (fdA ((t.2 3 0).2.1) (flC ((t.2 3 0).2.1) v_mf_f) (v_mc__f, v_mq_h, 0, 0) 108) 108).2.1 k)))), ((ad 61), .inl (0, 108, .inl v_mgr_f)), ((u.2.2 3 0), .inl (1, 108, .inl ((t.2 3 0).2.1))), ((u.2.2 4 0), .inl (0, 5, .inl ((t.2 4 0).2.1))), (q124, .inl (0, 6, .inl (upd (upd (upd (fun _ => 0) 0 (ptk t)) 1 (((pox t).1 52).1 7)) 3 (pSh t v_mf_f v_mh_f v_mn_f v_mt_f v_mz_f v_mc__f v_mq_h)))), (q129, .inl (3, 4, .inr (.inl ((pgM (((pox t).1 64).2.1) (ptk t) ((((pox t).1 63).1) 1) 4).2))))]) (by rw [hSH] <;> rfl) ?_
                                refine Jx1_pour g v_m_th (nI (((pox t).1 52).2.2 0)) (((pox t).1 52).1 0) (((pox t).1 52).1 1) (((pox t).1 52).1 2) (((pox t).1 52).1 3) (((pox t).1 52).1 4) (((pox t).1 52).1 5) (((pox t).1 52).1 6) (((pox t).1 52).1 7) (((pox t).1 52).1 8) (((pox t).1 52).1 9) (((pox t).1 52).1 10) ((((pox t).1 52).2.1 0) + ((ptk t).toInt64)) (((pox t).1 52).2.1 1) (flC ((t.2 3 0).2.1) v_mf_f) ((frM ((t.2 3 0).2.1) (flC ((t.2 3 0).2.1) v_mf_f) v_mh_f v_mt_f v_mz_f v_mn_f (((pox t).1 52).1 6)).1.1) ((frM ((t.2 3 0).2.1) (flC ((t.2 3 0).2.1) v_mf_f) v_mh_f v_mt_f v_mz_f v_mn_f (((pox t).1 52).1 6)).2) ((frM ((t.2 3 0).2.1) (flC ((t.2 3 0).2.1) v_mf_f) v_mh_f v_mt_f v_mz_f v_mn_f (((pox t).1 52).1 6)).1.2.1) (fa_fill (frG (flC ((t.2 3 0).2.1) v_mf_f) (frM ((t.2 3 0).2.1) (flC ((t.2 3 0).2.1) v_mf_f) v_mh_f v_mt_f v_mz_f v_mn_f (((pox t).1 52).1 6)).1.2.2.1) (frM ((t.2 3 0).2.1) (flC ((t.2 3 0).2.1) v_mf_f) v_mh_f v_mt_f v_mz_f v_mn_f (((pox t).1 52).1 6)).1.2.2.1 108) ((fdB ((t.2 3 0).2.1) (flC ((t.2 3 0).2.1) v_mf_f) (fa_fill (frG (flC ((t.2 3 0).2.1) v_mf_f) (frM ((t.2 3 0).2.1) (flC ((t.2 3 0).2.1) v_mf_f) v_mh_f v_mt_f v_mz_f v_mn_f (((pox t).1 52).1 6)).1.2.2.1) (frM ((t.2 3 0).2.1) (flC ((t.2 3 0).2.1) v_mf_f) v_mh_f v_mt_f v_mz_f v_mn_f (((pox t).1 52).1 6)).1.2.2.1 108) (fdA ((t.2 3 0).2.1) (flC ((t.2 3 0).2.1) v_mf_f) (v_mc__f, v_mq_h, 0, 0) 108) 108).1) v_mgr_f ((t.2 3 0).2.1) ((t.2 4 0).2.1) (upd (((pox t).1 63).1) 1 (((((pox t).1 63).1) 1) - (ptk t))) (upd (upd (upd (fun _ => 0) 0 (ptk t)) 1 (((pox t).1 52).1 7)) 3 (pSh t v_mf_f v_mh_f v_mn_f v_mt_f v_mz_f v_mc__f v_mq_h)) ((fdB ((t.2 3 0).2.1) (flC ((t.2 3 0).2.1) v_mf_f) (fa_fill (frG (flC ((t.2 3 0).2.1) v_mf_f) (frM ((t.2 3 0).2.1) (flC ((t.2 3 0).2.1) v_mf_f) v_mh_f v_mt_f v_mz_f v_mn_f (((pox t).1 52).1 6)).1.2.2.1) (frM ((t.2 3 0).2.1) (flC ((t.2 3 0).2.1) v_mf_f) v_mh_f v_mt_f v_mz_f v_mn_f (((pox t).1 52).1 6)).1.2.2.1 108) (fdA ((t.2 3 0).2.1) (flC ((t.2 3 0).2.1) v_mf_f) (v_mc__f, v_mq_h, 0, 0) 108) 108).2.1) ((pgM (((pox t).1 64).2.1) (ptk t) ((((pox t).1 63).1) 1) 4).1) ((pgM (((pox t).1 64).2.1) (ptk t) ((((pox t).1 63).1) 1) 4).2) (u.2.2 3 0) (u.2.2 4 0) q124 q129 ((t.2 4 0).2.2.2 0) (ptk t) (nI (2 * (fa_cnt (fun k => tmB (((t.2 3 0).2.1) k)) 108))) hT hch_i hg_i h0_n.1 h0_n.2 (vl_C (t.2 3 0).2.1 v_mf_f) (pSh t v_mf_f v_mh_f v_mn_f v_mt_f v_mz_f v_mc__f v_mq_h) upd_eq (fun gp qn => ?_)
                                refine y_aload d_Mm_pour_461 2 rfl ?_
                                refine y_iconst d_Mm_pour_463 (v := 2) (by decide) ?_
                                refine y_iload d_Mm_pour_464 0 rfl ?_
                                refine y_iast d_Mm_pour_466 (q0 := 13) rfl (fun q => q.elim (by decide) (by decide)) (f' := upd (upd (upd (upd (upd (fun _ => 0) 0 (ptk t)) 1 (((pox t).1 52).1 7)) 3 (pSh t v_mf_f v_mh_f v_mn_f v_mt_f v_mz_f v_mc__f v_mq_h)) 4 (pE4 (((pox t).1 52).1 7))) 2 (pfF ((t.2 3 0).2.1) ((t.2 4 0).2.1) ((t.2 4 0).2.2.2 0) ((pgM (((pox t).1 64).2.1) (ptk t) ((((pox t).1 63).1) 1) 4).2) (ptk t) (((pox t).1 52).1 7) (pSh t v_mf_f v_mh_f v_mn_f v_mt_f v_mz_f v_mc__f v_mq_h) (icQ ((t.2 3 0).2.1) (flC ((t.2 3 0).2.1) v_mf_f) (((pox t).1 52).1 6) (decide ((ptk t) < (nI (2 * (fa_cnt (fun k => tmB (((t.2 3 0).2.1) k)) 108))))) 108))) rfl (cs' := [((ad 52), .inr (12, [.int v_m_th, .ref (ad 53), .int (nI (((pox t).1 52).2.2 0)), .ref (ad 54), .ref (ad 55), .ref (ad 56), .ref (ad 57), .ref (ad 58), .ref (ad 59), .ref (ad 60), .ref (ad 61), .int (((pox t).1 52).1 0), .int (((pox t).1 52).1 1), .int (((pox t).1 52).1 2), .int (((pox t).1 52).1 3), .int (((pox t).1 52).1 4), .int (((pox t).1 52).1 5), .ref (ad 62), .ref (ad 63), .ref (ad 64), .int (((pox t).1 52).1 6), .int (((pox t).1 52).1 7), .int (((pox t).1 52).1 8), .int (((pox t).1 52).1 9), .int (((pox t).1 52).1 10), .ref (ad 65), .ref (ad 66), .ref (ad 67), .ref (ad 68), .long ((((pox t).1 52).2.1 0) + ((ptk t).toInt64)), .long (((pox t).1 52).2.1 1)])), ((ad 63), .inl (0, 4, .inl (upd (((pox t).1 63).1) 1 (((((pox t).1 63).1) 1) - (ptk t))))), ((ad 64), .inl (3, 16, .inr (.inl ((pgM (((pox t).1 64).2.1) (ptk t) ((((pox t).1 63).1) 1) 4).1)))), ((ad 54), .inl (0, 108, .inl (flC ((t.2 3 0).2.1) v_mf_f))), ((ad 55), .inl (0, 108, .inl ((frM ((t.2 3 0).2.1) (flC ((t.2 3 0).2.1) v_mf_f) v_mh_f v_mt_f v_mz_f v_mn_f (((pox t).1 52).1 6)).1.1))), ((ad 56), .inl (0, 108, .inl ((frM ((t.2 3 0).2.1) (flC ((t.2 3 0).2.1) v_mf_f) v_mh_f v_mt_f v_mz_f v_mn_f (((pox t).1 52).1 6)).2))), ((ad 57), .inl (0, 108, .inl ((frM ((t.2 3 0).2.1) (flC ((t.2 3 0).2.1) v_mf_f) v_mh_f v_mt_f v_mz_f v_mn_f (((pox t).1 52).1 6)).1.2.1))), ((ad 58), .inl (0, 108, .inl (fa_fill (frG (flC ((t.2 3 0).2.1) v_mf_f) (frM ((t.2 3 0).2.1) (flC ((t.2 3 0).2.1) v_mf_f) v_mh_f v_mt_f v_mz_f v_mn_f (((pox t).1 52).1 6)).1.2.2.1) (frM ((t.2 3 0).2.1) (flC ((t.2 3 0).2.1) v_mf_f) v_mh_f v_mt_f v_mz_f v_mn_f (((pox t).1 52).1 6)).1.2.2.1 108))), ((ad 59), .inl (2, 108, .inl ((fdB ((t.2 3 0).2.1) (flC ((t.2 3 0).2.1) v_mf_f) (fa_fill (frG (flC ((t.2 3 0).2.1) v_mf_f) (frM ((t.2 3 0).2.1) (flC ((t.2 3 0).2.1) v_mf_f) v_mh_f v_mt_f v_mz_f v_mn_f (((pox t).1 52).1 6)).1.2.2.1) (frM ((t.2 3 0).2.1) (flC ((t.2 3 0).2.1) v_mf_f) v_mh_f v_mt_f v_mz_f v_mn_f (((pox t).1 52).1 6)).1.2.2.1 108) (fdA ((t.2 3 0).2.1) (flC ((t.2 3 0).2.1) v_mf_f) (v_mc__f, v_mq_h, 0, 0) 108) 108).1))), ((ad 60), .inl (0, 108, .inl (fun k => nI (qn k)))), ((ad 61), .inl (0, 108, .inl gp)), ((u.2.2 3 0), .inl (1, 108, .inl ((t.2 3 0).2.1))), ((u.2.2 4 0), .inl (0, 5, .inl ((t.2 4 0).2.1))), (q124, .inl (0, 6, .inl (upd (upd (upd (upd (upd (fun _ => 0) 0 (ptk t)) 1 (((pox t).1 52).1 7)) 3 (pSh t v_mf_f v_mh_f v_mn_f v_mt_f v_mz_f v_mc__f v_mq_h)) 4 (pE4 (((pox t).1 52).1 7))) 2 (pfF ((t.2 3 0).2.1) ((t.2 4 0).2.1) ((t.2 4 0).2.2.2 0) ((pgM (((pox t).1 64).2.1) (ptk t) ((((pox t).1 63).1) 1) 4).2) (ptk t) (((pox t).1 52).1 7) (pSh t v_mf_f v_mh_f v_mn_f v_mt_f v_mz_f v_mc__f v_mq_h) (icQ ((t.2 3 0).2.1) (flC ((t.2 3 0).2.1) v_mf_f) (((pox t).1 52).1 6) (decide ((ptk t) < (nI (2 * (fa_cnt (fun k => tmB (((t.2 3 0).2.1) k)) 108))))) 108))))), (q129, .inl (3, 4, .inr (.inl ((pgM (((pox t).1 64).2.1) (ptk t) ((((pox t).1 63).1) 1) 4).2))))]) rfl ?_
                                refine y_aload_n d_Mm_pour_467 rfl 3 rfl ?_
                                refine y_get fs_Mm_78 d_Mm_pour_468 (q0 := 0) rfl rfl ?_
                                refine y_aload d_Mm_pour_471 2 rfl ?_
                                refine yw_callVL (As := [.ref q124]) (rest := []) (ci := 13) rfl (fun wA hA => ((hI.gen (t2 := (zup (pox t).1 [(52, (((pox t).1 52).1, (vp_updL (((pox t).1 52).2.1) 0 ((((pox t).1 52).2.1 0) + ((ptk t).toInt64))), ((pox t).1 52).2.2)), (63, ((upd (((pox t).1 63).1) 1 (((((pox t).1 63).1) 1) - (ptk t))), ((pox t).1 63).2)), (64, (((pox t).1 64).1, ((pgM (((pox t).1 64).2.1) (ptk t) ((((pox t).1 63).1) 1) 4).1), ((pox t).1 64).2.2))], (pox t).2)) (is := [52, 63, 64, 54, 55, 56, 57, 58, 59, 60, 61]) (L2 := [(u.2.2 3 0), (u.2.2 4 0)]) hA rfl ⟨kd_52.mpr ⟨_, rfl⟩, kd_63.mpr rfl, kd_64.mpr rfl, kd_54.mpr ⟨_, rfl⟩, kd_55.mpr ⟨_, rfl⟩, kd_56.mpr ⟨_, rfl⟩, kd_57.mpr ⟨_, rfl⟩, kd_58.mpr ⟨_, rfl⟩, kd_59.mpr ⟨_, rfl⟩, kd_60.mpr ⟨_, rfl⟩, kd_61.mpr ⟨_, rfl⟩, trivial⟩ (by decide) (by decide) (List.forall_mem_cons.mpr ⟨nf_i, (List.forall_mem_cons.mpr ⟨nf_n, (fun _ h => nomatch h)⟩)⟩) (List.forall_mem_cons.mpr ⟨⟨_, hc96_11, hA.at (q0 := 11) rfl⟩, (List.forall_mem_cons.mpr ⟨⟨_, hw_n, hA.at (q0 := 12) rfl⟩, (fun _ h => nomatch h)⟩)⟩) (fun i hi hn => zup_out (fun q => hn ((by decide : ∀ j ∈ ([52, 63, 64] : List Nat), j ∈ ([52, 63, 64, 54, 55, 56, 57, 58, 59, 60, 61] : List Nat)) i q))) (fun h => h) rfl).2.1.1 5 (by decide)).ob) ln_Mm_219 w_im_AL_add_0 w_se_AL_add_0 ok_Mm_pour_AL_add_0 d_Mm_pour_473 (fun wA hA => Q_add ((hI.gen (t2 := (zup (pox t).1 [(52, (((pox t).1 52).1, (vp_updL (((pox t).1 52).2.1) 0 ((((pox t).1 52).2.1 0) + ((ptk t).toInt64))), ((pox t).1 52).2.2)), (63, ((upd (((pox t).1 63).1) 1 (((((pox t).1 63).1) 1) - (ptk t))), ((pox t).1 63).2)), (64, (((pox t).1 64).1, ((pgM (((pox t).1 64).2.1) (ptk t) ((((pox t).1 63).1) 1) 4).1), ((pox t).1 64).2.2))], (pox t).2)) (is := [52, 63, 64, 54, 55, 56, 57, 58, 59, 60, 61]) (L2 := [(u.2.2 3 0), (u.2.2 4 0)]) hA rfl ⟨kd_52.mpr ⟨_, rfl⟩, kd_63.mpr rfl, kd_64.mpr rfl, kd_54.mpr ⟨_, rfl⟩, kd_55.mpr ⟨_, rfl⟩, kd_56.mpr ⟨_, rfl⟩, kd_57.mpr ⟨_, rfl⟩, kd_58.mpr ⟨_, rfl⟩, kd_59.mpr ⟨_, rfl⟩, kd_60.mpr ⟨_, rfl⟩, kd_61.mpr ⟨_, rfl⟩, trivial⟩ (by decide) (by decide) (List.forall_mem_cons.mpr ⟨nf_i, (List.forall_mem_cons.mpr ⟨nf_n, (fun _ h => nomatch h)⟩)⟩) (List.forall_mem_cons.mpr ⟨⟨_, hc96_11, hA.at (q0 := 11) rfl⟩, (List.forall_mem_cons.mpr ⟨⟨_, hw_n, hA.at (q0 := 12) rfl⟩, (fun _ h => nomatch h)⟩)⟩) (fun i hi hn => zup_out (fun q => hn ((by decide : ∀ j ∈ ([52, 63, 64] : List Nat), j ∈ ([52, 63, 64, 54, 55, 56, 57, 58, 59, 60, 61] : List Nat)) i q))) (fun h => h) rfl).2.1.1 5 (by decide)) (fun k hk => ((hI.gen (t2 := (zup (pox t).1 [(52, (((pox t).1 52).1, (vp_updL (((pox t).1 52).2.1) 0 ((((pox t).1 52).2.1 0) + ((ptk t).toInt64))), ((pox t).1 52).2.2)), (63, ((upd (((pox t).1 63).1) 1 (((((pox t).1 63).1) 1) - (ptk t))), ((pox t).1 63).2)), (64, (((pox t).1 64).1, ((pgM (((pox t).1 64).2.1) (ptk t) ((((pox t).1 63).1) 1) 4).1), ((pox t).1 64).2.2))], (pox t).2)) (is := [52, 63, 64, 54, 55, 56, 57, 58, 59, 60, 61]) (L2 := [(u.2.2 3 0), (u.2.2 4 0)]) hA rfl ⟨kd_52.mpr ⟨_, rfl⟩, kd_63.mpr rfl, kd_64.mpr rfl, kd_54.mpr ⟨_, rfl⟩, kd_55.mpr ⟨_, rfl⟩, kd_56.mpr ⟨_, rfl⟩, kd_57.mpr ⟨_, rfl⟩, kd_58.mpr ⟨_, rfl⟩, kd_59.mpr ⟨_, rfl⟩, kd_60.mpr ⟨_, rfl⟩, kd_61.mpr ⟨_, rfl⟩, trivial⟩ (by decide) (by decide) (List.forall_mem_cons.mpr ⟨nf_i, (List.forall_mem_cons.mpr ⟨nf_n, (fun _ h => nomatch h)⟩)⟩) (List.forall_mem_cons.mpr ⟨⟨_, hc96_11, hA.at (q0 := 11) rfl⟩, (List.forall_mem_cons.mpr ⟨⟨_, hw_n, hA.at (q0 := 12) rfl⟩, (fun _ h => nomatch h)⟩)⟩) (fun i hi hn => zup_out (fun q => hn ((by decide : ∀ j ∈ ([52, 63, 64] : List Nat), j ∈ ([52, 63, 64, 54, 55, 56, 57, 58, 59, 60, 61] : List Nat)) i q))) (fun h => h) rfl).2.1.2.1 5 (by decide) k hk).elt5) (EL.elt5 ((⟨hI.1.nfr (hA.nw (k := 13) rfl (Nat.le_of_ble_eq_true rfl)), hA.at (q0 := 13) rfl, fun q => hT ((pcv_0 _ _ _).symm.trans q)⟩ : EL ad 5 _ _ (pcv9 t (pSh t v_mf_f v_mh_f v_mn_f v_mt_f v_mz_f v_mc__f v_mq_h) (pFb t v_mf_f v_mh_f v_mn_f v_mt_f v_mz_f v_mc__f v_mq_h))))) (by have h9 : u.1 5 ≤ 30 := hsz0.2.2.2.2.2.1; show u.1 5 < 33; omega)) rfl rfl (Nat.le_of_ble_eq_true rfl) (by omega) (by omega) (fun wA473 hA473 E wB473 hx => ?_) (fun wA473 hA473 v wB473 hx => ?_)
                                · exact absurd hx.1 (by simp)
                                · obtain ⟨e1, bk9, e2, e3, e4⟩ := hx
                                  cases e1
                                  refine yw_st (st2 := [.int 1]) rfl ?_
                                  have hsz := (hI.gen (t2 := (zup (pox t).1 [(52, (((pox t).1 52).1, (vp_updL (((pox t).1 52).2.1) 0 ((((pox t).1 52).2.1 0) + ((ptk t).toInt64))), ((pox t).1 52).2.2)), (63, ((upd (((pox t).1 63).1) 1 (((((pox t).1 63).1) 1) - (ptk t))), ((pox t).1 63).2)), (64, (((pox t).1 64).1, ((pgM (((pox t).1 64).2.1) (ptk t) ((((pox t).1 63).1) 1) 4).1), ((pox t).1 64).2.2))], (pox t).2)) (is := [52, 63, 64, 54, 55, 56, 57, 58, 59, 60, 61]) (L2 := [(u.2.2 3 0), (u.2.2 4 0)]) hA473 rfl ⟨kd_52.mpr ⟨_, rfl⟩, kd_63.mpr rfl, kd_64.mpr rfl, kd_54.mpr ⟨_, rfl⟩, kd_55.mpr ⟨_, rfl⟩, kd_56.mpr ⟨_, rfl⟩, kd_57.mpr ⟨_, rfl⟩, kd_58.mpr ⟨_, rfl⟩, kd_59.mpr ⟨_, rfl⟩, kd_60.mpr ⟨_, rfl⟩, kd_61.mpr ⟨_, rfl⟩, trivial⟩ (by decide) (by decide) (List.forall_mem_cons.mpr ⟨nf_i, (List.forall_mem_cons.mpr ⟨nf_n, (fun _ h => nomatch h)⟩)⟩) (List.forall_mem_cons.mpr ⟨⟨_, hc96_11, hA473.at (q0 := 11) rfl⟩, (List.forall_mem_cons.mpr ⟨⟨_, hw_n, hA473.at (q0 := 12) rfl⟩, (fun _ h => nomatch h)⟩)⟩) (fun i hi hn => zup_out (fun q => hn ((by decide : ∀ j ∈ ([52, 63, 64] : List Nat), j ∈ ([52, 63, 64, 54, 55, 56, 57, 58, 59, 60, 61] : List Nat)) i q))) (fun h => h) rfl).sz
                                  have hI8 := (hI.gen (t2 := (zup (pox t).1 [(52, (((pox t).1 52).1, (vp_updL (((pox t).1 52).2.1) 0 ((((pox t).1 52).2.1 0) + ((ptk t).toInt64))), ((pox t).1 52).2.2)), (63, ((upd (((pox t).1 63).1) 1 (((((pox t).1 63).1) 1) - (ptk t))), ((pox t).1 63).2)), (64, (((pox t).1 64).1, ((pgM (((pox t).1 64).2.1) (ptk t) ((((pox t).1 63).1) 1) 4).1), ((pox t).1 64).2.2))], (pox t).2)) (is := [52, 63, 64, 54, 55, 56, 57, 58, 59, 60, 61]) (L2 := [(u.2.2 3 0), (u.2.2 4 0)]) hA473 rfl ⟨kd_52.mpr ⟨_, rfl⟩, kd_63.mpr rfl, kd_64.mpr rfl, kd_54.mpr ⟨_, rfl⟩, kd_55.mpr ⟨_, rfl⟩, kd_56.mpr ⟨_, rfl⟩, kd_57.mpr ⟨_, rfl⟩, kd_58.mpr ⟨_, rfl⟩, kd_59.mpr ⟨_, rfl⟩, kd_60.mpr ⟨_, rfl⟩, kd_61.mpr ⟨_, rfl⟩, trivial⟩ (by decide) (by decide) (List.forall_mem_cons.mpr ⟨nf_i, (List.forall_mem_cons.mpr ⟨nf_n, (fun _ h => nomatch h)⟩)⟩) (List.forall_mem_cons.mpr ⟨⟨_, hc96_11, hA473.at (q0 := 11) rfl⟩, (List.forall_mem_cons.mpr ⟨⟨_, hw_n, hA473.at (q0 := 12) rfl⟩, (fun _ h => nomatch h)⟩)⟩) (fun i hi hn => zup_out (fun q => hn ((by decide : ∀ j ∈ ([52, 63, 64] : List Nat), j ∈ ([52, 63, 64, 54, 55, 56, 57, 58, 59, 60, 61] : List Nat)) i q))) (fun h => h) rfl).iw
                                  have hE8 := (⟨hI.1.nfr (hA473.nw (k := 13) rfl (Nat.le_of_ble_eq_true rfl)), hA473.at (q0 := 13) rfl, fun q => hT ((pcv_0 _ _ _).symm.trans q)⟩ : EL ad 5 _ _ (pcv9 t (pSh t v_mf_f v_mh_f v_mn_f v_mt_f v_mz_f v_mc__f v_mq_h) (pFb t v_mf_f v_mh_f v_mn_f v_mt_f v_mz_f v_mc__f v_mq_h)))
                                  have nl_q124 := hI.iw.nel (hA473.nw (k := 13) rfl (Nat.le_of_ble_eq_true rfl))
                                  have nl_q129 := hI.iw.nel (hA473.nw (k := 14) rfl (Nat.le_of_ble_eq_true rfl))
                                  have nf_q129 := hI.1.nfr (hA473.nw (k := 14) rfl (Nat.le_of_ble_eq_true rfl))
                                  have hc473_14 := hI8.kp (L := 5) (by decide) nf_q129 (hA473.at (q0 := 14) rfl) (Or.inr (show (3 : Nat) < 5 by decide)) e4
                                  have hI : IW g ad ((poi t, (tls (pox t) 5 (z_apV (t.2 5) (u.1 5) (pcv9 t (pSh t v_mf_f v_mh_f v_mn_f v_mt_f v_mz_f v_mc__f v_mq_h) (pFb t v_mf_f v_mh_f v_mn_f v_mt_f v_mz_f v_mc__f v_mq_h)))).2)) _ _ := hI8.app (L := 5) (by decide) hE8 (nl_q124 5 (by decide)) e2 e3 e4
                                  obtain ⟨e_m, wf_m, k_m⟩ := hI.1.2 52 (by decide)
                                  obtain ⟨v_m_th, rfl⟩ := kd_52.mp k_m
                                  refine y_base (cs := [((ad 52), .inr (12, [.int v_m_th, .ref (ad 53), .int (nI (((poi t, (tls (pox t) 5 (z_apV (t.2 5) (u.1 5) (pcv9 t (pSh t v_mf_f v_mh_f v_mn_f v_mt_f v_mz_f v_mc__f v_mq_h) (pFb t v_mf_f v_mh_f v_mn_f v_mt_f v_mz_f v_mc__f v_mq_h)))).2).1 52).2.2 0)), .ref (ad 54), .ref (ad 55), .ref (ad 56), .ref (ad 57), .ref (ad 58), .ref (ad 59), .ref (ad 60), .ref (ad 61), .int (((poi t, (tls (pox t) 5 (z_apV (t.2 5) (u.1 5) (pcv9 t (pSh t v_mf_f v_mh_f v_mn_f v_mt_f v_mz_f v_mc__f v_mq_h) (pFb t v_mf_f v_mh_f v_mn_f v_mt_f v_mz_f v_mc__f v_mq_h)))).2).1 52).1 0), .int (((poi t, (tls (pox t) 5 (z_apV (t.2 5) (u.1 5) (pcv9 t (pSh t v_mf_f v_mh_f v_mn_f v_mt_f v_mz_f v_mc__f v_mq_h) (pFb t v_mf_f v_mh_f v_mn_f v_mt_f v_mz_f v_mc__f v_mq_h)))).2).1 52).1 1), .int (((poi t, (tls (pox t) 5 (z_apV (t.2 5) (u.1 5) (pcv9 t (pSh t v_mf_f v_mh_f v_mn_f v_mt_f v_mz_f v_mc__f v_mq_h) (pFb t v_mf_f v_mh_f v_mn_f v_mt_f v_mz_f v_mc__f v_mq_h)))).2).1 52).1 2), .int (((poi t, (tls (pox t) 5 (z_apV (t.2 5) (u.1 5) (pcv9 t (pSh t v_mf_f v_mh_f v_mn_f v_mt_f v_mz_f v_mc__f v_mq_h) (pFb t v_mf_f v_mh_f v_mn_f v_mt_f v_mz_f v_mc__f v_mq_h)))).2).1 52).1 3), .int (((poi t, (tls (pox t) 5 (z_apV (t.2 5) (u.1 5) (pcv9 t (pSh t v_mf_f v_mh_f v_mn_f v_mt_f v_mz_f v_mc__f v_mq_h) (pFb t v_mf_f v_mh_f v_mn_f v_mt_f v_mz_f v_mc__f v_mq_h)))).2).1 52).1 4), .int (((poi t, (tls (pox t) 5 (z_apV (t.2 5) (u.1 5) (pcv9 t (pSh t v_mf_f v_mh_f v_mn_f v_mt_f v_mz_f v_mc__f v_mq_h) (pFb t v_mf_f v_mh_f v_mn_f v_mt_f v_mz_f v_mc__f v_mq_h)))).2).1 52).1 5), .ref (ad 62), .ref (ad 63), .ref (ad 64), .int (((poi t, (tls (pox t) 5 (z_apV (t.2 5) (u.1 5) (pcv9 t (pSh t v_mf_f v_mh_f v_mn_f v_mt_f v_mz_f v_mc__f v_mq_h) (pFb t v_mf_f v_mh_f v_mn_f v_mt_f v_mz_f v_mc__f v_mq_h)))).2).1 52).1 6), .int (((poi t, (tls (pox t) 5 (z_apV (t.2 5) (u.1 5) (pcv9 t (pSh t v_mf_f v_mh_f v_mn_f v_mt_f v_mz_f v_mc__f v_mq_h) (pFb t v_mf_f v_mh_f v_mn_f v_mt_f v_mz_f v_mc__f v_mq_h)))).2).1 52).1 7), .int (((poi t, (tls (pox t) 5 (z_apV (t.2 5) (u.1 5) (pcv9 t (pSh t v_mf_f v_mh_f v_mn_f v_mt_f v_mz_f v_mc__f v_mq_h) (pFb t v_mf_f v_mh_f v_mn_f v_mt_f v_mz_f v_mc__f v_mq_h)))).2).1 52).1 8), .int (((poi t, (tls (pox t) 5 (z_apV (t.2 5) (u.1 5) (pcv9 t (pSh t v_mf_f v_mh_f v_mn_f v_mt_f v_mz_f v_mc__f v_mq_h) (pFb t v_mf_f v_mh_f v_mn_f v_mt_f v_mz_f v_mc__f v_mq_h)))).2).1 52).1 9), .int (((poi t, (tls (pox t) 5 (z_apV (t.2 5) (u.1 5) (pcv9 t (pSh t v_mf_f v_mh_f v_mn_f v_mt_f v_mz_f v_mc__f v_mq_h) (pFb t v_mf_f v_mh_f v_mn_f v_mt_f v_mz_f v_mc__f v_mq_h)))).2).1 52).1 10), .ref (ad 65), .ref (ad 66), .ref (ad 67), .ref (ad 68), .long (((poi t, (tls (pox t) 5 (z_apV (t.2 5) (u.1 5) (pcv9 t (pSh t v_mf_f v_mh_f v_mn_f v_mt_f v_mz_f v_mc__f v_mq_h) (pFb t v_mf_f v_mh_f v_mn_f v_mt_f v_mz_f v_mc__f v_mq_h)))).2).1 52).2.1 0), .long (((poi t, (tls (pox t) 5 (z_apV (t.2 5) (u.1 5) (pcv9 t (pSh t v_mf_f v_mh_f v_mn_f v_mt_f v_mz_f v_mc__f v_mq_h) (pFb t v_mf_f v_mh_f v_mn_f v_mt_f v_mz_f v_mc__f v_mq_h)))).2).1 52).2.1 1)])), (q129, .inl (3, 4, .inr (.inl ((pgM (((pox t).1 64).2.1) (ptk t) ((((pox t).1 63).1) 1) 4).2))))]) (hI.1.B [52] [((ad 52), .inr (12, [.int v_m_th, .ref (ad 53), .int (nI (((poi t, (tls (pox t) 5 (z_apV (t.2 5) (u.1 5) (pcv9 t (pSh t v_mf_f v_mh_f v_mn_f v_mt_f v_mz_f v_mc__f v_mq_h) (pFb t v_mf_f v_mh_f v_mn_f v_mt_f v_mz_f v_mc__f v_mq_h)))).2).1 52).2.2 0)), .ref (ad 54), .ref (ad 55), .ref (ad 56), .ref (ad 57), .ref (ad 58), .ref (ad 59), .ref (ad 60), .ref (ad 61), .int (((poi t, (tls (pox t) 5 (z_apV (t.2 5) (u.1 5) (pcv9 t (pSh t v_mf_f v_mh_f v_mn_f v_mt_f v_mz_f v_mc__f v_mq_h) (pFb t v_mf_f v_mh_f v_mn_f v_mt_f v_mz_f v_mc__f v_mq_h)))).2).1 52).1 0), .int (((poi t, (tls (pox t) 5 (z_apV (t.2 5) (u.1 5) (pcv9 t (pSh t v_mf_f v_mh_f v_mn_f v_mt_f v_mz_f v_mc__f v_mq_h) (pFb t v_mf_f v_mh_f v_mn_f v_mt_f v_mz_f v_mc__f v_mq_h)))).2).1 52).1 1), .int (((poi t, (tls (pox t) 5 (z_apV (t.2 5) (u.1 5) (pcv9 t (pSh t v_mf_f v_mh_f v_mn_f v_mt_f v_mz_f v_mc__f v_mq_h) (pFb t v_mf_f v_mh_f v_mn_f v_mt_f v_mz_f v_mc__f v_mq_h)))).2).1 52).1 2), .int (((poi t, (tls (pox t) 5 (z_apV (t.2 5) (u.1 5) (pcv9 t (pSh t v_mf_f v_mh_f v_mn_f v_mt_f v_mz_f v_mc__f v_mq_h) (pFb t v_mf_f v_mh_f v_mn_f v_mt_f v_mz_f v_mc__f v_mq_h)))).2).1 52).1 3), .int (((poi t, (tls (pox t) 5 (z_apV (t.2 5) (u.1 5) (pcv9 t (pSh t v_mf_f v_mh_f v_mn_f v_mt_f v_mz_f v_mc__f v_mq_h) (pFb t v_mf_f v_mh_f v_mn_f v_mt_f v_mz_f v_mc__f v_mq_h)))).2).1 52).1 4), .int (((poi t, (tls (pox t) 5 (z_apV (t.2 5) (u.1 5) (pcv9 t (pSh t v_mf_f v_mh_f v_mn_f v_mt_f v_mz_f v_mc__f v_mq_h) (pFb t v_mf_f v_mh_f v_mn_f v_mt_f v_mz_f v_mc__f v_mq_h)))).2).1 52).1 5), .ref (ad 62), .ref (ad 63), .ref (ad 64), .int (((poi t, (tls (pox t) 5 (z_apV (t.2 5) (u.1 5) (pcv9 t (pSh t v_mf_f v_mh_f v_mn_f v_mt_f v_mz_f v_mc__f v_mq_h) (pFb t v_mf_f v_mh_f v_mn_f v_mt_f v_mz_f v_mc__f v_mq_h)))).2).1 52).1 6), .int (((poi t, (tls (pox t) 5 (z_apV (t.2 5) (u.1 5) (pcv9 t (pSh t v_mf_f v_mh_f v_mn_f v_mt_f v_mz_f v_mc__f v_mq_h) (pFb t v_mf_f v_mh_f v_mn_f v_mt_f v_mz_f v_mc__f v_mq_h)))).2).1 52).1 7), .int (((poi t, (tls (pox t) 5 (z_apV (t.2 5) (u.1 5) (pcv9 t (pSh t v_mf_f v_mh_f v_mn_f v_mt_f v_mz_f v_mc__f v_mq_h) (pFb t v_mf_f v_mh_f v_mn_f v_mt_f v_mz_f v_mc__f v_mq_h)))).2).1 52).1 8), .int (((poi t, (tls (pox t) 5 (z_apV (t.2 5) (u.1 5) (pcv9 t (pSh t v_mf_f v_mh_f v_mn_f v_mt_f v_mz_f v_mc__f v_mq_h) (pFb t v_mf_f v_mh_f v_mn_f v_mt_f v_mz_f v_mc__f v_mq_h)))).2).1 52).1 9), .int (((poi t, (tls (pox t) 5 (z_apV (t.2 5) (u.1 5) (pcv9 t (pSh t v_mf_f v_mh_f v_mn_f v_mt_f v_mz_f v_mc__f v_mq_h) (pFb t v_mf_f v_mh_f v_mn_f v_mt_f v_mz_f v_mc__f v_mq_h)))).2).1 52).1 10), .ref (ad 65), .ref (ad 66), .ref (ad 67), .ref (ad 68), .long (((poi t, (tls (pox t) 5 (z_apV (t.2 5) (u.1 5) (pcv9 t (pSh t v_mf_f v_mh_f v_mn_f v_mt_f v_mz_f v_mc__f v_mq_h) (pFb t v_mf_f v_mh_f v_mn_f v_mt_f v_mz_f v_mc__f v_mq_h)))).2).1 52).2.1 0), .long (((poi t, (tls (pox t) 5 (z_apV (t.2 5) (u.1 5) (pcv9 t (pSh t v_mf_f v_mh_f v_mn_f v_mt_f v_mz_f v_mc__f v_mq_h) (pFb t v_mf_f v_mh_f v_mn_f v_mt_f v_mz_f v_mc__f v_mq_h)))).2).1 52).2.1 1)]))] [(q129, .inl (3, 4, .inr (.inl ((pgM (((pox t).1 64).2.1) (ptk t) ((((pox t).1 63).1) 1) 4).2))))] rfl (by decide) (by decide) (List.forall_mem_cons.mpr ⟨wf_m, (fun _ h => nomatch h)⟩) (List.forall_mem_cons.mpr ⟨hc473_14, (fun _ h => nomatch h)⟩) (List.forall_mem_cons.mpr ⟨nf_q129, (fun _ h => nomatch h)⟩) (by simp [z_kd])) ?_
                                  refine y_pop d_Mm_pour_476 rfl ?_
                                  refine y_aload_n d_Mm_pour_477 rfl 3 rfl ?_
                                  refine y_get fs_Mm_81 d_Mm_pour_478 (q0 := 0) rfl rfl ?_
                                  refine y_aload d_Mm_pour_481 1 rfl ?_
                                  refine yw_callVL (As := [.ref q129]) (rest := []) (ci := 13) rfl (fun wA hA => ((hI.gen (t2 := (poi t, (tls (pox t) 5 (z_apV (t.2 5) (u.1 5) (pcv9 t (pSh t v_mf_f v_mh_f v_mn_f v_mt_f v_mz_f v_mc__f v_mq_h) (pFb t v_mf_f v_mh_f v_mn_f v_mt_f v_mz_f v_mc__f v_mq_h)))).2)) (is := [52]) (L2 := [q129]) hA rfl ⟨kd_52.mpr ⟨_, rfl⟩, trivial⟩ (by decide) (by decide) (List.forall_mem_cons.mpr ⟨nf_q129, (fun _ h => nomatch h)⟩) (List.forall_mem_cons.mpr ⟨⟨_, hc473_14, hA.at (q0 := 1) rfl⟩, (fun _ h => nomatch h)⟩) (fun _ _ _ => rfl) (fun h => h) rfl).2.1.1 6 (by decide)).ob) ln_Mm_219 w_im_AL_add_0 w_se_AL_add_0 ok_Mm_pour_AL_add_0 d_Mm_pour_483 (fun wA hA => Q_add ((hI.gen (t2 := (poi t, (tls (pox t) 5 (z_apV (t.2 5) (u.1 5) (pcv9 t (pSh t v_mf_f v_mh_f v_mn_f v_mt_f v_mz_f v_mc__f v_mq_h) (pFb t v_mf_f v_mh_f v_mn_f v_mt_f v_mz_f v_mc__f v_mq_h)))).2)) (is := [52]) (L2 := [q129]) hA rfl ⟨kd_52.mpr ⟨_, rfl⟩, trivial⟩ (by decide) (by decide) (List.forall_mem_cons.mpr ⟨nf_q129, (fun _ h => nomatch h)⟩) (List.forall_mem_cons.mpr ⟨⟨_, hc473_14, hA.at (q0 := 1) rfl⟩, (fun _ h => nomatch h)⟩) (fun _ _ _ => rfl) (fun h => h) rfl).2.1.1 6 (by decide)) (fun k hk => ((hI.gen (t2 := (poi t, (tls (pox t) 5 (z_apV (t.2 5) (u.1 5) (pcv9 t (pSh t v_mf_f v_mh_f v_mn_f v_mt_f v_mz_f v_mc__f v_mq_h) (pFb t v_mf_f v_mh_f v_mn_f v_mt_f v_mz_f v_mc__f v_mq_h)))).2)) (is := [52]) (L2 := [q129]) hA rfl ⟨kd_52.mpr ⟨_, rfl⟩, trivial⟩ (by decide) (by decide) (List.forall_mem_cons.mpr ⟨nf_q129, (fun _ h => nomatch h)⟩) (List.forall_mem_cons.mpr ⟨⟨_, hc473_14, hA.at (q0 := 1) rfl⟩, (fun _ h => nomatch h)⟩) (fun _ _ _ => rfl) (fun h => h) rfl).2.1.2.1 6 (by decide) k hk).elt6) (EL.elt6 ((⟨nf_q129, hA.at (q0 := 1) rfl⟩ : EL ad 6 _ _ (pgv9 t)))) (by have h9 : u.1 5 ≤ 30 := hsz0.2.2.2.2.2.1; have h8 : u.1 6 = u.1 5 := hsz0.2.2.2.2.2.2; show u.1 6 < 33; omega)) rfl rfl (Nat.le_of_ble_eq_true rfl) (by omega) (by omega) (fun wA483 hA483 E wB483 hx => ?_) (fun wA483 hA483 v wB483 hx => ?_)
                                  · exact absurd hx.1 (by simp)
                                  · obtain ⟨e1, bk9, e2, e3, e4⟩ := hx
                                    cases e1
                                    refine yw_st (st2 := [.int 1]) rfl ?_
                                    have hI8 := (hI.gen (t2 := (poi t, (tls (pox t) 5 (z_apV (t.2 5) (u.1 5) (pcv9 t (pSh t v_mf_f v_mh_f v_mn_f v_mt_f v_mz_f v_mc__f v_mq_h) (pFb t v_mf_f v_mh_f v_mn_f v_mt_f v_mz_f v_mc__f v_mq_h)))).2)) (is := [52]) (L2 := [q129]) hA483 rfl ⟨kd_52.mpr ⟨_, rfl⟩, trivial⟩ (by decide) (by decide) (List.forall_mem_cons.mpr ⟨nf_q129, (fun _ h => nomatch h)⟩) (List.forall_mem_cons.mpr ⟨⟨_, hc473_14, hA483.at (q0 := 1) rfl⟩, (fun _ h => nomatch h)⟩) (fun _ _ _ => rfl) (fun h => h) rfl)
                                    have hE8 := (⟨nf_q129, hA483.at (q0 := 1) rfl⟩ : EL ad 6 _ _ (pgv9 t))
                                    have hI : IV g ad (pmT t (u.1 5) (u.1 6) (pSh t v_mf_f v_mh_f v_mn_f v_mt_f v_mz_f v_mc__f v_mq_h) (pFb t v_mf_f v_mh_f v_mn_f v_mt_f v_mz_f v_mc__f v_mq_h)) _ _ := (hI8.app (L := 6) (by decide) hE8 (nl_q129 6 (by decide)) e2 e3 e4).iv (hsz.s56 (by have h1 : u.1 5 ≤ 30 := hsz0.2.2.2.2.2.1; show u.1 5 + 1 ≤ 30; omega) (by have h8 : u.1 6 = u.1 5 := hsz0.2.2.2.2.2.2; show u.1 6 + 1 = u.1 5 + 1; omega))
                                    obtain ⟨e_m, wf_m, k_m⟩ := hI.1.2 52 (by decide)
                                    obtain ⟨v_m_th, rfl⟩ := kd_52.mp k_m
                                    refine y_base (cs := [((ad 52), .inr (12, [.int v_m_th, .ref (ad 53), .int (nI (((pmT t (u.1 5) (u.1 6) (pSh t v_mf_f v_mh_f v_mn_f v_mt_f v_mz_f v_mc__f v_mq_h) (pFb t v_mf_f v_mh_f v_mn_f v_mt_f v_mz_f v_mc__f v_mq_h)).1 52).2.2 0)), .ref (ad 54), .ref (ad 55), .ref (ad 56), .ref (ad 57), .ref (ad 58), .ref (ad 59), .ref (ad 60), .ref (ad 61), .int (((pmT t (u.1 5) (u.1 6) (pSh t v_mf_f v_mh_f v_mn_f v_mt_f v_mz_f v_mc__f v_mq_h) (pFb t v_mf_f v_mh_f v_mn_f v_mt_f v_mz_f v_mc__f v_mq_h)).1 52).1 0), .int (((pmT t (u.1 5) (u.1 6) (pSh t v_mf_f v_mh_f v_mn_f v_mt_f v_mz_f v_mc__f v_mq_h) (pFb t v_mf_f v_mh_f v_mn_f v_mt_f v_mz_f v_mc__f v_mq_h)).1 52).1 1), .int (((pmT t (u.1 5) (u.1 6) (pSh t v_mf_f v_mh_f v_mn_f v_mt_f v_mz_f v_mc__f v_mq_h) (pFb t v_mf_f v_mh_f v_mn_f v_mt_f v_mz_f v_mc__f v_mq_h)).1 52).1 2), .int (((pmT t (u.1 5) (u.1 6) (pSh t v_mf_f v_mh_f v_mn_f v_mt_f v_mz_f v_mc__f v_mq_h) (pFb t v_mf_f v_mh_f v_mn_f v_mt_f v_mz_f v_mc__f v_mq_h)).1 52).1 3), .int (((pmT t (u.1 5) (u.1 6) (pSh t v_mf_f v_mh_f v_mn_f v_mt_f v_mz_f v_mc__f v_mq_h) (pFb t v_mf_f v_mh_f v_mn_f v_mt_f v_mz_f v_mc__f v_mq_h)).1 52).1 4), .int (((pmT t (u.1 5) (u.1 6) (pSh t v_mf_f v_mh_f v_mn_f v_mt_f v_mz_f v_mc__f v_mq_h) (pFb t v_mf_f v_mh_f v_mn_f v_mt_f v_mz_f v_mc__f v_mq_h)).1 52).1 5), .ref (ad 62), .ref (ad 63), .ref (ad 64), .int (((pmT t (u.1 5) (u.1 6) (pSh t v_mf_f v_mh_f v_mn_f v_mt_f v_mz_f v_mc__f v_mq_h) (pFb t v_mf_f v_mh_f v_mn_f v_mt_f v_mz_f v_mc__f v_mq_h)).1 52).1 6), .int (((pmT t (u.1 5) (u.1 6) (pSh t v_mf_f v_mh_f v_mn_f v_mt_f v_mz_f v_mc__f v_mq_h) (pFb t v_mf_f v_mh_f v_mn_f v_mt_f v_mz_f v_mc__f v_mq_h)).1 52).1 7), .int (((pmT t (u.1 5) (u.1 6) (pSh t v_mf_f v_mh_f v_mn_f v_mt_f v_mz_f v_mc__f v_mq_h) (pFb t v_mf_f v_mh_f v_mn_f v_mt_f v_mz_f v_mc__f v_mq_h)).1 52).1 8), .int (((pmT t (u.1 5) (u.1 6) (pSh t v_mf_f v_mh_f v_mn_f v_mt_f v_mz_f v_mc__f v_mq_h) (pFb t v_mf_f v_mh_f v_mn_f v_mt_f v_mz_f v_mc__f v_mq_h)).1 52).1 9), .int (((pmT t (u.1 5) (u.1 6) (pSh t v_mf_f v_mh_f v_mn_f v_mt_f v_mz_f v_mc__f v_mq_h) (pFb t v_mf_f v_mh_f v_mn_f v_mt_f v_mz_f v_mc__f v_mq_h)).1 52).1 10), .ref (ad 65), .ref (ad 66), .ref (ad 67), .ref (ad 68), .long (((pmT t (u.1 5) (u.1 6) (pSh t v_mf_f v_mh_f v_mn_f v_mt_f v_mz_f v_mc__f v_mq_h) (pFb t v_mf_f v_mh_f v_mn_f v_mt_f v_mz_f v_mc__f v_mq_h)).1 52).2.1 0), .long (((pmT t (u.1 5) (u.1 6) (pSh t v_mf_f v_mh_f v_mn_f v_mt_f v_mz_f v_mc__f v_mq_h) (pFb t v_mf_f v_mh_f v_mn_f v_mt_f v_mz_f v_mc__f v_mq_h)).1 52).2.1 1)]))]) (hI.1.B [52] [((ad 52), .inr (12, [.int v_m_th, .ref (ad 53), .int (nI (((pmT t (u.1 5) (u.1 6) (pSh t v_mf_f v_mh_f v_mn_f v_mt_f v_mz_f v_mc__f v_mq_h) (pFb t v_mf_f v_mh_f v_mn_f v_mt_f v_mz_f v_mc__f v_mq_h)).1 52).2.2 0)), .ref (ad 54), .ref (ad 55), .ref (ad 56), .ref (ad 57), .ref (ad 58), .ref (ad 59), .ref (ad 60), .ref (ad 61), .int (((pmT t (u.1 5) (u.1 6) (pSh t v_mf_f v_mh_f v_mn_f v_mt_f v_mz_f v_mc__f v_mq_h) (pFb t v_mf_f v_mh_f v_mn_f v_mt_f v_mz_f v_mc__f v_mq_h)).1 52).1 0), .int (((pmT t (u.1 5) (u.1 6) (pSh t v_mf_f v_mh_f v_mn_f v_mt_f v_mz_f v_mc__f v_mq_h) (pFb t v_mf_f v_mh_f v_mn_f v_mt_f v_mz_f v_mc__f v_mq_h)).1 52).1 1), .int (((pmT t (u.1 5) (u.1 6) (pSh t v_mf_f v_mh_f v_mn_f v_mt_f v_mz_f v_mc__f v_mq_h) (pFb t v_mf_f v_mh_f v_mn_f v_mt_f v_mz_f v_mc__f v_mq_h)).1 52).1 2), .int (((pmT t (u.1 5) (u.1 6) (pSh t v_mf_f v_mh_f v_mn_f v_mt_f v_mz_f v_mc__f v_mq_h) (pFb t v_mf_f v_mh_f v_mn_f v_mt_f v_mz_f v_mc__f v_mq_h)).1 52).1 3), .int (((pmT t (u.1 5) (u.1 6) (pSh t v_mf_f v_mh_f v_mn_f v_mt_f v_mz_f v_mc__f v_mq_h) (pFb t v_mf_f v_mh_f v_mn_f v_mt_f v_mz_f v_mc__f v_mq_h)).1 52).1 4), .int (((pmT t (u.1 5) (u.1 6) (pSh t v_mf_f v_mh_f v_mn_f v_mt_f v_mz_f v_mc__f v_mq_h) (pFb t v_mf_f v_mh_f v_mn_f v_mt_f v_mz_f v_mc__f v_mq_h)).1 52).1 5), .ref (ad 62), .ref (ad 63), .ref (ad 64), .int (((pmT t (u.1 5) (u.1 6) (pSh t v_mf_f v_mh_f v_mn_f v_mt_f v_mz_f v_mc__f v_mq_h) (pFb t v_mf_f v_mh_f v_mn_f v_mt_f v_mz_f v_mc__f v_mq_h)).1 52).1 6), .int (((pmT t (u.1 5) (u.1 6) (pSh t v_mf_f v_mh_f v_mn_f v_mt_f v_mz_f v_mc__f v_mq_h) (pFb t v_mf_f v_mh_f v_mn_f v_mt_f v_mz_f v_mc__f v_mq_h)).1 52).1 7), .int (((pmT t (u.1 5) (u.1 6) (pSh t v_mf_f v_mh_f v_mn_f v_mt_f v_mz_f v_mc__f v_mq_h) (pFb t v_mf_f v_mh_f v_mn_f v_mt_f v_mz_f v_mc__f v_mq_h)).1 52).1 8), .int (((pmT t (u.1 5) (u.1 6) (pSh t v_mf_f v_mh_f v_mn_f v_mt_f v_mz_f v_mc__f v_mq_h) (pFb t v_mf_f v_mh_f v_mn_f v_mt_f v_mz_f v_mc__f v_mq_h)).1 52).1 9), .int (((pmT t (u.1 5) (u.1 6) (pSh t v_mf_f v_mh_f v_mn_f v_mt_f v_mz_f v_mc__f v_mq_h) (pFb t v_mf_f v_mh_f v_mn_f v_mt_f v_mz_f v_mc__f v_mq_h)).1 52).1 10), .ref (ad 65), .ref (ad 66), .ref (ad 67), .ref (ad 68), .long (((pmT t (u.1 5) (u.1 6) (pSh t v_mf_f v_mh_f v_mn_f v_mt_f v_mz_f v_mc__f v_mq_h) (pFb t v_mf_f v_mh_f v_mn_f v_mt_f v_mz_f v_mc__f v_mq_h)).1 52).2.1 0), .long (((pmT t (u.1 5) (u.1 6) (pSh t v_mf_f v_mh_f v_mn_f v_mt_f v_mz_f v_mc__f v_mq_h) (pFb t v_mf_f v_mh_f v_mn_f v_mt_f v_mz_f v_mc__f v_mq_h)).1 52).2.1 1)]))] [] rfl (by decide) (by decide) (List.forall_mem_cons.mpr ⟨wf_m, (fun _ h => nomatch h)⟩) (fun _ h => nomatch h) (fun _ h => nomatch h) (by simp [z_kd])) ?_
                                    refine y_pop d_Mm_pour_486 rfl ?_
                                    refine y_aload_n d_Mm_pour_487 rfl 3 rfl ?_
                                    refine y_get fs_Mm_78 d_Mm_pour_488 (q0 := 0) rfl rfl ?_
                                    refine yw_callVL (As := []) (rest := []) (ci := 13) rfl (fun wA hA => ((hI.gen (t2 := (pmT t (u.1 5) (u.1 6) (pSh t v_mf_f v_mh_f v_mn_f v_mt_f v_mz_f v_mc__f v_mq_h) (pFb t v_mf_f v_mh_f v_mn_f v_mt_f v_mz_f v_mc__f v_mq_h))) (is := [52]) (L2 := []) hA rfl ⟨kd_52.mpr ⟨_, rfl⟩, trivial⟩ (by decide) (by decide) (fun _ h => nomatch h) (fun _ h => nomatch h) (fun _ _ _ => rfl) (fun h => h) rfl).2.1.1 5 (by decide)).ob) ln_Mm_208 w_im_AL_size w_se_AL_size ok_Mm_pour_AL_size d_Mm_pour_491 (fun wA hA => Q_size ((hI.gen (t2 := (pmT t (u.1 5) (u.1 6) (pSh t v_mf_f v_mh_f v_mn_f v_mt_f v_mz_f v_mc__f v_mq_h) (pFb t v_mf_f v_mh_f v_mn_f v_mt_f v_mz_f v_mc__f v_mq_h))) (is := [52]) (L2 := []) hA rfl ⟨kd_52.mpr ⟨_, rfl⟩, trivial⟩ (by decide) (by decide) (fun _ h => nomatch h) (fun _ h => nomatch h) (fun _ _ _ => rfl) (fun h => h) rfl).2.1.1 5 (by decide))) rfl rfl (Nat.le_of_ble_eq_true rfl) (by omega) (by omega) (fun wA491 hA491 E wB491 hx => ?_) (fun wA491 hA491 v wB491 hx => ?_)
                                    · exact absurd hx.1 (by simp)
                                    · obtain ⟨e1, e2⟩ := hx
                                      cases e1
                                      refine yw_st (st2 := [.int (nI (u.1 5 + 1))]) rfl ?_
                                      subst e2
                                      refine y_go hA491 ?_
                                      refine y_iconst d_Mm_pour_494 (v := 1) (by decide) ?_
                                      refine y_isub d_Mm_pour_495 (v := nI (u.1 5 + 1) - 1) rfl ?_
                                      refine y_iret d_Mm_pour_496 rfl rfl ?_
                                      subst hn0
                                      exact fun w1 h1 => ⟨v_mf_f, v_mh_f, v_mn_f, v_mt_f, v_mz_f, v_mc__f, v_mq_h, rfl, _, by rw [hm9, hm4]; rfl, (hI.gen (t2 := (pmT t (u.1 5) (u.1 6) (pSh t v_mf_f v_mh_f v_mn_f v_mt_f v_mz_f v_mc__f v_mq_h) (pFb t v_mf_f v_mh_f v_mn_f v_mt_f v_mz_f v_mc__f v_mq_h))) (is := [52]) (L2 := []) h1 rfl ⟨kd_52.mpr ⟨_, rfl⟩, trivial⟩ (by decide) (by decide) (fun _ h => nomatch h) (fun _ h => nomatch h) (fun _ _ _ => rfl) (fun h => h) rfl)⟩
                      · exact absurd c_74 (by decide)
                  · exact absurd (show u.1 5 = 30 from nI_inj9 (by have := hI.sz.2.2.2.2.2.1; omega) (by decide) c_62) h3
          · exact absurd h2 c_37
end
section
theorem z_idx2 {x : Int32} {n : Nat} (hn : n ≤ 33) (h0 : ¬ x < 0) (h1 : x < nI n) : ∃ k, k < n ∧ x = nI k := by
  cases n with
  | zero => exact absurd h1 h0
  | succ m =>
    refine (z_idx hn).mp ⟨Int32.not_lt.mp h0, ?_⟩
    rw [nI_prd]
    obtain ⟨a, ha, e⟩ := z_in20 (x := x) (b := m + 1) (by omega) ⟨Int32.not_lt.mp h0, Int32.le_of_lt h1⟩
    subst e
    have := z_lt (by omega) (by omega) h1
    exact (nI_leI (by omega) (by omega)).mpr (by omega)
set_option maxHeartbeats 4000000 in
set_option maxRecDepth 100000 in
theorem Q_castingAtE {g : zG} {ad : Nat → Nat} {t : zTT} {u : zNN} {w : zW} (hI : IV g ad t u w) (x : Int32) (hx : ¬ ∃ k, k < u.1 1 ∧ x = nI k) : zMB g M_Ip_castingAt [.ref (ad 0), .int x] w (fun o w1 => o = .inr "java/lang/IndexOutOfBoundsException" ∧ w1 = w) 1 6 := by
  obtain ⟨e_a, wf_a, k_a⟩ := hI.1.2 0 (by decide)
  obtain rfl := kd_0.mp k_a
  have hJ := hI.1.I [0] [((ad 0), .inr (11, [.ref (ad 1), .ref (ad 5), .ref (ad 18), .ref (ad 31), .ref (ad 32), .ref (ad 36), .ref (ad 42), .ref (ad 45), .ref (ad 47), .ref (ad 49), .ref (ad 50), .ref (ad 51)]))] rfl (by decide) (by decide) (List.forall_mem_cons.mpr ⟨wf_a, (fun _ h => nomatch h)⟩)
  refine y_of (by decide) rfl (Nat.le_of_ble_eq_true rfl) (y_base (cs := [((ad 0), .inr (11, [.ref (ad 1), .ref (ad 5), .ref (ad 18), .ref (ad 31), .ref (ad 32), .ref (ad 36), .ref (ad 42), .ref (ad 45), .ref (ad 47), .ref (ad 49), .ref (ad 50), .ref (ad 51)]))]) hJ ?_)
  refine y_lvE (lv2 := [(0, .ref (ad 0)), (1, .int x)]) rfl ?_
  refine y_iload_n d_Ip_castingAt_0 rfl 1 rfl ?_
  refine y_if_lt (tgt := 15) d_Ip_castingAt_1 (by decide) (fun c_1 => ?_) (fun c_1 => ?_)
  · refine y_throwW tb_Ip_509_513 sr_Ip_540 d_Ip_castingAt_15 d_Ip_castingAt_18 d_Ip_castingAt_19 d_Ip_castingAt_22 d_Ip_castingAt_25 rfl (by decide) (by decide) (Nat.le_of_ble_eq_true rfl) (by omega) (by omega) ?_
    exact fun w1 h1 => ⟨rfl, z_I.same hJ h1⟩
  · refine y_iload_n d_Ip_castingAt_4 rfl 1 rfl ?_
    refine y_aload_n d_Ip_castingAt_5 rfl 0 rfl ?_
    refine y_get fs_Ip_78 d_Ip_castingAt_6 (q0 := 0) rfl rfl ?_
    refine yw_callVL (As := []) (rest := [.int x]) (ci := 13) rfl (fun wA hA => ((hI.gen (t2 := t) (is := [0]) (L2 := []) hA rfl ⟨kd_0.mpr rfl, trivial⟩ (by decide) (by decide) (fun _ h => nomatch h) (fun _ h => nomatch h) (fun _ _ _ => rfl) (fun h => h) rfl).2.1.1 1 (by decide)).ob) ln_Ip_341 w_im_AL_size w_se_AL_size ok_Ip_castingAt_AL_size d_Ip_castingAt_9 (fun wA hA => Q_size ((hI.gen (t2 := t) (is := [0]) (L2 := []) hA rfl ⟨kd_0.mpr rfl, trivial⟩ (by decide) (by decide) (fun _ h => nomatch h) (fun _ h => nomatch h) (fun _ _ _ => rfl) (fun h => h) rfl).2.1.1 1 (by decide))) rfl rfl (Nat.le_of_ble_eq_true rfl) (by omega) (by omega) (fun wA9 hA9 E wB9 hx => ?_) (fun wA9 hA9 v wB9 hx => ?_)
    · exact absurd hx.1 (by simp)
    · obtain ⟨e1, e2⟩ := hx
      cases e1
      refine yw_st (st2 := [.int (nI (u.1 1)), .int x]) rfl ?_
      subst e2
      refine y_go hA9 ?_
      refine y_icmp_lt (tgt := 26) d_Ip_castingAt_12 (by decide) (fun c_12 => ?_) (fun c_12 => ?_)
      · exact absurd (z_idx2 (hI.n5 1 (by decide)) c_1 c_12) hx
      · refine y_throwW tb_Ip_509_513 sr_Ip_540 d_Ip_castingAt_15 d_Ip_castingAt_18 d_Ip_castingAt_19 d_Ip_castingAt_22 d_Ip_castingAt_25 rfl (by decide) (by decide) (Nat.le_of_ble_eq_true rfl) (by omega) (by omega) ?_
        exact fun w1 h1 => ⟨rfl, z_I.same hJ h1⟩
theorem d_Ip_castingAt_26 : decode prog_1_method_64_code 26 = .ok (.aload_n 0, 1) := zo_42 (zd_b zq_prog_1_method_64_code_0 26 rfl rfl rfl)
theorem d_Ip_castingAt_27 : decode prog_1_method_64_code 27 = .ok (.getfield 78, 3) := zo_180 (d := 0) (e := 78) (zd_b zq_prog_1_method_64_code_0 27 rfl rfl rfl) (zd_b zq_prog_1_method_64_code_0 28 rfl rfl rfl) (zd_b zq_prog_1_method_64_code_0 29 rfl rfl rfl)
theorem d_Ip_castingAt_30 : decode prog_1_method_64_code 30 = .ok (.iload_n 1, 1) := zo_27 (zd_b zq_prog_1_method_64_code_0 30 rfl rfl rfl)
theorem d_Ip_castingAt_31 : decode prog_1_method_64_code 31 = .ok (.invokevirtual 344, 3) := zo_182 (d := 1) (e := 88) (zd_b zq_prog_1_method_64_code_0 31 rfl rfl rfl) (zd_b zq_prog_1_method_64_code_1 0 rfl rfl rfl) (zd_b zq_prog_1_method_64_code_1 1 rfl rfl rfl)
theorem ok_Ip_castingAt_AL_get : z_ok M_Ip_castingAt M_AL_get 1 := ⟨z_mj2 (i := 180) rfl (by decide +kernel), rfl, ⟨by decide +kernel, by decide +kernel, by decide +kernel⟩, ⟨by decide, by decide⟩, z_mj1 (i := 13) rfl (by decide +kernel), rfl⟩
theorem ln_Ip_344 : Cond.methodLink "Ironpour" 344 M_AL_get.1 ∈ z_gw := z_mj2 (i := 177) rfl (by decide +kernel)
theorem d_Ip_castingAt_34 : decode prog_1_method_64_code 34 = .ok (.checkcast 441, 3) := zo_192 (d := 1) (e := 185) (zd_b zq_prog_1_method_64_code_1 2 rfl rfl rfl) (zd_b zq_prog_1_method_64_code_1 3 rfl rfl rfl) (zd_b zq_prog_1_method_64_code_1 4 rfl rfl rfl)
theorem lk_Ip_441 : Cond.classLink "Ironpour" 441 R_Ca ∈ z_gw := z_mj2 (i := 191) rfl (by decide +kernel)
theorem d_Ip_castingAt_37 : decode prog_1_method_64_code 37 = .ok (.areturn, 1) := zo_176 (zd_b zq_prog_1_method_64_code_1 5 rfl rfl rfl)
set_option maxHeartbeats 4000000 in
set_option maxRecDepth 100000 in
theorem Q_castingAtN {g : zG} {ad : Nat → Nat} {t : zTT} {u : zNN} {w : zW} (hI : IV g ad t u w) (k : Nat) (hk : k < u.1 1) : zMB g M_Ip_castingAt [.ref (ad 0), .int (nI k)] w (fun o w1 => o = .inl (some (.ref (u.2.2 1 k))) ∧ w1 = w) 1 6 := by
  obtain ⟨e_a, wf_a, k_a⟩ := hI.1.2 0 (by decide)
  obtain rfl := kd_0.mp k_a
  have hJ := hI.1.I [0] [((ad 0), .inr (11, [.ref (ad 1), .ref (ad 5), .ref (ad 18), .ref (ad 31), .ref (ad 32), .ref (ad 36), .ref (ad 42), .ref (ad 45), .ref (ad 47), .ref (ad 49), .ref (ad 50), .ref (ad 51)]))] rfl (by decide) (by decide) (List.forall_mem_cons.mpr ⟨wf_a, (fun _ h => nomatch h)⟩)
  have h33 := hI.n5 1 (by decide)
  refine y_of (by decide) rfl (Nat.le_of_ble_eq_true rfl) (y_base (cs := [((ad 0), .inr (11, [.ref (ad 1), .ref (ad 5), .ref (ad 18), .ref (ad 31), .ref (ad 32), .ref (ad 36), .ref (ad 42), .ref (ad 45), .ref (ad 47), .ref (ad 49), .ref (ad 50), .ref (ad 51)]))]) hJ ?_)
  refine y_lvE (lv2 := [(0, .ref (ad 0)), (1, .int (nI k))]) rfl ?_
  refine y_iload_n d_Ip_castingAt_0 rfl 1 rfl ?_
  refine y_if_lt (tgt := 15) d_Ip_castingAt_1 (by decide) (fun c_1 => ?_) (fun c_1 => ?_)
  · exact absurd c_1 (nI_nneg (by omega))
  · refine y_iload_n d_Ip_castingAt_4 rfl 1 rfl ?_
    refine y_aload_n d_Ip_castingAt_5 rfl 0 rfl ?_
    refine y_get fs_Ip_78 d_Ip_castingAt_6 (q0 := 0) rfl rfl ?_
    refine yw_callVL (As := []) (rest := [.int (nI k)]) (ci := 13) rfl (fun wA hA => ((hI.gen (t2 := t) (is := [0]) (L2 := []) hA rfl ⟨kd_0.mpr rfl, trivial⟩ (by decide) (by decide) (fun _ h => nomatch h) (fun _ h => nomatch h) (fun _ _ _ => rfl) (fun h => h) rfl).2.1.1 1 (by decide)).ob) ln_Ip_341 w_im_AL_size w_se_AL_size ok_Ip_castingAt_AL_size d_Ip_castingAt_9 (fun wA hA => Q_size ((hI.gen (t2 := t) (is := [0]) (L2 := []) hA rfl ⟨kd_0.mpr rfl, trivial⟩ (by decide) (by decide) (fun _ h => nomatch h) (fun _ h => nomatch h) (fun _ _ _ => rfl) (fun h => h) rfl).2.1.1 1 (by decide))) rfl rfl (Nat.le_of_ble_eq_true rfl) (by omega) (by omega) (fun wA9 hA9 E wB9 hx => ?_) (fun wA9 hA9 v wB9 hx => ?_)
    · exact absurd hx.1 (by simp)
    · obtain ⟨e1, e2⟩ := hx
      cases e1
      refine yw_st (st2 := [.int (nI (u.1 1)), .int (nI k)]) rfl ?_
      subst e2
      refine y_go hA9 ?_
      refine y_icmp_lt (tgt := 26) d_Ip_castingAt_12 (by decide) (fun c_12 => ?_) (fun c_12 => ?_)
      · refine y_aload_n d_Ip_castingAt_26 rfl 0 rfl ?_
        refine y_get fs_Ip_78 d_Ip_castingAt_27 (q0 := 0) rfl rfl ?_
        refine y_iload_n d_Ip_castingAt_30 rfl 1 rfl ?_
        refine yw_callVL (As := [.int (nI k)]) (rest := []) (ci := 13) rfl (fun wA hA => ((hI.gen (t2 := t) (is := [0]) (L2 := []) hA rfl ⟨kd_0.mpr rfl, trivial⟩ (by decide) (by decide) (fun _ h => nomatch h) (fun _ h => nomatch h) (fun _ _ _ => rfl) (fun h => h) rfl).2.1.1 1 (by decide)).ob) ln_Ip_344 w_im_AL_get w_se_AL_get ok_Ip_castingAt_AL_get d_Ip_castingAt_31 (fun wA hA => Q_get ((hI.gen (t2 := t) (is := [0]) (L2 := []) hA rfl ⟨kd_0.mpr rfl, trivial⟩ (by decide) (by decide) (fun _ h => nomatch h) (fun _ h => nomatch h) (fun _ _ _ => rfl) (fun h => h) rfl).2.1.1 1 (by decide)) hk) rfl rfl (Nat.le_of_ble_eq_true rfl) (by omega) (by omega) (fun wA31 hA31 E wB31 hx => ?_) (fun wA31 hA31 v wB31 hx => ?_)
        · exact absurd hx.1 (by simp)
        · obtain ⟨e1, e2⟩ := hx
          cases e1
          refine yw_st (st2 := [.ref (u.2.2 1 k)]) rfl ?_
          subst e2
          refine y_go hA31 ?_
          refine y_end (fun wC1 hC1 => ?_)
          obtain rfl := z_I.same hJ hC1
          obtain ⟨nf_c, me_c, gr_c, hw_c, nfm_c, hwm_c, nfg_c, hwg_c⟩ := hI.2.1.2.1 1 (by decide) k hk
          have hJ := z_I.kd (cs := [((ad 0), .inr (11, [.ref (ad 1), .ref (ad 5), .ref (ad 18), .ref (ad 31), .ref (ad 32), .ref (ad 36), .ref (ad 42), .ref (ad 45), .ref (ad 47), .ref (ad 49), .ref (ad 50), .ref (ad 51)])), ((u.2.2 1 k), .inr (0, [.ref me_c, .int ((t.2 1 k).1 0), .int ((t.2 1 k).1 1), .int ((t.2 1 k).1 2), .int ((t.2 1 k).1 3), .int ((t.2 1 k).1 4)])), (me_c, .inr (6, [.ref gr_c, .int ((t.2 1 k).1 5)])), (gr_c, .inl (3, 4, .inr (.inl ((t.2 1 k).2.2.1))))]) (List.forall_mem_cons.mpr ⟨wf_a, (List.forall_mem_cons.mpr ⟨hw_c, (List.forall_mem_cons.mpr ⟨hwm_c, (List.forall_mem_cons.mpr ⟨hwg_c, (fun _ h => nomatch h)⟩)⟩)⟩)⟩) (by simp [z_kd])
          refine y_base hJ ?_
          refine y_castO lk_Ip_441 d_Ip_castingAt_34 (q0 := 1) rfl rfl ?_
          refine y_aret d_Ip_castingAt_37 rfl (Or.inl ⟨_, rfl⟩) (Or.inr ⟨_, rfl⟩) ?_
          exact fun w1 h1 => ⟨rfl, z_I.same hJ h1⟩
      · exact absurd ((nI_ltI (by omega) (by omega)).mpr hk) c_12
set_option maxHeartbeats 4000000 in
set_option maxRecDepth 100000 in
theorem Q_Ip_alloyE {g : zG} {ad : Nat → Nat} {t : zTT} {u : zNN} {w : zW} (hI : IV g ad t u w) (x : Int32) (hx : ¬ ∃ k, k < u.1 1 ∧ x = nI k) : zMB g M_Ip_alloy [.ref (ad 0), .int x] w (fun o w1 => zri ["java/lang/IndexOutOfBoundsException"] o ∧ IV g ad t u w1) 1 6 := by
  obtain ⟨e_a, wf_a, k_a⟩ := hI.1.2 0 (by decide)
  obtain rfl := kd_0.mp k_a
  refine y_of (by decide) rfl (Nat.le_of_ble_eq_true rfl) (y_base (cs := [((ad 0), .inr (11, [.ref (ad 1), .ref (ad 5), .ref (ad 18), .ref (ad 31), .ref (ad 32), .ref (ad 36), .ref (ad 42), .ref (ad 45), .ref (ad 47), .ref (ad 49), .ref (ad 50), .ref (ad 51)]))]) (hI.1.I [0] _ rfl (by decide) (by decide) (List.forall_mem_cons.mpr ⟨wf_a, (fun _ h => nomatch h)⟩)) ?_)
  refine y_lvE (lv2 := [(0, .ref (ad 0)), (1, .int x)]) rfl ?_
  refine y_aload_n d_Ip_alloy_0 rfl 0 rfl ?_
  refine y_iload_n d_Ip_alloy_1 rfl 1 rfl ?_
  refine yw_callV (As := [.int x]) (rest := []) (q0 := 0) rfl rfl ln_Ip_436 w_im_Ip_castingAt w_se_Ip_castingAt ok_Ip_alloy_Ip_castingAt d_Ip_alloy_2 (fun wA hA => Q_castingAtE (hI.gen (t2 := t) (is := [0]) (L2 := []) hA rfl ⟨kd_0.mpr rfl, trivial⟩ (by decide) (by decide) (fun _ h => nomatch h) (fun _ h => nomatch h) (fun _ _ _ => rfl) (fun h => h) rfl) x hx) rfl rfl (Nat.le_of_ble_eq_true rfl) (by omega) (by omega) (fun wA2 hA2 E wB2 hx => ?_) (fun wA2 hA2 v wB2 hx => ?_)
  · obtain ⟨e1, e2⟩ := hx
    cases e1
    subst e2
    exact ⟨Or.inr ⟨_, List.Mem.head _, rfl⟩, (hI.gen (t2 := t) (is := [0]) (L2 := []) hA2 rfl ⟨kd_0.mpr rfl, trivial⟩ (by decide) (by decide) (fun _ h => nomatch h) (fun _ h => nomatch h) (fun _ _ _ => rfl) (fun h => h) rfl)⟩
  · exact absurd hx.1 (by simp)
set_option maxHeartbeats 4000000 in
set_option maxRecDepth 100000 in
theorem Q_Ip_faultsE {g : zG} {ad : Nat → Nat} {t : zTT} {u : zNN} {w : zW} (hI : IV g ad t u w) (x : Int32) (hx : ¬ ∃ k, k < u.1 1 ∧ x = nI k) : zMB g M_Ip_faults [.ref (ad 0), .int x] w (fun o w1 => zri ["java/lang/IndexOutOfBoundsException"] o ∧ IV g ad t u w1) 1 6 := by
  obtain ⟨e_a, wf_a, k_a⟩ := hI.1.2 0 (by decide)
  obtain rfl := kd_0.mp k_a
  refine y_of (by decide) rfl (Nat.le_of_ble_eq_true rfl) (y_base (cs := [((ad 0), .inr (11, [.ref (ad 1), .ref (ad 5), .ref (ad 18), .ref (ad 31), .ref (ad 32), .ref (ad 36), .ref (ad 42), .ref (ad 45), .ref (ad 47), .ref (ad 49), .ref (ad 50), .ref (ad 51)]))]) (hI.1.I [0] _ rfl (by decide) (by decide) (List.forall_mem_cons.mpr ⟨wf_a, (fun _ h => nomatch h)⟩)) ?_)
  refine y_lvE (lv2 := [(0, .ref (ad 0)), (1, .int x)]) rfl ?_
  refine y_aload_n d_Ip_faults_0 rfl 0 rfl ?_
  refine y_iload_n d_Ip_faults_1 rfl 1 rfl ?_
  refine yw_callV (As := [.int x]) (rest := []) (q0 := 0) rfl rfl ln_Ip_436 w_im_Ip_castingAt w_se_Ip_castingAt ok_Ip_faults_Ip_castingAt d_Ip_faults_2 (fun wA hA => Q_castingAtE (hI.gen (t2 := t) (is := [0]) (L2 := []) hA rfl ⟨kd_0.mpr rfl, trivial⟩ (by decide) (by decide) (fun _ h => nomatch h) (fun _ h => nomatch h) (fun _ _ _ => rfl) (fun h => h) rfl) x hx) rfl rfl (Nat.le_of_ble_eq_true rfl) (by omega) (by omega) (fun wA2 hA2 E wB2 hx => ?_) (fun wA2 hA2 v wB2 hx => ?_)
  · obtain ⟨e1, e2⟩ := hx
    cases e1
    subst e2
    exact ⟨Or.inr ⟨_, List.Mem.head _, rfl⟩, (hI.gen (t2 := t) (is := [0]) (L2 := []) hA2 rfl ⟨kd_0.mpr rfl, trivial⟩ (by decide) (by decide) (fun _ h => nomatch h) (fun _ h => nomatch h) (fun _ _ _ => rfl) (fun h => h) rfl)⟩
  · exact absurd hx.1 (by simp)
set_option maxHeartbeats 4000000 in
set_option maxRecDepth 100000 in
theorem Q_Ip_shrunkInE {g : zG} {ad : Nat → Nat} {t : zTT} {u : zNN} {w : zW} (hI : IV g ad t u w) (x : Int32) (hx : ¬ ∃ k, k < u.1 1 ∧ x = nI k) : zMB g M_Ip_shrunkIn [.ref (ad 0), .int x] w (fun o w1 => zri ["java/lang/IndexOutOfBoundsException"] o ∧ IV g ad t u w1) 1 6 := by
  obtain ⟨e_a, wf_a, k_a⟩ := hI.1.2 0 (by decide)
  obtain rfl := kd_0.mp k_a
  refine y_of (by decide) rfl (Nat.le_of_ble_eq_true rfl) (y_base (cs := [((ad 0), .inr (11, [.ref (ad 1), .ref (ad 5), .ref (ad 18), .ref (ad 31), .ref (ad 32), .ref (ad 36), .ref (ad 42), .ref (ad 45), .ref (ad 47), .ref (ad 49), .ref (ad 50), .ref (ad 51)]))]) (hI.1.I [0] _ rfl (by decide) (by decide) (List.forall_mem_cons.mpr ⟨wf_a, (fun _ h => nomatch h)⟩)) ?_)
  refine y_lvE (lv2 := [(0, .ref (ad 0)), (1, .int x)]) rfl ?_
  refine y_aload_n d_Ip_shrunkIn_0 rfl 0 rfl ?_
  refine y_iload_n d_Ip_shrunkIn_1 rfl 1 rfl ?_
  refine yw_callV (As := [.int x]) (rest := []) (q0 := 0) rfl rfl ln_Ip_436 w_im_Ip_castingAt w_se_Ip_castingAt ok_Ip_shrunkIn_Ip_castingAt d_Ip_shrunkIn_2 (fun wA hA => Q_castingAtE (hI.gen (t2 := t) (is := [0]) (L2 := []) hA rfl ⟨kd_0.mpr rfl, trivial⟩ (by decide) (by decide) (fun _ h => nomatch h) (fun _ h => nomatch h) (fun _ _ _ => rfl) (fun h => h) rfl) x hx) rfl rfl (Nat.le_of_ble_eq_true rfl) (by omega) (by omega) (fun wA2 hA2 E wB2 hx => ?_) (fun wA2 hA2 v wB2 hx => ?_)
  · obtain ⟨e1, e2⟩ := hx
    cases e1
    subst e2
    exact ⟨Or.inr ⟨_, List.Mem.head _, rfl⟩, (hI.gen (t2 := t) (is := [0]) (L2 := []) hA2 rfl ⟨kd_0.mpr rfl, trivial⟩ (by decide) (by decide) (fun _ h => nomatch h) (fun _ h => nomatch h) (fun _ _ _ => rfl) (fun h => h) rfl)⟩
  · exact absurd hx.1 (by simp)
set_option maxHeartbeats 4000000 in
set_option maxRecDepth 100000 in
theorem Q_Ip_hasE {g : zG} {ad : Nat → Nat} {t : zTT} {u : zNN} {w : zW} (hI : IV g ad t u w) (x : Int32) (hx : ¬ ∃ k, k < u.1 1 ∧ x = nI k) (c9 : Int32) : zMB g M_Ip_has [.ref (ad 0), .int x, .int c9] w (fun o w1 => zri ["java/lang/IndexOutOfBoundsException", "java/lang/IllegalArgumentException"] o ∧ IV g ad t u w1) 1 6 := by
  obtain ⟨e_a, wf_a, k_a⟩ := hI.1.2 0 (by decide)
  obtain rfl := kd_0.mp k_a
  refine y_of (by decide) rfl (Nat.le_of_ble_eq_true rfl) (y_base (cs := [((ad 0), .inr (11, [.ref (ad 1), .ref (ad 5), .ref (ad 18), .ref (ad 31), .ref (ad 32), .ref (ad 36), .ref (ad 42), .ref (ad 45), .ref (ad 47), .ref (ad 49), .ref (ad 50), .ref (ad 51)]))]) (hI.1.I [0] _ rfl (by decide) (by decide) (List.forall_mem_cons.mpr ⟨wf_a, (fun _ h => nomatch h)⟩)) ?_)
  refine y_lvE (lv2 := [(0, .ref (ad 0)), (1, .int x), (2, .int c9)]) rfl ?_
  refine y_aload_n d_Ip_has_0 rfl 0 rfl ?_
  refine y_iload_n d_Ip_has_1 rfl 1 rfl ?_
  refine yw_callV (As := [.int x]) (rest := []) (q0 := 0) rfl rfl ln_Ip_436 w_im_Ip_castingAt w_se_Ip_castingAt ok_Ip_has_Ip_castingAt d_Ip_has_2 (fun wA hA => Q_castingAtE (hI.gen (t2 := t) (is := [0]) (L2 := []) hA rfl ⟨kd_0.mpr rfl, trivial⟩ (by decide) (by decide) (fun _ h => nomatch h) (fun _ h => nomatch h) (fun _ _ _ => rfl) (fun h => h) rfl) x hx) rfl rfl (Nat.le_of_ble_eq_true rfl) (by omega) (by omega) (fun wA2 hA2 E wB2 hx => ?_) (fun wA2 hA2 v wB2 hx => ?_)
  · obtain ⟨e1, e2⟩ := hx
    cases e1
    subst e2
    exact ⟨Or.inr ⟨_, List.Mem.head _, rfl⟩, (hI.gen (t2 := t) (is := [0]) (L2 := []) hA2 rfl ⟨kd_0.mpr rfl, trivial⟩ (by decide) (by decide) (fun _ h => nomatch h) (fun _ h => nomatch h) (fun _ _ _ => rfl) (fun h => h) rfl)⟩
  · exact absurd hx.1 (by simp)
set_option maxHeartbeats 4000000 in
set_option maxRecDepth 100000 in
theorem Q_Ip_barE {g : zG} {ad : Nat → Nat} {t : zTT} {u : zNN} {w : zW} (hI : IV g ad t u w) (x : Int32) (hx : ¬ ∃ k, k < u.1 1 ∧ x = nI k) : zMB g M_Ip_bar [.ref (ad 0), .int x] w (fun o w1 => zri ["java/lang/IndexOutOfBoundsException"] o ∧ IV g ad t u w1) 1 6 := by
  obtain ⟨e_a, wf_a, k_a⟩ := hI.1.2 0 (by decide)
  obtain rfl := kd_0.mp k_a
  refine y_of (by decide) rfl (Nat.le_of_ble_eq_true rfl) (y_base (cs := [((ad 0), .inr (11, [.ref (ad 1), .ref (ad 5), .ref (ad 18), .ref (ad 31), .ref (ad 32), .ref (ad 36), .ref (ad 42), .ref (ad 45), .ref (ad 47), .ref (ad 49), .ref (ad 50), .ref (ad 51)]))]) (hI.1.I [0] _ rfl (by decide) (by decide) (List.forall_mem_cons.mpr ⟨wf_a, (fun _ h => nomatch h)⟩)) ?_)
  refine y_lvE (lv2 := [(0, .ref (ad 0)), (1, .int x)]) rfl ?_
  refine y_aload_n d_Ip_bar_0 rfl 0 rfl ?_
  refine y_iload_n d_Ip_bar_1 rfl 1 rfl ?_
  refine yw_callV (As := [.int x]) (rest := []) (q0 := 0) rfl rfl ln_Ip_436 w_im_Ip_castingAt w_se_Ip_castingAt ok_Ip_bar_Ip_castingAt d_Ip_bar_2 (fun wA hA => Q_castingAtE (hI.gen (t2 := t) (is := [0]) (L2 := []) hA rfl ⟨kd_0.mpr rfl, trivial⟩ (by decide) (by decide) (fun _ h => nomatch h) (fun _ h => nomatch h) (fun _ _ _ => rfl) (fun h => h) rfl) x hx) rfl rfl (Nat.le_of_ble_eq_true rfl) (by omega) (by omega) (fun wA2 hA2 E wB2 hx => ?_) (fun wA2 hA2 v wB2 hx => ?_)
  · obtain ⟨e1, e2⟩ := hx
    cases e1
    subst e2
    exact ⟨Or.inr ⟨_, List.Mem.head _, rfl⟩, (hI.gen (t2 := t) (is := [0]) (L2 := []) hA2 rfl ⟨kd_0.mpr rfl, trivial⟩ (by decide) (by decide) (fun _ h => nomatch h) (fun _ h => nomatch h) (fun _ _ _ => rfl) (fun h => h) rfl)⟩
  · exact absurd hx.1 (by simp)
set_option maxHeartbeats 4000000 in
set_option maxRecDepth 100000 in
theorem Q_Ip_weldE {g : zG} {ad : Nat → Nat} {t : zTT} {u : zNN} {w : zW} (hI : IV g ad t u w) (x : Int32) (hx : ¬ ∃ k, k < u.1 1 ∧ x = nI k) : zMB g M_Ip_weld [.ref (ad 0), .int x] w (fun o w1 => zri ["java/lang/IndexOutOfBoundsException", "java/lang/UnsupportedOperationException", "java/lang/IllegalStateException"] o ∧ IV g ad t u w1) 1 6 := by
  obtain ⟨e_a, wf_a, k_a⟩ := hI.1.2 0 (by decide)
  obtain rfl := kd_0.mp k_a
  refine y_of (by decide) rfl (Nat.le_of_ble_eq_true rfl) (y_base (cs := [((ad 0), .inr (11, [.ref (ad 1), .ref (ad 5), .ref (ad 18), .ref (ad 31), .ref (ad 32), .ref (ad 36), .ref (ad 42), .ref (ad 45), .ref (ad 47), .ref (ad 49), .ref (ad 50), .ref (ad 51)]))]) (hI.1.I [0] _ rfl (by decide) (by decide) (List.forall_mem_cons.mpr ⟨wf_a, (fun _ h => nomatch h)⟩)) ?_)
  refine y_lvE (lv2 := [(0, .ref (ad 0)), (1, .int x)]) rfl ?_
  refine y_aload_n d_Ip_weld_0 rfl 0 rfl ?_
  refine y_iload_n d_Ip_weld_1 rfl 1 rfl ?_
  refine yw_callV (As := [.int x]) (rest := []) (q0 := 0) rfl rfl ln_Ip_436 w_im_Ip_castingAt w_se_Ip_castingAt ok_Ip_weld_Ip_castingAt d_Ip_weld_2 (fun wA hA => Q_castingAtE (hI.gen (t2 := t) (is := [0]) (L2 := []) hA rfl ⟨kd_0.mpr rfl, trivial⟩ (by decide) (by decide) (fun _ h => nomatch h) (fun _ h => nomatch h) (fun _ _ _ => rfl) (fun h => h) rfl) x hx) rfl rfl (Nat.le_of_ble_eq_true rfl) (by omega) (by omega) (fun wA2 hA2 E wB2 hx => ?_) (fun wA2 hA2 v wB2 hx => ?_)
  · obtain ⟨e1, e2⟩ := hx
    cases e1
    subst e2
    exact ⟨Or.inr ⟨_, List.Mem.head _, rfl⟩, (hI.gen (t2 := t) (is := [0]) (L2 := []) hA2 rfl ⟨kd_0.mpr rfl, trivial⟩ (by decide) (by decide) (fun _ h => nomatch h) (fun _ h => nomatch h) (fun _ _ _ => rfl) (fun h => h) rfl)⟩
  · exact absurd hx.1 (by simp)
set_option maxHeartbeats 4000000 in
set_option maxRecDepth 100000 in
theorem Q_Ip_deliverE {g : zG} {ad : Nat → Nat} {t : zTT} {u : zNN} {w : zW} (hI : IV g ad t u w) (x : Int32) (hx : ¬ ∃ k, k < u.1 1 ∧ x = nI k) : zMB g M_Ip_deliver [.ref (ad 0), .int x] w (fun o w1 => zri ["java/lang/IndexOutOfBoundsException", "java/lang/IllegalStateException"] o ∧ IV g ad t u w1) 1 6 := by
  obtain ⟨e_a, wf_a, k_a⟩ := hI.1.2 0 (by decide)
  obtain rfl := kd_0.mp k_a
  refine y_of (by decide) rfl (Nat.le_of_ble_eq_true rfl) (y_base (cs := [((ad 0), .inr (11, [.ref (ad 1), .ref (ad 5), .ref (ad 18), .ref (ad 31), .ref (ad 32), .ref (ad 36), .ref (ad 42), .ref (ad 45), .ref (ad 47), .ref (ad 49), .ref (ad 50), .ref (ad 51)]))]) (hI.1.I [0] _ rfl (by decide) (by decide) (List.forall_mem_cons.mpr ⟨wf_a, (fun _ h => nomatch h)⟩)) ?_)
  refine y_lvE (lv2 := [(0, .ref (ad 0)), (1, .int x)]) rfl ?_
  refine y_aload_n d_Ip_deliver_0 rfl 0 rfl ?_
  refine y_iload_n d_Ip_deliver_1 rfl 1 rfl ?_
  refine yw_callV (As := [.int x]) (rest := []) (q0 := 0) rfl rfl ln_Ip_436 w_im_Ip_castingAt w_se_Ip_castingAt ok_Ip_deliver_Ip_castingAt d_Ip_deliver_2 (fun wA hA => Q_castingAtE (hI.gen (t2 := t) (is := [0]) (L2 := []) hA rfl ⟨kd_0.mpr rfl, trivial⟩ (by decide) (by decide) (fun _ h => nomatch h) (fun _ h => nomatch h) (fun _ _ _ => rfl) (fun h => h) rfl) x hx) rfl rfl (Nat.le_of_ble_eq_true rfl) (by omega) (by omega) (fun wA2 hA2 E wB2 hx => ?_) (fun wA2 hA2 v wB2 hx => ?_)
  · obtain ⟨e1, e2⟩ := hx
    cases e1
    subst e2
    exact ⟨Or.inr ⟨_, List.Mem.head _, rfl⟩, (hI.gen (t2 := t) (is := [0]) (L2 := []) hA2 rfl ⟨kd_0.mpr rfl, trivial⟩ (by decide) (by decide) (fun _ h => nomatch h) (fun _ h => nomatch h) (fun _ _ _ => rfl) (fun h => h) rfl)⟩
  · exact absurd hx.1 (by simp)
set_option maxHeartbeats 4000000 in
set_option maxRecDepth 100000 in
theorem Q_Ip_breakUpE {g : zG} {ad : Nat → Nat} {t : zTT} {u : zNN} {w : zW} (hI : IV g ad t u w) (x : Int32) (hx : ¬ ∃ k, k < u.1 1 ∧ x = nI k) : zMB g M_Ip_breakUp [.ref (ad 0), .int x] w (fun o w1 => zri ["java/lang/IndexOutOfBoundsException", "java/lang/IllegalStateException"] o ∧ IV g ad t u w1) 1 6 := by
  obtain ⟨e_a, wf_a, k_a⟩ := hI.1.2 0 (by decide)
  obtain rfl := kd_0.mp k_a
  refine y_of (by decide) rfl (Nat.le_of_ble_eq_true rfl) (y_base (cs := [((ad 0), .inr (11, [.ref (ad 1), .ref (ad 5), .ref (ad 18), .ref (ad 31), .ref (ad 32), .ref (ad 36), .ref (ad 42), .ref (ad 45), .ref (ad 47), .ref (ad 49), .ref (ad 50), .ref (ad 51)]))]) (hI.1.I [0] _ rfl (by decide) (by decide) (List.forall_mem_cons.mpr ⟨wf_a, (fun _ h => nomatch h)⟩)) ?_)
  refine y_lvE (lv2 := [(0, .ref (ad 0)), (1, .int x)]) rfl ?_
  refine y_aload_n d_Ip_breakUp_0 rfl 0 rfl ?_
  refine y_iload_n d_Ip_breakUp_1 rfl 1 rfl ?_
  refine yw_callV (As := [.int x]) (rest := []) (q0 := 0) rfl rfl ln_Ip_436 w_im_Ip_castingAt w_se_Ip_castingAt ok_Ip_breakUp_Ip_castingAt d_Ip_breakUp_2 (fun wA hA => Q_castingAtE (hI.gen (t2 := t) (is := [0]) (L2 := []) hA rfl ⟨kd_0.mpr rfl, trivial⟩ (by decide) (by decide) (fun _ h => nomatch h) (fun _ h => nomatch h) (fun _ _ _ => rfl) (fun h => h) rfl) x hx) rfl rfl (Nat.le_of_ble_eq_true rfl) (by omega) (by omega) (fun wA2 hA2 E wB2 hx => ?_) (fun wA2 hA2 v wB2 hx => ?_)
  · obtain ⟨e1, e2⟩ := hx
    cases e1
    subst e2
    exact ⟨Or.inr ⟨_, List.Mem.head _, rfl⟩, (hI.gen (t2 := t) (is := [0]) (L2 := []) hA2 rfl ⟨kd_0.mpr rfl, trivial⟩ (by decide) (by decide) (fun _ h => nomatch h) (fun _ h => nomatch h) (fun _ _ _ => rfl) (fun h => h) rfl)⟩
  · exact absurd hx.1 (by simp)
theorem d_Ip_alloy_5 : decode prog_1_method_39_code 5 = .ok (.invokevirtual 440, 3) := zo_182 (d := 1) (e := 184) (zd_b zq_prog_1_method_39_code_0 5 rfl rfl rfl) (zd_b zq_prog_1_method_39_code_0 6 rfl rfl rfl) (zd_b zq_prog_1_method_39_code_0 7 rfl rfl rfl)
theorem ok_Ip_alloy_Ca_isDuctile : z_ok M_Ip_alloy M_Ca_isDuctile 0 := ⟨z_mj6 (i := 182) rfl (by decide +kernel), rfl, ⟨by decide +kernel, by decide +kernel, by decide +kernel⟩, ⟨by decide, by decide⟩, z_mj1 (i := 35) rfl (by decide +kernel), rfl⟩
theorem ln_Ip_440 : Cond.methodLink "Ironpour" 440 M_Ca_isDuctile.1 ∈ z_gw := z_mj6 (i := 195) rfl (by decide +kernel)
theorem d_Ip_alloy_8 : decode prog_1_method_39_code 8 = .ok (.ifCond .eq 8, 3) := zo_153 (d := 0) (e := 8) (zd_b zq_prog_1_method_39_code_0 8 rfl rfl rfl) (zd_b zq_prog_1_method_39_code_0 9 rfl rfl rfl) (zd_b zq_prog_1_method_39_code_0 10 rfl rfl rfl) (by decide +kernel)
theorem d_Ip_alloy_16 : decode prog_1_method_39_code 16 = .ok (.bipush 103, 2) := zo_16 (d := 103) (zd_b zq_prog_1_method_39_code_0 16 rfl rfl rfl) (zd_b zq_prog_1_method_39_code_0 17 rfl rfl rfl) (by decide +kernel)
theorem d_Ip_alloy_18 : decode prog_1_method_39_code 18 = .ok (.ireturn, 1) := zo_172 (zd_b zq_prog_1_method_39_code_0 18 rfl rfl rfl)
theorem d_Ip_alloy_11 : decode prog_1_method_39_code 11 = .ok (.bipush 100, 2) := zo_16 (d := 100) (zd_b zq_prog_1_method_39_code_0 11 rfl rfl rfl) (zd_b zq_prog_1_method_39_code_0 12 rfl rfl rfl) (by decide +kernel)
theorem d_Ip_alloy_13 : decode prog_1_method_39_code 13 = .ok (.goto 5, 3) := zo_167 (d := 0) (e := 5) (zd_b zq_prog_1_method_39_code_0 13 rfl rfl rfl) (zd_b zq_prog_1_method_39_code_0 14 rfl rfl rfl) (zd_b zq_prog_1_method_39_code_0 15 rfl rfl rfl) (by decide +kernel)
set_option maxHeartbeats 4000000 in
set_option maxRecDepth 100000 in
theorem Q_Ip_alloyN {g : zG} {ad : Nat → Nat} {t : zTT} {u : zNN} {w : zW} (hI : IV g ad t u w) (k : Nat) (hk : k < u.1 1) : zMB g M_Ip_alloy [.ref (ad 0), .int (nI k)] w (fun o w1 => zri ["java/lang/IndexOutOfBoundsException"] o ∧ IV g ad t u w1) 1 6 := by
  obtain ⟨e_a, wf_a, k_a⟩ := hI.1.2 0 (by decide)
  obtain rfl := kd_0.mp k_a
  refine y_of (by decide) rfl (Nat.le_of_ble_eq_true rfl) (y_base (cs := [((ad 0), .inr (11, [.ref (ad 1), .ref (ad 5), .ref (ad 18), .ref (ad 31), .ref (ad 32), .ref (ad 36), .ref (ad 42), .ref (ad 45), .ref (ad 47), .ref (ad 49), .ref (ad 50), .ref (ad 51)]))]) (hI.1.I [0] _ rfl (by decide) (by decide) (List.forall_mem_cons.mpr ⟨wf_a, (fun _ h => nomatch h)⟩)) ?_)
  refine y_lvE (lv2 := [(0, .ref (ad 0)), (1, .int (nI k))]) rfl ?_
  refine y_aload_n d_Ip_alloy_0 rfl 0 rfl ?_
  refine y_iload_n d_Ip_alloy_1 rfl 1 rfl ?_
  refine yw_callV (As := [.int (nI k)]) (rest := []) (q0 := 0) rfl rfl ln_Ip_436 w_im_Ip_castingAt w_se_Ip_castingAt ok_Ip_alloy_Ip_castingAt d_Ip_alloy_2 (fun wA hA => Q_castingAtN (hI.gen (t2 := t) (is := [0]) (L2 := []) hA rfl ⟨kd_0.mpr rfl, trivial⟩ (by decide) (by decide) (fun _ h => nomatch h) (fun _ h => nomatch h) (fun _ _ _ => rfl) (fun h => h) rfl) k hk) rfl rfl (Nat.le_of_ble_eq_true rfl) (by omega) (by omega) (fun wA2 hA2 E wB2 hx => ?_) (fun wA2 hA2 v wB2 hx => ?_)
  · exact absurd hx.1 (by simp)
  · obtain ⟨e1, e2⟩ := hx
    cases e1
    refine yw_st (st2 := [.ref (u.2.2 1 k)]) rfl ?_
    subst e2
    refine y_go hA2 ?_
    refine y_end (fun wC1 hC1 => ?_)
    have hI9 := (hI.gen (t2 := t) (is := [0]) (L2 := []) hC1 rfl ⟨kd_0.mpr rfl, trivial⟩ (by decide) (by decide) (fun _ h => nomatch h) (fun _ h => nomatch h) (fun _ _ _ => rfl) (fun h => h) rfl)
    have hI := hI9
    obtain ⟨nf_c, me_c, gr_c, hw_c, nfm_c, hwm_c, nfg_c, hwg_c⟩ := hI.2.1.2.1 1 (by decide) k hk
    refine y_base (cs := [((ad 0), .inr (11, [.ref (ad 1), .ref (ad 5), .ref (ad 18), .ref (ad 31), .ref (ad 32), .ref (ad 36), .ref (ad 42), .ref (ad 45), .ref (ad 47), .ref (ad 49), .ref (ad 50), .ref (ad 51)])), ((u.2.2 1 k), .inr (0, [.ref me_c, .int ((t.2 1 k).1 0), .int ((t.2 1 k).1 1), .int ((t.2 1 k).1 2), .int ((t.2 1 k).1 3), .int ((t.2 1 k).1 4)])), (me_c, .inr (6, [.ref gr_c, .int ((t.2 1 k).1 5)])), (gr_c, .inl (3, 4, .inr (.inl ((t.2 1 k).2.2.1))))]) (z_I.kd (List.forall_mem_cons.mpr ⟨hC1.at (q0 := 0) rfl, (List.forall_mem_cons.mpr ⟨hw_c, (List.forall_mem_cons.mpr ⟨hwm_c, (List.forall_mem_cons.mpr ⟨hwg_c, (fun _ h => nomatch h)⟩)⟩)⟩)⟩) (by simp [z_kd])) ?_
    refine y_callV (As := []) (rest := []) (csC := [((u.2.2 1 k), .inr (0, [.ref me_c, .int ((t.2 1 k).1 0), .int ((t.2 1 k).1 1), .int ((t.2 1 k).1 2), .int ((t.2 1 k).1 3), .int ((t.2 1 k).1 4)])), (me_c, .inr (6, [.ref gr_c, .int ((t.2 1 k).1 5)])), (gr_c, .inl (3, 4, .inr (.inl ((t.2 1 k).2.2.1))))]) (is := [1, 2, 3]) (q0 := 1) rfl rfl ln_Ip_440 w_im_Ca_isDuctile w_se_Ca_isDuctile ok_Ip_alloy_Ca_isDuctile d_Ip_alloy_5 (C_Ca_isDuctile g (u.2.2 1 k) me_c gr_c ((t.2 1 k).2.2.1) ((t.2 1 k).1 5) ((t.2 1 k).1 0) ((t.2 1 k).1 1) ((t.2 1 k).1 2) ((t.2 1 k).1 3) ((t.2 1 k).1 4)) rfl rfl (Nat.le_of_ble_eq_true rfl) rfl (by decide) (by omega) (by omega) (fun E cs1 hx => ?_) (fun v cs1 hx => ?_)
    · exact absurd hx.1 (by simp)
    · obtain ⟨e1, rfl⟩ := hx
      cases e1
      refine ⟨rfl, ?_⟩
      refine y_st (st2 := [.int (if ((t.2 1 k).1 0) < 20 then 0 else 1)]) rfl ?_
      refine y_cs (cs2 := [((ad 0), .inr (11, [.ref (ad 1), .ref (ad 5), .ref (ad 18), .ref (ad 31), .ref (ad 32), .ref (ad 36), .ref (ad 42), .ref (ad 45), .ref (ad 47), .ref (ad 49), .ref (ad 50), .ref (ad 51)])), ((u.2.2 1 k), .inr (0, [.ref me_c, .int ((t.2 1 k).1 0), .int ((t.2 1 k).1 1), .int ((t.2 1 k).1 2), .int ((t.2 1 k).1 3), .int ((t.2 1 k).1 4)])), (me_c, .inr (6, [.ref gr_c, .int ((t.2 1 k).1 5)])), (gr_c, .inl (3, 4, .inr (.inl ((t.2 1 k).2.2.1))))]) rfl ?_
      refine y_if_eq (tgt := 16) d_Ip_alloy_8 (by decide) (fun c_8 => ?_) (fun c_8 => ?_)
      · refine y_bipush d_Ip_alloy_16 (v := 103) (by decide) ?_
        refine y_iret d_Ip_alloy_18 rfl rfl ?_
        exact fun w1 h1 => ⟨Or.inl ⟨_, rfl⟩, (hI.gen (t2 := t) (is := [0]) (L2 := [(u.2.2 1 k), me_c, gr_c]) h1 rfl ⟨kd_0.mpr rfl, trivial⟩ (by decide) (by decide) (List.forall_mem_cons.mpr ⟨nf_c, (List.forall_mem_cons.mpr ⟨nfm_c, (List.forall_mem_cons.mpr ⟨nfg_c, (fun _ h => nomatch h)⟩)⟩)⟩) (List.forall_mem_cons.mpr ⟨⟨_, hw_c, h1.at (q0 := 1) rfl⟩, (List.forall_mem_cons.mpr ⟨⟨_, hwm_c, h1.at (q0 := 2) rfl⟩, (List.forall_mem_cons.mpr ⟨⟨_, hwg_c, h1.at (q0 := 3) rfl⟩, (fun _ h => nomatch h)⟩)⟩)⟩) (fun _ _ _ => rfl) (fun h => h) rfl)⟩
      · refine y_bipush d_Ip_alloy_11 (v := 100) (by decide) ?_
        refine y_goto (tgt := 18) d_Ip_alloy_13 (by decide) ?_
        refine y_iret d_Ip_alloy_18 rfl rfl ?_
        exact fun w1 h1 => ⟨Or.inl ⟨_, rfl⟩, (hI.gen (t2 := t) (is := [0]) (L2 := [(u.2.2 1 k), me_c, gr_c]) h1 rfl ⟨kd_0.mpr rfl, trivial⟩ (by decide) (by decide) (List.forall_mem_cons.mpr ⟨nf_c, (List.forall_mem_cons.mpr ⟨nfm_c, (List.forall_mem_cons.mpr ⟨nfg_c, (fun _ h => nomatch h)⟩)⟩)⟩) (List.forall_mem_cons.mpr ⟨⟨_, hw_c, h1.at (q0 := 1) rfl⟩, (List.forall_mem_cons.mpr ⟨⟨_, hwm_c, h1.at (q0 := 2) rfl⟩, (List.forall_mem_cons.mpr ⟨⟨_, hwg_c, h1.at (q0 := 3) rfl⟩, (fun _ h => nomatch h)⟩)⟩)⟩) (fun _ _ _ => rfl) (fun h => h) rfl)⟩
theorem d_Ip_faults_5 : decode prog_1_method_40_code 5 = .ok (.getfield 445, 3) := zo_180 (d := 1) (e := 189) (zd_b zq_prog_1_method_40_code_0 5 rfl rfl rfl) (zd_b zq_prog_1_method_40_code_0 6 rfl rfl rfl) (zd_b zq_prog_1_method_40_code_0 7 rfl rfl rfl)
theorem fs_Ip_445 : z_fs "Ironpour" 445 0 3 := ⟨R_Ca, "Ironpour$Casting", F_Ca, 6, rfl, u_Ca, by decide, Or.inr ⟨"Ironpour", z_mk6 (i := 145) rfl (by decide +kernel), rfl⟩⟩
theorem d_Ip_faults_8 : decode prog_1_method_40_code 8 = .ok (.ireturn, 1) := zo_172 (zd_b zq_prog_1_method_40_code_0 8 rfl rfl rfl)
set_option maxHeartbeats 4000000 in
set_option maxRecDepth 100000 in
theorem Q_Ip_faultsN {g : zG} {ad : Nat → Nat} {t : zTT} {u : zNN} {w : zW} (hI : IV g ad t u w) (k : Nat) (hk : k < u.1 1) : zMB g M_Ip_faults [.ref (ad 0), .int (nI k)] w (fun o w1 => zri ["java/lang/IndexOutOfBoundsException"] o ∧ IV g ad t u w1) 1 6 := by
  obtain ⟨e_a, wf_a, k_a⟩ := hI.1.2 0 (by decide)
  obtain rfl := kd_0.mp k_a
  refine y_of (by decide) rfl (Nat.le_of_ble_eq_true rfl) (y_base (cs := [((ad 0), .inr (11, [.ref (ad 1), .ref (ad 5), .ref (ad 18), .ref (ad 31), .ref (ad 32), .ref (ad 36), .ref (ad 42), .ref (ad 45), .ref (ad 47), .ref (ad 49), .ref (ad 50), .ref (ad 51)]))]) (hI.1.I [0] _ rfl (by decide) (by decide) (List.forall_mem_cons.mpr ⟨wf_a, (fun _ h => nomatch h)⟩)) ?_)
  refine y_lvE (lv2 := [(0, .ref (ad 0)), (1, .int (nI k))]) rfl ?_
  refine y_aload_n d_Ip_faults_0 rfl 0 rfl ?_
  refine y_iload_n d_Ip_faults_1 rfl 1 rfl ?_
  refine yw_callV (As := [.int (nI k)]) (rest := []) (q0 := 0) rfl rfl ln_Ip_436 w_im_Ip_castingAt w_se_Ip_castingAt ok_Ip_faults_Ip_castingAt d_Ip_faults_2 (fun wA hA => Q_castingAtN (hI.gen (t2 := t) (is := [0]) (L2 := []) hA rfl ⟨kd_0.mpr rfl, trivial⟩ (by decide) (by decide) (fun _ h => nomatch h) (fun _ h => nomatch h) (fun _ _ _ => rfl) (fun h => h) rfl) k hk) rfl rfl (Nat.le_of_ble_eq_true rfl) (by omega) (by omega) (fun wA2 hA2 E wB2 hx => ?_) (fun wA2 hA2 v wB2 hx => ?_)
  · exact absurd hx.1 (by simp)
  · obtain ⟨e1, e2⟩ := hx
    cases e1
    refine yw_st (st2 := [.ref (u.2.2 1 k)]) rfl ?_
    subst e2
    refine y_go hA2 ?_
    refine y_end (fun wC1 hC1 => ?_)
    have hI9 := (hI.gen (t2 := t) (is := [0]) (L2 := []) hC1 rfl ⟨kd_0.mpr rfl, trivial⟩ (by decide) (by decide) (fun _ h => nomatch h) (fun _ h => nomatch h) (fun _ _ _ => rfl) (fun h => h) rfl)
    have hI := hI9
    obtain ⟨nf_c, me_c, gr_c, hw_c, nfm_c, hwm_c, nfg_c, hwg_c⟩ := hI.2.1.2.1 1 (by decide) k hk
    refine y_base (cs := [((ad 0), .inr (11, [.ref (ad 1), .ref (ad 5), .ref (ad 18), .ref (ad 31), .ref (ad 32), .ref (ad 36), .ref (ad 42), .ref (ad 45), .ref (ad 47), .ref (ad 49), .ref (ad 50), .ref (ad 51)])), ((u.2.2 1 k), .inr (0, [.ref me_c, .int ((t.2 1 k).1 0), .int ((t.2 1 k).1 1), .int ((t.2 1 k).1 2), .int ((t.2 1 k).1 3), .int ((t.2 1 k).1 4)])), (me_c, .inr (6, [.ref gr_c, .int ((t.2 1 k).1 5)])), (gr_c, .inl (3, 4, .inr (.inl ((t.2 1 k).2.2.1))))]) (z_I.kd (List.forall_mem_cons.mpr ⟨hC1.at (q0 := 0) rfl, (List.forall_mem_cons.mpr ⟨hw_c, (List.forall_mem_cons.mpr ⟨hwm_c, (List.forall_mem_cons.mpr ⟨hwg_c, (fun _ h => nomatch h)⟩)⟩)⟩)⟩) (by simp [z_kd])) ?_
    refine y_get fs_Ip_445 d_Ip_faults_5 (q0 := 1) rfl rfl ?_
    refine y_iret d_Ip_faults_8 rfl rfl ?_
    exact fun w1 h1 => ⟨Or.inl ⟨_, rfl⟩, (hI.gen (t2 := t) (is := [0]) (L2 := [(u.2.2 1 k), me_c, gr_c]) h1 rfl ⟨kd_0.mpr rfl, trivial⟩ (by decide) (by decide) (List.forall_mem_cons.mpr ⟨nf_c, (List.forall_mem_cons.mpr ⟨nfm_c, (List.forall_mem_cons.mpr ⟨nfg_c, (fun _ h => nomatch h)⟩)⟩)⟩) (List.forall_mem_cons.mpr ⟨⟨_, hw_c, h1.at (q0 := 1) rfl⟩, (List.forall_mem_cons.mpr ⟨⟨_, hwm_c, h1.at (q0 := 2) rfl⟩, (List.forall_mem_cons.mpr ⟨⟨_, hwg_c, h1.at (q0 := 3) rfl⟩, (fun _ h => nomatch h)⟩)⟩)⟩) (fun _ _ _ => rfl) (fun h => h) rfl)⟩
theorem d_Ip_shrunkIn_5 : decode prog_1_method_41_code 5 = .ok (.getfield 448, 3) := zo_180 (d := 1) (e := 192) (zd_b zq_prog_1_method_41_code_0 5 rfl rfl rfl) (zd_b zq_prog_1_method_41_code_0 6 rfl rfl rfl) (zd_b zq_prog_1_method_41_code_0 7 rfl rfl rfl)
theorem fs_Ip_448 : z_fs "Ironpour" 448 0 2 := ⟨R_Ca, "Ironpour$Casting", F_Ca, 6, rfl, u_Ca, by decide, Or.inr ⟨"Ironpour", z_mk6 (i := 143) rfl (by decide +kernel), rfl⟩⟩
theorem d_Ip_shrunkIn_8 : decode prog_1_method_41_code 8 = .ok (.ireturn, 1) := zo_172 (zd_b zq_prog_1_method_41_code_0 8 rfl rfl rfl)
set_option maxHeartbeats 4000000 in
set_option maxRecDepth 100000 in
theorem Q_Ip_shrunkInN {g : zG} {ad : Nat → Nat} {t : zTT} {u : zNN} {w : zW} (hI : IV g ad t u w) (k : Nat) (hk : k < u.1 1) : zMB g M_Ip_shrunkIn [.ref (ad 0), .int (nI k)] w (fun o w1 => zri ["java/lang/IndexOutOfBoundsException"] o ∧ IV g ad t u w1) 1 6 := by
  obtain ⟨e_a, wf_a, k_a⟩ := hI.1.2 0 (by decide)
  obtain rfl := kd_0.mp k_a
  refine y_of (by decide) rfl (Nat.le_of_ble_eq_true rfl) (y_base (cs := [((ad 0), .inr (11, [.ref (ad 1), .ref (ad 5), .ref (ad 18), .ref (ad 31), .ref (ad 32), .ref (ad 36), .ref (ad 42), .ref (ad 45), .ref (ad 47), .ref (ad 49), .ref (ad 50), .ref (ad 51)]))]) (hI.1.I [0] _ rfl (by decide) (by decide) (List.forall_mem_cons.mpr ⟨wf_a, (fun _ h => nomatch h)⟩)) ?_)
  refine y_lvE (lv2 := [(0, .ref (ad 0)), (1, .int (nI k))]) rfl ?_
  refine y_aload_n d_Ip_shrunkIn_0 rfl 0 rfl ?_
  refine y_iload_n d_Ip_shrunkIn_1 rfl 1 rfl ?_
  refine yw_callV (As := [.int (nI k)]) (rest := []) (q0 := 0) rfl rfl ln_Ip_436 w_im_Ip_castingAt w_se_Ip_castingAt ok_Ip_shrunkIn_Ip_castingAt d_Ip_shrunkIn_2 (fun wA hA => Q_castingAtN (hI.gen (t2 := t) (is := [0]) (L2 := []) hA rfl ⟨kd_0.mpr rfl, trivial⟩ (by decide) (by decide) (fun _ h => nomatch h) (fun _ h => nomatch h) (fun _ _ _ => rfl) (fun h => h) rfl) k hk) rfl rfl (Nat.le_of_ble_eq_true rfl) (by omega) (by omega) (fun wA2 hA2 E wB2 hx => ?_) (fun wA2 hA2 v wB2 hx => ?_)
  · exact absurd hx.1 (by simp)
  · obtain ⟨e1, e2⟩ := hx
    cases e1
    refine yw_st (st2 := [.ref (u.2.2 1 k)]) rfl ?_
    subst e2
    refine y_go hA2 ?_
    refine y_end (fun wC1 hC1 => ?_)
    have hI9 := (hI.gen (t2 := t) (is := [0]) (L2 := []) hC1 rfl ⟨kd_0.mpr rfl, trivial⟩ (by decide) (by decide) (fun _ h => nomatch h) (fun _ h => nomatch h) (fun _ _ _ => rfl) (fun h => h) rfl)
    have hI := hI9
    obtain ⟨nf_c, me_c, gr_c, hw_c, nfm_c, hwm_c, nfg_c, hwg_c⟩ := hI.2.1.2.1 1 (by decide) k hk
    refine y_base (cs := [((ad 0), .inr (11, [.ref (ad 1), .ref (ad 5), .ref (ad 18), .ref (ad 31), .ref (ad 32), .ref (ad 36), .ref (ad 42), .ref (ad 45), .ref (ad 47), .ref (ad 49), .ref (ad 50), .ref (ad 51)])), ((u.2.2 1 k), .inr (0, [.ref me_c, .int ((t.2 1 k).1 0), .int ((t.2 1 k).1 1), .int ((t.2 1 k).1 2), .int ((t.2 1 k).1 3), .int ((t.2 1 k).1 4)])), (me_c, .inr (6, [.ref gr_c, .int ((t.2 1 k).1 5)])), (gr_c, .inl (3, 4, .inr (.inl ((t.2 1 k).2.2.1))))]) (z_I.kd (List.forall_mem_cons.mpr ⟨hC1.at (q0 := 0) rfl, (List.forall_mem_cons.mpr ⟨hw_c, (List.forall_mem_cons.mpr ⟨hwm_c, (List.forall_mem_cons.mpr ⟨hwg_c, (fun _ h => nomatch h)⟩)⟩)⟩)⟩) (by simp [z_kd])) ?_
    refine y_get fs_Ip_448 d_Ip_shrunkIn_5 (q0 := 1) rfl rfl ?_
    refine y_iret d_Ip_shrunkIn_8 rfl rfl ?_
    exact fun w1 h1 => ⟨Or.inl ⟨_, rfl⟩, (hI.gen (t2 := t) (is := [0]) (L2 := [(u.2.2 1 k), me_c, gr_c]) h1 rfl ⟨kd_0.mpr rfl, trivial⟩ (by decide) (by decide) (List.forall_mem_cons.mpr ⟨nf_c, (List.forall_mem_cons.mpr ⟨nfm_c, (List.forall_mem_cons.mpr ⟨nfg_c, (fun _ h => nomatch h)⟩)⟩)⟩) (List.forall_mem_cons.mpr ⟨⟨_, hw_c, h1.at (q0 := 1) rfl⟩, (List.forall_mem_cons.mpr ⟨⟨_, hwm_c, h1.at (q0 := 2) rfl⟩, (List.forall_mem_cons.mpr ⟨⟨_, hwg_c, h1.at (q0 := 3) rfl⟩, (fun _ h => nomatch h)⟩)⟩)⟩) (fun _ _ _ => rfl) (fun h => h) rfl)⟩
theorem d_Ip_bar_5 : decode prog_1_method_43_code 5 = .ok (.invokevirtual 453, 3) := zo_182 (d := 1) (e := 197) (zd_b zq_prog_1_method_43_code_0 5 rfl rfl rfl) (zd_b zq_prog_1_method_43_code_0 6 rfl rfl rfl) (zd_b zq_prog_1_method_43_code_0 7 rfl rfl rfl)
theorem ok_Ip_bar_Ca_barBears : z_ok M_Ip_bar M_Ca_barBears 0 := ⟨z_mj6 (i := 227) rfl (by decide +kernel), rfl, ⟨by decide +kernel, by decide +kernel, by decide +kernel⟩, ⟨by decide, by decide⟩, z_mj1 (i := 35) rfl (by decide +kernel), rfl⟩
theorem ln_Ip_453 : Cond.methodLink "Ironpour" 453 M_Ca_barBears.1 ∈ z_gw := z_mj6 (i := 224) rfl (by decide +kernel)
theorem w_im_Ca_barBears : Cond.instanceMethod M_Ca_barBears.1 ∈ z_gw := z_mj6 (i := 225) rfl (by decide +kernel)
theorem w_se_Ca_barBears : Cond.selects M_Ca_barBears.1.cls M_Ca_barBears.1 M_Ca_barBears.1 ∈ z_gw := z_mj6 (i := 226) rfl (by decide +kernel)
theorem d_Ip_bar_8 : decode prog_1_method_43_code 8 = .ok (.ireturn, 1) := zo_172 (zd_b zq_prog_1_method_43_code_0 8 rfl rfl rfl)
set_option maxHeartbeats 4000000 in
set_option maxRecDepth 100000 in
theorem Q_Ip_barN {g : zG} {ad : Nat → Nat} {t : zTT} {u : zNN} {w : zW} (hI : IV g ad t u w) (k : Nat) (hk : k < u.1 1) : zMB g M_Ip_bar [.ref (ad 0), .int (nI k)] w (fun o w1 => zri ["java/lang/IndexOutOfBoundsException"] o ∧ IV g ad t u w1) 1 6 := by
  obtain ⟨e_a, wf_a, k_a⟩ := hI.1.2 0 (by decide)
  obtain rfl := kd_0.mp k_a
  refine y_of (by decide) rfl (Nat.le_of_ble_eq_true rfl) (y_base (cs := [((ad 0), .inr (11, [.ref (ad 1), .ref (ad 5), .ref (ad 18), .ref (ad 31), .ref (ad 32), .ref (ad 36), .ref (ad 42), .ref (ad 45), .ref (ad 47), .ref (ad 49), .ref (ad 50), .ref (ad 51)]))]) (hI.1.I [0] _ rfl (by decide) (by decide) (List.forall_mem_cons.mpr ⟨wf_a, (fun _ h => nomatch h)⟩)) ?_)
  refine y_lvE (lv2 := [(0, .ref (ad 0)), (1, .int (nI k))]) rfl ?_
  refine y_aload_n d_Ip_bar_0 rfl 0 rfl ?_
  refine y_iload_n d_Ip_bar_1 rfl 1 rfl ?_
  refine yw_callV (As := [.int (nI k)]) (rest := []) (q0 := 0) rfl rfl ln_Ip_436 w_im_Ip_castingAt w_se_Ip_castingAt ok_Ip_bar_Ip_castingAt d_Ip_bar_2 (fun wA hA => Q_castingAtN (hI.gen (t2 := t) (is := [0]) (L2 := []) hA rfl ⟨kd_0.mpr rfl, trivial⟩ (by decide) (by decide) (fun _ h => nomatch h) (fun _ h => nomatch h) (fun _ _ _ => rfl) (fun h => h) rfl) k hk) rfl rfl (Nat.le_of_ble_eq_true rfl) (by omega) (by omega) (fun wA2 hA2 E wB2 hx => ?_) (fun wA2 hA2 v wB2 hx => ?_)
  · exact absurd hx.1 (by simp)
  · obtain ⟨e1, e2⟩ := hx
    cases e1
    refine yw_st (st2 := [.ref (u.2.2 1 k)]) rfl ?_
    subst e2
    refine y_go hA2 ?_
    refine y_end (fun wC1 hC1 => ?_)
    have hI9 := (hI.gen (t2 := t) (is := [0]) (L2 := []) hC1 rfl ⟨kd_0.mpr rfl, trivial⟩ (by decide) (by decide) (fun _ h => nomatch h) (fun _ h => nomatch h) (fun _ _ _ => rfl) (fun h => h) rfl)
    have hI := hI9
    obtain ⟨nf_c, me_c, gr_c, hw_c, nfm_c, hwm_c, nfg_c, hwg_c⟩ := hI.2.1.2.1 1 (by decide) k hk
    refine y_base (cs := [((ad 0), .inr (11, [.ref (ad 1), .ref (ad 5), .ref (ad 18), .ref (ad 31), .ref (ad 32), .ref (ad 36), .ref (ad 42), .ref (ad 45), .ref (ad 47), .ref (ad 49), .ref (ad 50), .ref (ad 51)])), ((u.2.2 1 k), .inr (0, [.ref me_c, .int ((t.2 1 k).1 0), .int ((t.2 1 k).1 1), .int ((t.2 1 k).1 2), .int ((t.2 1 k).1 3), .int ((t.2 1 k).1 4)])), (me_c, .inr (6, [.ref gr_c, .int ((t.2 1 k).1 5)])), (gr_c, .inl (3, 4, .inr (.inl ((t.2 1 k).2.2.1))))]) (z_I.kd (List.forall_mem_cons.mpr ⟨hC1.at (q0 := 0) rfl, (List.forall_mem_cons.mpr ⟨hw_c, (List.forall_mem_cons.mpr ⟨hwm_c, (List.forall_mem_cons.mpr ⟨hwg_c, (fun _ h => nomatch h)⟩)⟩)⟩)⟩) (by simp [z_kd])) ?_
    refine y_callV (As := []) (rest := []) (csC := [((u.2.2 1 k), .inr (0, [.ref me_c, .int ((t.2 1 k).1 0), .int ((t.2 1 k).1 1), .int ((t.2 1 k).1 2), .int ((t.2 1 k).1 3), .int ((t.2 1 k).1 4)])), (me_c, .inr (6, [.ref gr_c, .int ((t.2 1 k).1 5)])), (gr_c, .inl (3, 4, .inr (.inl ((t.2 1 k).2.2.1))))]) (is := [1, 2, 3]) (q0 := 1) rfl rfl ln_Ip_453 w_im_Ca_barBears w_se_Ca_barBears ok_Ip_bar_Ca_barBears d_Ip_bar_5 (C_Ca_barBears g (u.2.2 1 k) me_c gr_c ((t.2 1 k).2.2.1) ((t.2 1 k).1 5) ((t.2 1 k).1 0) ((t.2 1 k).1 1) ((t.2 1 k).1 2) ((t.2 1 k).1 3) ((t.2 1 k).1 4)) rfl rfl (Nat.le_of_ble_eq_true rfl) rfl (by decide) (by omega) (by omega) (fun E cs1 hx => ?_) (fun v cs1 hx => ?_)
    · exact absurd hx.1 (by simp)
    · obtain ⟨e1, rfl⟩ := hx
      cases e1
      refine ⟨rfl, ?_⟩
      refine y_st (st2 := [.int (bbI ((t.2 1 k).1 0) ((t.2 1 k).2.2.1) ((t.2 1 k).1 5) ((t.2 1 k).1 2))]) rfl ?_
      refine y_cs (cs2 := [((ad 0), .inr (11, [.ref (ad 1), .ref (ad 5), .ref (ad 18), .ref (ad 31), .ref (ad 32), .ref (ad 36), .ref (ad 42), .ref (ad 45), .ref (ad 47), .ref (ad 49), .ref (ad 50), .ref (ad 51)])), ((u.2.2 1 k), .inr (0, [.ref me_c, .int ((t.2 1 k).1 0), .int ((t.2 1 k).1 1), .int ((t.2 1 k).1 2), .int ((t.2 1 k).1 3), .int ((t.2 1 k).1 4)])), (me_c, .inr (6, [.ref gr_c, .int ((t.2 1 k).1 5)])), (gr_c, .inl (3, 4, .inr (.inl ((t.2 1 k).2.2.1))))]) rfl ?_
      refine y_iret d_Ip_bar_8 rfl rfl ?_
      exact fun w1 h1 => ⟨Or.inl ⟨_, rfl⟩, (hI.gen (t2 := t) (is := [0]) (L2 := [(u.2.2 1 k), me_c, gr_c]) h1 rfl ⟨kd_0.mpr rfl, trivial⟩ (by decide) (by decide) (List.forall_mem_cons.mpr ⟨nf_c, (List.forall_mem_cons.mpr ⟨nfm_c, (List.forall_mem_cons.mpr ⟨nfg_c, (fun _ h => nomatch h)⟩)⟩)⟩) (List.forall_mem_cons.mpr ⟨⟨_, hw_c, h1.at (q0 := 1) rfl⟩, (List.forall_mem_cons.mpr ⟨⟨_, hwm_c, h1.at (q0 := 2) rfl⟩, (List.forall_mem_cons.mpr ⟨⟨_, hwg_c, h1.at (q0 := 3) rfl⟩, (fun _ h => nomatch h)⟩)⟩)⟩) (fun _ _ _ => rfl) (fun h => h) rfl)⟩
theorem d_Ip_has_5 : decode prog_1_method_42_code 5 = .ok (.astore_n 3, 1) := zo_78 (zd_b zq_prog_1_method_42_code_0 5 rfl rfl rfl)
theorem d_Ip_has_6 : decode prog_1_method_42_code 6 = .ok (.aload_n 3, 1) := zo_45 (zd_b zq_prog_1_method_42_code_0 6 rfl rfl rfl)
theorem d_Ip_has_7 : decode prog_1_method_42_code 7 = .ok (.getfield 450, 3) := zo_180 (d := 1) (e := 194) (zd_b zq_prog_1_method_42_code_0 7 rfl rfl rfl) (zd_b zq_prog_1_method_42_code_0 8 rfl rfl rfl) (zd_b zq_prog_1_method_42_code_0 9 rfl rfl rfl)
theorem fs_Ip_450 : z_fs "Ironpour" 450 0 0 := ⟨R_Ca, "Ironpour$Casting", F_Ca, 6, rfl, u_Ca, by decide, Or.inr ⟨"Ironpour", z_mk6 (i := 141) rfl (by decide +kernel), rfl⟩⟩
theorem d_Ip_has_10 : decode prog_1_method_42_code 10 = .ok (.iload_n 2, 1) := zo_28 (zd_b zq_prog_1_method_42_code_0 10 rfl rfl rfl)
theorem d_Ip_has_11 : decode prog_1_method_42_code 11 = .ok (.invokestatic 294, 3) := zo_184 (d := 1) (e := 38) (zd_b zq_prog_1_method_42_code_0 11 rfl rfl rfl) (zd_b zq_prog_1_method_42_code_0 12 rfl rfl rfl) (zd_b zq_prog_1_method_42_code_0 13 rfl rfl rfl)
theorem ok_Ip_has_Ip_elementIndex : z_ok M_Ip_has M_Ip_elementIndex 1 := ⟨z_mj5 (i := 74) rfl (by decide +kernel), rfl, ⟨by decide +kernel, by decide +kernel, by decide +kernel⟩, ⟨by decide, by decide⟩, z_mj1 (i := 1) rfl (by decide +kernel), rfl⟩
theorem d_Ip_has_14 : decode prog_1_method_42_code 14 = .ok (.invokevirtual 300, 3) := zo_182 (d := 1) (e := 44) (zd_b zq_prog_1_method_42_code_0 14 rfl rfl rfl) (zd_b zq_prog_1_method_42_code_0 15 rfl rfl rfl) (zd_b zq_prog_1_method_42_code_0 16 rfl rfl rfl)
theorem ok_Ip_has_Me_partOf : z_ok M_Ip_has M_Me_partOf 1 := ⟨z_mj5 (i := 81) rfl (by decide +kernel), rfl, ⟨by decide +kernel, by decide +kernel, by decide +kernel⟩, ⟨by decide, by decide⟩, z_mj1 (i := 8) rfl (by decide +kernel), rfl⟩
theorem d_Ip_has_17 : decode prog_1_method_42_code 17 = .ok (.ireturn, 1) := zo_172 (zd_b zq_prog_1_method_42_code_0 17 rfl rfl rfl)
set_option maxHeartbeats 4000000 in
set_option maxRecDepth 100000 in
theorem Q_Ip_hasN {g : zG} {ad : Nat → Nat} {t : zTT} {u : zNN} {w : zW} (hI : IV g ad t u w) (k : Nat) (hk : k < u.1 1) (c9 : Int32) (e9 : Nat) (he9 : e9 < 4) (h2 : z_ix 2 c9 = nI e9) : zMB g M_Ip_has [.ref (ad 0), .int (nI k), .int c9] w (fun o w1 => zri ["java/lang/IndexOutOfBoundsException", "java/lang/IllegalArgumentException"] o ∧ IV g ad t u w1) 2 12 := by
  obtain ⟨e_a, wf_a, k_a⟩ := hI.1.2 0 (by decide)
  obtain rfl := kd_0.mp k_a
  refine y_of (by decide) rfl (Nat.le_of_ble_eq_true rfl) (y_base (cs := [((ad 0), .inr (11, [.ref (ad 1), .ref (ad 5), .ref (ad 18), .ref (ad 31), .ref (ad 32), .ref (ad 36), .ref (ad 42), .ref (ad 45), .ref (ad 47), .ref (ad 49), .ref (ad 50), .ref (ad 51)]))]) (hI.1.I [0] _ rfl (by decide) (by decide) (List.forall_mem_cons.mpr ⟨wf_a, (fun _ h => nomatch h)⟩)) ?_)
  refine y_lvE (lv2 := [(0, .ref (ad 0)), (1, .int (nI k)), (2, .int c9)]) rfl ?_
  refine y_aload_n d_Ip_has_0 rfl 0 rfl ?_
  refine y_iload_n d_Ip_has_1 rfl 1 rfl ?_
  refine yw_callV (As := [.int (nI k)]) (rest := []) (q0 := 0) rfl rfl ln_Ip_436 w_im_Ip_castingAt w_se_Ip_castingAt ok_Ip_has_Ip_castingAt d_Ip_has_2 (fun wA hA => Q_castingAtN (hI.gen (t2 := t) (is := [0]) (L2 := []) hA rfl ⟨kd_0.mpr rfl, trivial⟩ (by decide) (by decide) (fun _ h => nomatch h) (fun _ h => nomatch h) (fun _ _ _ => rfl) (fun h => h) rfl) k hk) rfl rfl (Nat.le_of_ble_eq_true rfl) (by omega) (by omega) (fun wA2 hA2 E wB2 hx => ?_) (fun wA2 hA2 v wB2 hx => ?_)
  · exact absurd hx.1 (by simp)
  · obtain ⟨e1, e2⟩ := hx
    cases e1
    refine yw_st (st2 := [.ref (u.2.2 1 k)]) rfl ?_
    subst e2
    refine y_go hA2 ?_
    refine y_end (fun wC1 hC1 => ?_)
    have hI9 := (hI.gen (t2 := t) (is := [0]) (L2 := []) hC1 rfl ⟨kd_0.mpr rfl, trivial⟩ (by decide) (by decide) (fun _ h => nomatch h) (fun _ h => nomatch h) (fun _ _ _ => rfl) (fun h => h) rfl)
    have hI := hI9
    obtain ⟨nf_c, me_c, gr_c, hw_c, nfm_c, hwm_c, nfg_c, hwg_c⟩ := hI.2.1.2.1 1 (by decide) k hk
    refine y_base (cs := [((ad 0), .inr (11, [.ref (ad 1), .ref (ad 5), .ref (ad 18), .ref (ad 31), .ref (ad 32), .ref (ad 36), .ref (ad 42), .ref (ad 45), .ref (ad 47), .ref (ad 49), .ref (ad 50), .ref (ad 51)])), ((u.2.2 1 k), .inr (0, [.ref me_c, .int ((t.2 1 k).1 0), .int ((t.2 1 k).1 1), .int ((t.2 1 k).1 2), .int ((t.2 1 k).1 3), .int ((t.2 1 k).1 4)])), (me_c, .inr (6, [.ref gr_c, .int ((t.2 1 k).1 5)])), (gr_c, .inl (3, 4, .inr (.inl ((t.2 1 k).2.2.1))))]) (z_I.kd (List.forall_mem_cons.mpr ⟨hC1.at (q0 := 0) rfl, (List.forall_mem_cons.mpr ⟨hw_c, (List.forall_mem_cons.mpr ⟨hwm_c, (List.forall_mem_cons.mpr ⟨hwg_c, (fun _ h => nomatch h)⟩)⟩)⟩)⟩) (by simp [z_kd])) ?_
    refine y_astore_n (lv' := [(3, .ref (u.2.2 1 k)), (0, .ref (ad 0)), (1, .int (nI k)), (2, .int c9)]) d_Ip_has_5 rfl (by decide) rfl ?_
    refine y_aload_n d_Ip_has_6 rfl 0 rfl ?_
    refine y_get fs_Ip_450 d_Ip_has_7 (q0 := 1) rfl rfl ?_
    refine y_iload_n d_Ip_has_10 rfl 3 rfl ?_
    refine y_callS (As := [.int c9]) (rest := [.ref me_c]) (csC := []) (is := []) ln_Ip_294 w_st_Ip_elementIndex ok_Ip_has_Ip_elementIndex d_Ip_has_11 (C_Ip_elementIndexN g c9 e9 he9 h2) rfl rfl (Nat.le_of_ble_eq_true rfl) rfl (by decide) (by omega) (by omega) (fun E cs1 hx => ?_) (fun v cs1 hx => ?_)
    · exact absurd hx.1 (by simp)
    · obtain ⟨e1, rfl⟩ := hx
      cases e1
      refine ⟨rfl, ?_⟩
      refine y_st (st2 := [.int (nI e9), .ref me_c]) rfl ?_
      refine y_cs (cs2 := [((ad 0), .inr (11, [.ref (ad 1), .ref (ad 5), .ref (ad 18), .ref (ad 31), .ref (ad 32), .ref (ad 36), .ref (ad 42), .ref (ad 45), .ref (ad 47), .ref (ad 49), .ref (ad 50), .ref (ad 51)])), ((u.2.2 1 k), .inr (0, [.ref me_c, .int ((t.2 1 k).1 0), .int ((t.2 1 k).1 1), .int ((t.2 1 k).1 2), .int ((t.2 1 k).1 3), .int ((t.2 1 k).1 4)])), (me_c, .inr (6, [.ref gr_c, .int ((t.2 1 k).1 5)])), (gr_c, .inl (3, 4, .inr (.inl ((t.2 1 k).2.2.1))))]) rfl ?_
      refine y_callV (As := [.int (nI e9)]) (rest := []) (csC := [(me_c, .inr (6, [.ref gr_c, .int ((t.2 1 k).1 5)])), (gr_c, .inl (3, 4, .inr (.inl ((t.2 1 k).2.2.1))))]) (is := [2, 3]) (q0 := 2) rfl rfl ln_Ip_300 w_im_Me_partOf w_se_Me_partOf ok_Ip_has_Me_partOf d_Ip_has_14 (C_Me_partOf g me_c gr_c ((t.2 1 k).2.2.1) ((t.2 1 k).1 5) e9 he9) rfl rfl (Nat.le_of_ble_eq_true rfl) rfl (by decide) (by omega) (by omega) (fun E cs1 hx => ?_) (fun v cs1 hx => ?_)
      · exact absurd hx.1 (by simp)
      · obtain ⟨e1, rfl⟩ := hx
        cases e1
        refine ⟨rfl, ?_⟩
        refine y_st (st2 := [.int (poI ((t.2 1 k).2.2.1) ((t.2 1 k).1 5) e9)]) rfl ?_
        refine y_cs (cs2 := [((ad 0), .inr (11, [.ref (ad 1), .ref (ad 5), .ref (ad 18), .ref (ad 31), .ref (ad 32), .ref (ad 36), .ref (ad 42), .ref (ad 45), .ref (ad 47), .ref (ad 49), .ref (ad 50), .ref (ad 51)])), ((u.2.2 1 k), .inr (0, [.ref me_c, .int ((t.2 1 k).1 0), .int ((t.2 1 k).1 1), .int ((t.2 1 k).1 2), .int ((t.2 1 k).1 3), .int ((t.2 1 k).1 4)])), (me_c, .inr (6, [.ref gr_c, .int ((t.2 1 k).1 5)])), (gr_c, .inl (3, 4, .inr (.inl ((t.2 1 k).2.2.1))))]) rfl ?_
        refine y_iret d_Ip_has_17 rfl rfl ?_
        exact fun w1 h1 => ⟨Or.inl ⟨_, rfl⟩, (hI.gen (t2 := t) (is := [0]) (L2 := [(u.2.2 1 k), me_c, gr_c]) h1 rfl ⟨kd_0.mpr rfl, trivial⟩ (by decide) (by decide) (List.forall_mem_cons.mpr ⟨nf_c, (List.forall_mem_cons.mpr ⟨nfm_c, (List.forall_mem_cons.mpr ⟨nfg_c, (fun _ h => nomatch h)⟩)⟩)⟩) (List.forall_mem_cons.mpr ⟨⟨_, hw_c, h1.at (q0 := 1) rfl⟩, (List.forall_mem_cons.mpr ⟨⟨_, hwm_c, h1.at (q0 := 2) rfl⟩, (List.forall_mem_cons.mpr ⟨⟨_, hwg_c, h1.at (q0 := 3) rfl⟩, (fun _ h => nomatch h)⟩)⟩)⟩) (fun _ _ _ => rfl) (fun h => h) rfl)⟩
set_option maxHeartbeats 4000000 in
set_option maxRecDepth 100000 in
theorem Q_Ip_hasF {g : zG} {ad : Nat → Nat} {t : zTT} {u : zNN} {w : zW} (hI : IV g ad t u w) (k : Nat) (hk : k < u.1 1) (c9 : Int32) (h2 : z_ix 2 c9 < 0) : zMB g M_Ip_has [.ref (ad 0), .int (nI k), .int c9] w (fun o w1 => zri ["java/lang/IndexOutOfBoundsException", "java/lang/IllegalArgumentException"] o ∧ IV g ad t u w1) 2 12 := by
  obtain ⟨e_a, wf_a, k_a⟩ := hI.1.2 0 (by decide)
  obtain rfl := kd_0.mp k_a
  refine y_of (by decide) rfl (Nat.le_of_ble_eq_true rfl) (y_base (cs := [((ad 0), .inr (11, [.ref (ad 1), .ref (ad 5), .ref (ad 18), .ref (ad 31), .ref (ad 32), .ref (ad 36), .ref (ad 42), .ref (ad 45), .ref (ad 47), .ref (ad 49), .ref (ad 50), .ref (ad 51)]))]) (hI.1.I [0] _ rfl (by decide) (by decide) (List.forall_mem_cons.mpr ⟨wf_a, (fun _ h => nomatch h)⟩)) ?_)
  refine y_lvE (lv2 := [(0, .ref (ad 0)), (1, .int (nI k)), (2, .int c9)]) rfl ?_
  refine y_aload_n d_Ip_has_0 rfl 0 rfl ?_
  refine y_iload_n d_Ip_has_1 rfl 1 rfl ?_
  refine yw_callV (As := [.int (nI k)]) (rest := []) (q0 := 0) rfl rfl ln_Ip_436 w_im_Ip_castingAt w_se_Ip_castingAt ok_Ip_has_Ip_castingAt d_Ip_has_2 (fun wA hA => Q_castingAtN (hI.gen (t2 := t) (is := [0]) (L2 := []) hA rfl ⟨kd_0.mpr rfl, trivial⟩ (by decide) (by decide) (fun _ h => nomatch h) (fun _ h => nomatch h) (fun _ _ _ => rfl) (fun h => h) rfl) k hk) rfl rfl (Nat.le_of_ble_eq_true rfl) (by omega) (by omega) (fun wA2 hA2 E wB2 hx => ?_) (fun wA2 hA2 v wB2 hx => ?_)
  · exact absurd hx.1 (by simp)
  · obtain ⟨e1, e2⟩ := hx
    cases e1
    refine yw_st (st2 := [.ref (u.2.2 1 k)]) rfl ?_
    subst e2
    refine y_go hA2 ?_
    refine y_end (fun wC1 hC1 => ?_)
    have hI9 := (hI.gen (t2 := t) (is := [0]) (L2 := []) hC1 rfl ⟨kd_0.mpr rfl, trivial⟩ (by decide) (by decide) (fun _ h => nomatch h) (fun _ h => nomatch h) (fun _ _ _ => rfl) (fun h => h) rfl)
    have hI := hI9
    obtain ⟨nf_c, me_c, gr_c, hw_c, nfm_c, hwm_c, nfg_c, hwg_c⟩ := hI.2.1.2.1 1 (by decide) k hk
    refine y_base (cs := [((ad 0), .inr (11, [.ref (ad 1), .ref (ad 5), .ref (ad 18), .ref (ad 31), .ref (ad 32), .ref (ad 36), .ref (ad 42), .ref (ad 45), .ref (ad 47), .ref (ad 49), .ref (ad 50), .ref (ad 51)])), ((u.2.2 1 k), .inr (0, [.ref me_c, .int ((t.2 1 k).1 0), .int ((t.2 1 k).1 1), .int ((t.2 1 k).1 2), .int ((t.2 1 k).1 3), .int ((t.2 1 k).1 4)])), (me_c, .inr (6, [.ref gr_c, .int ((t.2 1 k).1 5)])), (gr_c, .inl (3, 4, .inr (.inl ((t.2 1 k).2.2.1))))]) (z_I.kd (List.forall_mem_cons.mpr ⟨hC1.at (q0 := 0) rfl, (List.forall_mem_cons.mpr ⟨hw_c, (List.forall_mem_cons.mpr ⟨hwm_c, (List.forall_mem_cons.mpr ⟨hwg_c, (fun _ h => nomatch h)⟩)⟩)⟩)⟩) (by simp [z_kd])) ?_
    refine y_astore_n (lv' := [(3, .ref (u.2.2 1 k)), (0, .ref (ad 0)), (1, .int (nI k)), (2, .int c9)]) d_Ip_has_5 rfl (by decide) rfl ?_
    refine y_aload_n d_Ip_has_6 rfl 0 rfl ?_
    refine y_get fs_Ip_450 d_Ip_has_7 (q0 := 1) rfl rfl ?_
    refine y_iload_n d_Ip_has_10 rfl 3 rfl ?_
    refine y_callS (As := [.int c9]) (rest := [.ref me_c]) (csC := []) (is := []) ln_Ip_294 w_st_Ip_elementIndex ok_Ip_has_Ip_elementIndex d_Ip_has_11 (C_Ip_elementIndexE g c9 h2) rfl rfl (Nat.le_of_ble_eq_true rfl) rfl (by decide) (by omega) (by omega) (fun E cs1 hx => ?_) (fun v cs1 hx => ?_)
    · obtain ⟨e1, rfl⟩ := hx
      cases e1
      exact ⟨rfl, fun w1 h1 => ⟨Or.inr ⟨_, List.Mem.tail _ (List.Mem.head _), rfl⟩, (hI.gen (t2 := t) (is := [0]) (L2 := [(u.2.2 1 k), me_c, gr_c]) h1 rfl ⟨kd_0.mpr rfl, trivial⟩ (by decide) (by decide) (List.forall_mem_cons.mpr ⟨nf_c, (List.forall_mem_cons.mpr ⟨nfm_c, (List.forall_mem_cons.mpr ⟨nfg_c, (fun _ h => nomatch h)⟩)⟩)⟩) (List.forall_mem_cons.mpr ⟨⟨_, hw_c, h1.at (q0 := 1) rfl⟩, (List.forall_mem_cons.mpr ⟨⟨_, hwm_c, h1.at (q0 := 2) rfl⟩, (List.forall_mem_cons.mpr ⟨⟨_, hwg_c, h1.at (q0 := 3) rfl⟩, (fun _ h => nomatch h)⟩)⟩)⟩) (fun _ _ _ => rfl) (fun h => h) rfl)⟩⟩
    · exact absurd hx.1 (by simp)
set_option maxHeartbeats 4000000 in
set_option maxRecDepth 100000 in
theorem Q_Ip_castings {g : zG} {ad : Nat → Nat} {t : zTT} {u : zNN} {w : zW} (hI : IV g ad t u w) : zMB g M_Ip_castings [.ref (ad 0)] w (fun o w1 => zri [] o ∧ IV g ad t u w1) 0 0 := by
  obtain ⟨e_a, wf_a, k_a⟩ := hI.1.2 0 (by decide)
  obtain rfl := kd_0.mp k_a
  refine y_of (by decide) rfl (Nat.le_of_ble_eq_true rfl) (y_base (cs := [((ad 0), .inr (11, [.ref (ad 1), .ref (ad 5), .ref (ad 18), .ref (ad 31), .ref (ad 32), .ref (ad 36), .ref (ad 42), .ref (ad 45), .ref (ad 47), .ref (ad 49), .ref (ad 50), .ref (ad 51)]))]) (hI.1.I [0] _ rfl (by decide) (by decide) (List.forall_mem_cons.mpr ⟨wf_a, (fun _ h => nomatch h)⟩)) ?_)
  refine y_lvE (lv2 := [(0, .ref (ad 0))]) rfl ?_
  refine y_aload_n d_Ip_castings_0 rfl 0 rfl ?_
  refine y_get fs_Ip_78 d_Ip_castings_1 (q0 := 0) rfl rfl ?_
  refine yw_callVL (As := []) (rest := []) (ci := 13) rfl (fun wA hA => ((hI.gen (t2 := t) (is := [0]) (L2 := []) hA rfl ⟨kd_0.mpr rfl, trivial⟩ (by decide) (by decide) (fun _ h => nomatch h) (fun _ h => nomatch h) (fun _ _ _ => rfl) (fun h => h) rfl).2.1.1 1 (by decide)).ob) ln_Ip_341 w_im_AL_size w_se_AL_size ok_Ip_castings_AL_size d_Ip_castings_4 (fun wA hA => Q_size ((hI.gen (t2 := t) (is := [0]) (L2 := []) hA rfl ⟨kd_0.mpr rfl, trivial⟩ (by decide) (by decide) (fun _ h => nomatch h) (fun _ h => nomatch h) (fun _ _ _ => rfl) (fun h => h) rfl).2.1.1 1 (by decide))) rfl rfl (Nat.le_of_ble_eq_true rfl) (by omega) (by omega) (fun wA4 hA4 E wB4 hx => ?_) (fun wA4 hA4 v wB4 hx => ?_)
  · exact absurd hx.1 (by simp)
  · obtain ⟨e1, e2⟩ := hx
    cases e1
    refine yw_st (st2 := [.int (nI (u.1 1))]) rfl ?_
    subst e2
    refine y_go hA4 ?_
    refine y_iret d_Ip_castings_7 rfl rfl ?_
    exact fun w1 h1 => ⟨Or.inl ⟨_, rfl⟩, (hI.gen (t2 := t) (is := [0]) (L2 := []) h1 rfl ⟨kd_0.mpr rfl, trivial⟩ (by decide) (by decide) (fun _ h => nomatch h) (fun _ h => nomatch h) (fun _ _ _ => rfl) (fun h => h) rfl)⟩
theorem d_Ip_castingsWith_15 : decode prog_1_method_67_code 15 = .ok (.aload_n 0, 1) := zo_42 (zd_b zq_prog_1_method_67_code_0 15 rfl rfl rfl)
theorem d_Ip_castingsWith_16 : decode prog_1_method_67_code 16 = .ok (.getfield 78, 3) := zo_180 (d := 0) (e := 78) (zd_b zq_prog_1_method_67_code_0 16 rfl rfl rfl) (zd_b zq_prog_1_method_67_code_0 17 rfl rfl rfl) (zd_b zq_prog_1_method_67_code_0 18 rfl rfl rfl)
theorem d_Ip_castingsWith_19 : decode prog_1_method_67_code 19 = .ok (.iload_n 3, 1) := zo_29 (zd_b zq_prog_1_method_67_code_0 19 rfl rfl rfl)
theorem d_Ip_castingsWith_20 : decode prog_1_method_67_code 20 = .ok (.invokevirtual 344, 3) := zo_182 (d := 1) (e := 88) (zd_b zq_prog_1_method_67_code_0 20 rfl rfl rfl) (zd_b zq_prog_1_method_67_code_0 21 rfl rfl rfl) (zd_b zq_prog_1_method_67_code_0 22 rfl rfl rfl)
theorem ok_Ip_castingsWith_AL_get : z_ok M_Ip_castingsWith M_AL_get 1 := ⟨z_mj2 (i := 180) rfl (by decide +kernel), rfl, ⟨by decide +kernel, by decide +kernel, by decide +kernel⟩, ⟨by decide, by decide⟩, z_mj1 (i := 13) rfl (by decide +kernel), rfl⟩
theorem d_Ip_castingsWith_23 : decode prog_1_method_67_code 23 = .ok (.checkcast 441, 3) := zo_192 (d := 1) (e := 185) (zd_b zq_prog_1_method_67_code_0 23 rfl rfl rfl) (zd_b zq_prog_1_method_67_code_0 24 rfl rfl rfl) (zd_b zq_prog_1_method_67_code_0 25 rfl rfl rfl)
theorem d_Ip_castingsWith_26 : decode prog_1_method_67_code 26 = .ok (.iload_n 1, 1) := zo_27 (zd_b zq_prog_1_method_67_code_0 26 rfl rfl rfl)
theorem d_Ip_castingsWith_27 : decode prog_1_method_67_code 27 = .ok (.invokevirtual 456, 3) := zo_182 (d := 1) (e := 200) (zd_b zq_prog_1_method_67_code_0 27 rfl rfl rfl) (zd_b zq_prog_1_method_67_code_0 28 rfl rfl rfl) (zd_b zq_prog_1_method_67_code_0 29 rfl rfl rfl)
theorem ok_Ip_castingsWith_Ca_hasFault : z_ok M_Ip_castingsWith M_Ca_hasFault 1 := ⟨z_mj7 (i := 5) rfl (by decide +kernel), rfl, ⟨by decide +kernel, by decide +kernel, by decide +kernel⟩, ⟨by decide, by decide⟩, z_mj1 (i := 35) rfl (by decide +kernel), rfl⟩
theorem ln_Ip_456 : Cond.methodLink "Ironpour" 456 M_Ca_hasFault.1 ∈ z_gw := z_mj7 (i := 2) rfl (by decide +kernel)
theorem w_im_Ca_hasFault : Cond.instanceMethod M_Ca_hasFault.1 ∈ z_gw := z_mj7 (i := 3) rfl (by decide +kernel)
theorem w_se_Ca_hasFault : Cond.selects M_Ca_hasFault.1.cls M_Ca_hasFault.1 M_Ca_hasFault.1 ∈ z_gw := z_mj7 (i := 4) rfl (by decide +kernel)
theorem d_Ip_castingsWith_30 : decode prog_1_method_67_code 30 = .ok (.ifCond .eq 6, 3) := zo_153 (d := 0) (e := 6) (zd_b zq_prog_1_method_67_code_0 30 rfl rfl rfl) (zd_b zq_prog_1_method_67_code_0 31 rfl rfl rfl) (zd_b zq_prog_1_method_67_code_1 0 rfl rfl rfl) (by decide +kernel)
theorem d_Ip_castingsWith_36 : decode prog_1_method_67_code 36 = .ok (.iinc 3 1, 3) := by decide +kernel
theorem d_Ip_castingsWith_39 : decode prog_1_method_67_code 39 = .ok (.goto (-35), 3) := zo_167 (d := 255) (e := 221) (zd_b zq_prog_1_method_67_code_1 7 rfl rfl rfl) (zd_b zq_prog_1_method_67_code_1 8 rfl rfl rfl) (zd_b zq_prog_1_method_67_code_1 9 rfl rfl rfl) (by decide +kernel)
theorem d_Ip_castingsWith_33 : decode prog_1_method_67_code 33 = .ok (.iinc 2 1, 3) := by decide +kernel
set_option maxHeartbeats 4000000 in
set_option maxRecDepth 100000 in
theorem L_Q_castingsWith_4 (g : zG) {ad : Nat → Nat} {t : zTT} {u : zNN} {w : zW} (hI : IV g ad t u w) (x : Int32) : ∀ (d i : Nat) (s9 : Int32), i ≤ u.1 1 → u.1 1 < i + d → DW g M_Ip_castingsWith (fun o w1 => (∃ v : Int32, o = .inl (some (.int v))) ∧ w1 = w) w 4 [(3, .int (nI i)), (2, .int s9), (0, .ref (ad 0)), (1, .int x)] [] 0 0 := by
  intro d
  induction d with
  | zero => intro i s9 h1 h2 ; exact absurd h2 (by omega)
  | succ d ih =>
    intro i s9 h1 h2 
    obtain ⟨e_a, wf_a, k_a⟩ := hI.1.2 0 (by decide)
    obtain rfl := kd_0.mp k_a
    have h33 := hI.n5 1 (by decide)
    have hJ := hI.1.I [0] [((ad 0), .inr (11, [.ref (ad 1), .ref (ad 5), .ref (ad 18), .ref (ad 31), .ref (ad 32), .ref (ad 36), .ref (ad 42), .ref (ad 45), .ref (ad 47), .ref (ad 49), .ref (ad 50), .ref (ad 51)]))] rfl (by decide) (by decide) (List.forall_mem_cons.mpr ⟨wf_a, (fun _ h => nomatch h)⟩)
    refine y_base hJ ?_
    refine y_iload_n d_Ip_castingsWith_4 rfl 0 rfl ?_
    refine y_aload_n d_Ip_castingsWith_5 rfl 2 rfl ?_
    refine y_get fs_Ip_78 d_Ip_castingsWith_6 (q0 := 0) rfl rfl ?_
    refine yw_callVL (As := []) (rest := [.int (nI i)]) (ci := 13) rfl (fun wA hA => ((hI.gen (t2 := t) (is := [0]) (L2 := []) hA rfl ⟨kd_0.mpr rfl, trivial⟩ (by decide) (by decide) (fun _ h => nomatch h) (fun _ h => nomatch h) (fun _ _ _ => rfl) (fun h => h) rfl).2.1.1 1 (by decide)).ob) ln_Ip_341 w_im_AL_size w_se_AL_size ok_Ip_castingsWith_AL_size d_Ip_castingsWith_9 (fun wA hA => Q_size ((hI.gen (t2 := t) (is := [0]) (L2 := []) hA rfl ⟨kd_0.mpr rfl, trivial⟩ (by decide) (by decide) (fun _ h => nomatch h) (fun _ h => nomatch h) (fun _ _ _ => rfl) (fun h => h) rfl).2.1.1 1 (by decide))) rfl rfl (Nat.le_of_ble_eq_true rfl) (by omega) (by omega) (fun wA9 hA9 E wB9 hx => ?_) (fun wA9 hA9 v wB9 hx => ?_)
    · exact absurd hx.1 (by simp)
    · obtain ⟨e1, e2⟩ := hx
      cases e1
      refine yw_st (st2 := [.int (nI (u.1 1)), .int (nI i)]) rfl ?_
      subst e2
      refine y_go hA9 ?_
      refine y_icmp_ge (tgt := 42) d_Ip_castingsWith_12 (by decide) (fun c_12 => ?_) (fun c_12 => ?_)
      · have hn := z_le (a := (u.1 1)) (b := i) (by omega) (by omega) c_12
        refine y_iload_n d_Ip_castingsWith_42 rfl 1 rfl ?_
        refine y_iret d_Ip_castingsWith_43 rfl rfl ?_
        exact fun w1 h1 => ⟨⟨_, rfl⟩, z_I.same hJ h1⟩
      · have hn := z_nle (a := (u.1 1)) (b := i) (by omega) (by omega) c_12
        refine y_aload_n d_Ip_castingsWith_15 rfl 2 rfl ?_
        refine y_get fs_Ip_78 d_Ip_castingsWith_16 (q0 := 0) rfl rfl ?_
        refine y_iload_n d_Ip_castingsWith_19 rfl 0 rfl ?_
        refine yw_callVL (As := [.int (nI i)]) (rest := []) (ci := 13) rfl (fun wA hA => ((hI.gen (t2 := t) (is := [0]) (L2 := []) hA rfl ⟨kd_0.mpr rfl, trivial⟩ (by decide) (by decide) (fun _ h => nomatch h) (fun _ h => nomatch h) (fun _ _ _ => rfl) (fun h => h) rfl).2.1.1 1 (by decide)).ob) ln_Ip_344 w_im_AL_get w_se_AL_get ok_Ip_castingsWith_AL_get d_Ip_castingsWith_20 (fun wA hA => Q_get ((hI.gen (t2 := t) (is := [0]) (L2 := []) hA rfl ⟨kd_0.mpr rfl, trivial⟩ (by decide) (by decide) (fun _ h => nomatch h) (fun _ h => nomatch h) (fun _ _ _ => rfl) (fun h => h) rfl).2.1.1 1 (by decide)) hn) rfl rfl (Nat.le_of_ble_eq_true rfl) (by omega) (by omega) (fun wA20 hA20 E wB20 hx => ?_) (fun wA20 hA20 v wB20 hx => ?_)
        · exact absurd hx.1 (by simp)
        · obtain ⟨e1, e2⟩ := hx
          cases e1
          refine yw_st (st2 := [.ref (u.2.2 1 i)]) rfl ?_
          subst e2
          refine y_go hA20 ?_
          refine y_end (fun wC1 hC1 => ?_)
          obtain rfl := z_I.same hJ hC1
          obtain ⟨nf_c, me_c, gr_c, hw_c, nfm_c, hwm_c, nfg_c, hwg_c⟩ := hI.2.1.2.1 1 (by decide) i hn
          have hJ := z_I.kd (cs := [((ad 0), .inr (11, [.ref (ad 1), .ref (ad 5), .ref (ad 18), .ref (ad 31), .ref (ad 32), .ref (ad 36), .ref (ad 42), .ref (ad 45), .ref (ad 47), .ref (ad 49), .ref (ad 50), .ref (ad 51)])), ((u.2.2 1 i), .inr (0, [.ref me_c, .int ((t.2 1 i).1 0), .int ((t.2 1 i).1 1), .int ((t.2 1 i).1 2), .int ((t.2 1 i).1 3), .int ((t.2 1 i).1 4)])), (me_c, .inr (6, [.ref gr_c, .int ((t.2 1 i).1 5)])), (gr_c, .inl (3, 4, .inr (.inl ((t.2 1 i).2.2.1))))]) (List.forall_mem_cons.mpr ⟨wf_a, (List.forall_mem_cons.mpr ⟨hw_c, (List.forall_mem_cons.mpr ⟨hwm_c, (List.forall_mem_cons.mpr ⟨hwg_c, (fun _ h => nomatch h)⟩)⟩)⟩)⟩) (by simp [z_kd])
          refine y_base hJ ?_
          refine y_castO lk_Ip_441 d_Ip_castingsWith_23 (q0 := 1) rfl rfl ?_
          refine y_iload_n d_Ip_castingsWith_26 rfl 3 rfl ?_
          refine y_callV (As := [.int x]) (rest := []) (csC := [((u.2.2 1 i), .inr (0, [.ref me_c, .int ((t.2 1 i).1 0), .int ((t.2 1 i).1 1), .int ((t.2 1 i).1 2), .int ((t.2 1 i).1 3), .int ((t.2 1 i).1 4)])), (me_c, .inr (6, [.ref gr_c, .int ((t.2 1 i).1 5)])), (gr_c, .inl (3, 4, .inr (.inl ((t.2 1 i).2.2.1))))]) (is := [1, 2, 3]) (q0 := 1) rfl rfl ln_Ip_456 w_im_Ca_hasFault w_se_Ca_hasFault ok_Ip_castingsWith_Ca_hasFault d_Ip_castingsWith_27 (C_Ca_hasFault g (u.2.2 1 i) me_c gr_c ((t.2 1 i).2.2.1) ((t.2 1 i).1 5) ((t.2 1 i).1 0) ((t.2 1 i).1 1) ((t.2 1 i).1 2) ((t.2 1 i).1 3) ((t.2 1 i).1 4) x) rfl rfl (Nat.le_of_ble_eq_true rfl) rfl (by decide) (by omega) (by omega) (fun E cs1 hx => ?_) (fun v cs1 hx => ?_)
          · exact absurd hx.1 (by simp)
          · obtain ⟨e1, rfl⟩ := hx
            cases e1
            refine ⟨rfl, ?_⟩
            refine y_st (st2 := [.int (z_bi (hfB ((t.2 1 i).1 2) x))]) rfl ?_
            refine y_cs (cs2 := [((ad 0), .inr (11, [.ref (ad 1), .ref (ad 5), .ref (ad 18), .ref (ad 31), .ref (ad 32), .ref (ad 36), .ref (ad 42), .ref (ad 45), .ref (ad 47), .ref (ad 49), .ref (ad 50), .ref (ad 51)])), ((u.2.2 1 i), .inr (0, [.ref me_c, .int ((t.2 1 i).1 0), .int ((t.2 1 i).1 1), .int ((t.2 1 i).1 2), .int ((t.2 1 i).1 3), .int ((t.2 1 i).1 4)])), (me_c, .inr (6, [.ref gr_c, .int ((t.2 1 i).1 5)])), (gr_c, .inl (3, 4, .inr (.inl ((t.2 1 i).2.2.1))))]) rfl ?_
            refine y_if_eq (tgt := 36) d_Ip_castingsWith_30 (by decide) (fun c_30 => ?_) (fun c_30 => ?_)
            · refine y_iinc (lv' := [(3, .int (nI (i + 1))), (2, .int s9), (0, .ref (ad 0)), (1, .int x)]) (v := nI (i + 1)) d_Ip_castingsWith_36 (j := 0) rfl (nI_add _ _) (by decide) rfl ?_
              refine y_goto (tgt := 4) d_Ip_castingsWith_39 (by decide) ?_
              refine y_end (fun wC2 hC2 => ?_)
              obtain rfl := z_I.same hJ hC2
              exact ih (i + 1) _ (by omega) (by omega) 
            · refine y_iinc (lv' := [(2, .int (s9 + 1)), (3, .int (nI i)), (0, .ref (ad 0)), (1, .int x)]) (v := s9 + 1) d_Ip_castingsWith_33 (j := 1) rfl rfl (by decide) rfl ?_
              refine y_iinc (lv' := [(3, .int (nI (i + 1))), (2, .int (s9 + 1)), (0, .ref (ad 0)), (1, .int x)]) (v := nI (i + 1)) d_Ip_castingsWith_36 (j := 1) rfl (nI_add _ _) (by decide) rfl ?_
              refine y_goto (tgt := 4) d_Ip_castingsWith_39 (by decide) ?_
              refine y_end (fun wC3 hC3 => ?_)
              obtain rfl := z_I.same hJ hC3
              exact ih (i + 1) _ (by omega) (by omega) 
set_option maxHeartbeats 4000000 in
set_option maxRecDepth 100000 in
theorem Q_castingsWith {g : zG} {ad : Nat → Nat} {t : zTT} {u : zNN} {w : zW} (hI : IV g ad t u w) (x : Int32) : zMB g M_Ip_castingsWith [.ref (ad 0), .int x] w (fun o w1 => (∃ v : Int32, o = .inl (some (.int v))) ∧ w1 = w) 0 0 := by
  obtain ⟨e_a, wf_a, k_a⟩ := hI.1.2 0 (by decide)
  obtain rfl := kd_0.mp k_a
  have hJ := hI.1.I [0] [((ad 0), .inr (11, [.ref (ad 1), .ref (ad 5), .ref (ad 18), .ref (ad 31), .ref (ad 32), .ref (ad 36), .ref (ad 42), .ref (ad 45), .ref (ad 47), .ref (ad 49), .ref (ad 50), .ref (ad 51)]))] rfl (by decide) (by decide) (List.forall_mem_cons.mpr ⟨wf_a, (fun _ h => nomatch h)⟩)
  refine y_of (by decide) rfl (Nat.le_of_ble_eq_true rfl) (y_base (cs := [((ad 0), .inr (11, [.ref (ad 1), .ref (ad 5), .ref (ad 18), .ref (ad 31), .ref (ad 32), .ref (ad 36), .ref (ad 42), .ref (ad 45), .ref (ad 47), .ref (ad 49), .ref (ad 50), .ref (ad 51)]))]) hJ ?_)
  refine y_lvE (lv2 := [(0, .ref (ad 0)), (1, .int x)]) rfl ?_
  refine y_iconst d_Ip_castingsWith_0 (v := 0) (by decide) ?_
  refine y_istore_n (lv' := [(2, .int 0), (0, .ref (ad 0)), (1, .int x)]) d_Ip_castingsWith_1 rfl (by decide) rfl ?_
  refine y_iconst d_Ip_castingsWith_2 (v := 0) (by decide) ?_
  refine y_istore_n (lv' := [(3, .int 0), (2, .int 0), (0, .ref (ad 0)), (1, .int x)]) d_Ip_castingsWith_3 rfl (by decide) rfl ?_
  refine y_end (fun wC4 hC4 => ?_)
  obtain rfl := z_I.same hJ hC4
  exact L_Q_castingsWith_4 g hI x (u.1 1 + 1) 0 0 (Nat.zero_le _) (by omega) 
theorem d_Ip_worst_60 : decode prog_1_method_47_code 60 = .ok (.iload_n 1, 1) := zo_27 (zd_b zq_prog_1_method_47_code_1 28 rfl rfl rfl)
theorem d_Ip_worst_61 : decode prog_1_method_47_code 61 = .ok (.iload 5, 2) := zo_21 (d := 5) (zd_b zq_prog_1_method_47_code_1 29 rfl rfl rfl) (zd_b zq_prog_1_method_47_code_1 30 rfl rfl rfl)
theorem d_Ip_worst_63 : decode prog_1_method_47_code 63 = .ok (.if_icmp .ne 6, 3) := zo_160 (d := 0) (e := 6) (zd_b zq_prog_1_method_47_code_1 31 rfl rfl rfl) (zd_b zq_prog_1_method_47_code_2 0 rfl rfl rfl) (zd_b zq_prog_1_method_47_code_2 1 rfl rfl rfl) (by decide +kernel)
theorem d_Ip_worst_69 : decode prog_1_method_47_code 69 = .ok (.iload_n 2, 1) := zo_28 (zd_b zq_prog_1_method_47_code_2 5 rfl rfl rfl)
theorem d_Ip_worst_70 : decode prog_1_method_47_code 70 = .ok (.iload 5, 2) := zo_21 (d := 5) (zd_b zq_prog_1_method_47_code_2 6 rfl rfl rfl) (zd_b zq_prog_1_method_47_code_2 7 rfl rfl rfl)
theorem d_Ip_worst_72 : decode prog_1_method_47_code 72 = .ok (.if_icmp .ne 6, 3) := zo_160 (d := 0) (e := 6) (zd_b zq_prog_1_method_47_code_2 8 rfl rfl rfl) (zd_b zq_prog_1_method_47_code_2 9 rfl rfl rfl) (zd_b zq_prog_1_method_47_code_2 10 rfl rfl rfl) (by decide +kernel)
theorem d_Ip_worst_78 : decode prog_1_method_47_code 78 = .ok (.iload_n 3, 1) := zo_29 (zd_b zq_prog_1_method_47_code_2 14 rfl rfl rfl)
theorem d_Ip_worst_79 : decode prog_1_method_47_code 79 = .ok (.iload 5, 2) := zo_21 (d := 5) (zd_b zq_prog_1_method_47_code_2 15 rfl rfl rfl) (zd_b zq_prog_1_method_47_code_2 16 rfl rfl rfl)
theorem d_Ip_worst_81 : decode prog_1_method_47_code 81 = .ok (.if_icmp .ne 8, 3) := zo_160 (d := 0) (e := 8) (zd_b zq_prog_1_method_47_code_2 17 rfl rfl rfl) (zd_b zq_prog_1_method_47_code_2 18 rfl rfl rfl) (zd_b zq_prog_1_method_47_code_2 19 rfl rfl rfl) (by decide +kernel)
theorem d_Ip_worst_89 : decode prog_1_method_47_code 89 = .ok (.bipush 116, 2) := zo_16 (d := 116) (zd_b zq_prog_1_method_47_code_2 25 rfl rfl rfl) (zd_b zq_prog_1_method_47_code_2 26 rfl rfl rfl) (by decide +kernel)
theorem d_Ip_worst_91 : decode prog_1_method_47_code 91 = .ok (.ireturn, 1) := zo_172 (zd_b zq_prog_1_method_47_code_2 27 rfl rfl rfl)
theorem d_Ip_worst_84 : decode prog_1_method_47_code 84 = .ok (.bipush 112, 2) := zo_16 (d := 112) (zd_b zq_prog_1_method_47_code_2 20 rfl rfl rfl) (zd_b zq_prog_1_method_47_code_2 21 rfl rfl rfl) (by decide +kernel)
theorem d_Ip_worst_86 : decode prog_1_method_47_code 86 = .ok (.goto 5, 3) := zo_167 (d := 0) (e := 5) (zd_b zq_prog_1_method_47_code_2 22 rfl rfl rfl) (zd_b zq_prog_1_method_47_code_2 23 rfl rfl rfl) (zd_b zq_prog_1_method_47_code_2 24 rfl rfl rfl) (by decide +kernel)
theorem d_Ip_worst_75 : decode prog_1_method_47_code 75 = .ok (.bipush 109, 2) := zo_16 (d := 109) (zd_b zq_prog_1_method_47_code_2 11 rfl rfl rfl) (zd_b zq_prog_1_method_47_code_2 12 rfl rfl rfl) (by decide +kernel)
theorem d_Ip_worst_77 : decode prog_1_method_47_code 77 = .ok (.ireturn, 1) := zo_172 (zd_b zq_prog_1_method_47_code_2 13 rfl rfl rfl)
theorem d_Ip_worst_66 : decode prog_1_method_47_code 66 = .ok (.bipush 115, 2) := zo_16 (d := 115) (zd_b zq_prog_1_method_47_code_2 2 rfl rfl rfl) (zd_b zq_prog_1_method_47_code_2 3 rfl rfl rfl) (by decide +kernel)
theorem d_Ip_worst_68 : decode prog_1_method_47_code 68 = .ok (.ireturn, 1) := zo_172 (zd_b zq_prog_1_method_47_code_2 4 rfl rfl rfl)
set_option maxHeartbeats 4000000 in
set_option maxRecDepth 100000 in
theorem Q_Ip_worst {g : zG} {ad : Nat → Nat} {t : zTT} {u : zNN} {w : zW} (hI : IV g ad t u w) : zMB g M_Ip_worst [.ref (ad 0)] w (fun o w1 => zri ["java/util/NoSuchElementException"] o ∧ IV g ad t u w1) 1 6 := by
  obtain ⟨e_a, wf_a, k_a⟩ := hI.1.2 0 (by decide)
  obtain rfl := kd_0.mp k_a
  refine y_of (by decide) rfl (Nat.le_of_ble_eq_true rfl) (y_base (cs := [((ad 0), .inr (11, [.ref (ad 1), .ref (ad 5), .ref (ad 18), .ref (ad 31), .ref (ad 32), .ref (ad 36), .ref (ad 42), .ref (ad 45), .ref (ad 47), .ref (ad 49), .ref (ad 50), .ref (ad 51)]))]) (hI.1.I [0] _ rfl (by decide) (by decide) (List.forall_mem_cons.mpr ⟨wf_a, (fun _ h => nomatch h)⟩)) ?_)
  refine y_lvE (lv2 := [(0, .ref (ad 0))]) rfl ?_
  refine y_aload_n d_Ip_worst_0 rfl 0 rfl ?_
  refine y_bipush d_Ip_worst_1 (v := 12) (by decide) ?_
  refine yw_callV (As := [.int 12]) (rest := []) (q0 := 0) rfl rfl ln_Ip_476 w_im_Ip_castingsWith w_se_Ip_castingsWith ok_Ip_worst_Ip_castingsWith d_Ip_worst_3 (fun wA hA => Q_castingsWith (hI.gen (t2 := t) (is := [0]) (L2 := []) hA rfl ⟨kd_0.mpr rfl, trivial⟩ (by decide) (by decide) (fun _ h => nomatch h) (fun _ h => nomatch h) (fun _ _ _ => rfl) (fun h => h) rfl) 12) rfl rfl (Nat.le_of_ble_eq_true rfl) (by omega) (by omega) (fun wA3 hA3 E wB3 hx => ?_) (fun wA3 hA3 v wB3 hx => ?_)
  · exact absurd hx.1 (by simp)
  · obtain ⟨⟨s1, e1⟩, e2⟩ := hx
    cases e1
    refine yw_st (st2 := [.int s1]) rfl ?_
    subst e2
    refine y_go hA3 ?_
    refine y_istore_n (lv' := [(1, .int s1), (0, .ref (ad 0))]) d_Ip_worst_6 rfl (by decide) rfl ?_
    refine y_aload_n d_Ip_worst_7 rfl 1 rfl ?_
    refine y_bipush d_Ip_worst_8 (v := 32) (by decide) ?_
    refine yw_callV (As := [.int 32]) (rest := []) (q0 := 0) rfl rfl ln_Ip_476 w_im_Ip_castingsWith w_se_Ip_castingsWith ok_Ip_worst_Ip_castingsWith d_Ip_worst_10 (fun wA hA => Q_castingsWith (hI.gen (t2 := t) (is := [0]) (L2 := []) hA rfl ⟨kd_0.mpr rfl, trivial⟩ (by decide) (by decide) (fun _ h => nomatch h) (fun _ h => nomatch h) (fun _ _ _ => rfl) (fun h => h) rfl) 32) rfl rfl (Nat.le_of_ble_eq_true rfl) (by omega) (by omega) (fun wA10 hA10 E wB10 hx => ?_) (fun wA10 hA10 v wB10 hx => ?_)
    · exact absurd hx.1 (by simp)
    · obtain ⟨⟨s2, e1⟩, e2⟩ := hx
      cases e1
      refine yw_st (st2 := [.int s2]) rfl ?_
      subst e2
      refine y_go hA10 ?_
      refine y_istore_n (lv' := [(2, .int s2), (1, .int s1), (0, .ref (ad 0))]) d_Ip_worst_13 rfl (by decide) rfl ?_
      refine y_aload_n d_Ip_worst_14 rfl 2 rfl ?_
      refine y_iconst d_Ip_worst_15 (v := 2) (by decide) ?_
      refine yw_callV (As := [.int 2]) (rest := []) (q0 := 0) rfl rfl ln_Ip_476 w_im_Ip_castingsWith w_se_Ip_castingsWith ok_Ip_worst_Ip_castingsWith d_Ip_worst_16 (fun wA hA => Q_castingsWith (hI.gen (t2 := t) (is := [0]) (L2 := []) hA rfl ⟨kd_0.mpr rfl, trivial⟩ (by decide) (by decide) (fun _ h => nomatch h) (fun _ h => nomatch h) (fun _ _ _ => rfl) (fun h => h) rfl) 2) rfl rfl (Nat.le_of_ble_eq_true rfl) (by omega) (by omega) (fun wA16 hA16 E wB16 hx => ?_) (fun wA16 hA16 v wB16 hx => ?_)
      · exact absurd hx.1 (by simp)
      · obtain ⟨⟨s3, e1⟩, e2⟩ := hx
        cases e1
        refine yw_st (st2 := [.int s3]) rfl ?_
        subst e2
        refine y_go hA16 ?_
        refine y_istore_n (lv' := [(3, .int s3), (2, .int s2), (1, .int s1), (0, .ref (ad 0))]) d_Ip_worst_19 rfl (by decide) rfl ?_
        refine y_aload_n d_Ip_worst_20 rfl 3 rfl ?_
        refine y_bipush d_Ip_worst_21 (v := 17) (by decide) ?_
        refine yw_callV (As := [.int 17]) (rest := []) (q0 := 0) rfl rfl ln_Ip_476 w_im_Ip_castingsWith w_se_Ip_castingsWith ok_Ip_worst_Ip_castingsWith d_Ip_worst_23 (fun wA hA => Q_castingsWith (hI.gen (t2 := t) (is := [0]) (L2 := []) hA rfl ⟨kd_0.mpr rfl, trivial⟩ (by decide) (by decide) (fun _ h => nomatch h) (fun _ h => nomatch h) (fun _ _ _ => rfl) (fun h => h) rfl) 17) rfl rfl (Nat.le_of_ble_eq_true rfl) (by omega) (by omega) (fun wA23 hA23 E wB23 hx => ?_) (fun wA23 hA23 v wB23 hx => ?_)
        · exact absurd hx.1 (by simp)
        · obtain ⟨⟨s4, e1⟩, e2⟩ := hx
          cases e1
          refine yw_st (st2 := [.int s4]) rfl ?_
          subst e2
          refine y_go hA23 ?_
          refine y_istore (lv' := [(4, .int s4), (3, .int s3), (2, .int s2), (1, .int s1), (0, .ref (ad 0))]) d_Ip_worst_26 (by decide) rfl ?_
          refine y_iload_n d_Ip_worst_28 rfl 3 rfl ?_
          refine y_iload_n d_Ip_worst_29 rfl 2 rfl ?_
          refine y_max (v := (if s1 < s2 then s2 else s1)) ln_Ip_479 w_mmax w_mi w_cmax d_Ip_worst_30 (by decide) (by decide) (Nat.le_of_ble_eq_true rfl) rfl ?_
          refine y_iload_n d_Ip_worst_33 rfl 1 rfl ?_
          refine y_iload d_Ip_worst_34 0 rfl ?_
          refine y_max (v := (if s3 < s4 then s4 else s3)) ln_Ip_479 w_mmax w_mi w_cmax d_Ip_worst_36 (by decide) (by decide) (Nat.le_of_ble_eq_true rfl) rfl ?_
          refine y_max (v := (if (if s1 < s2 then s2 else s1) < (if s3 < s4 then s4 else s3) then (if s3 < s4 then s4 else s3) else (if s1 < s2 then s2 else s1))) ln_Ip_479 w_mmax w_mi w_cmax d_Ip_worst_39 (by decide) (by decide) (Nat.le_of_ble_eq_true rfl) rfl ?_
          refine y_istore (lv' := [(5, .int (if (if s1 < s2 then s2 else s1) < (if s3 < s4 then s4 else s3) then (if s3 < s4 then s4 else s3) else (if s1 < s2 then s2 else s1))), (4, .int s4), (3, .int s3), (2, .int s2), (1, .int s1), (0, .ref (ad 0))]) d_Ip_worst_42 (by decide) rfl ?_
          refine y_iload d_Ip_worst_44 0 rfl ?_
          refine y_if_ne (tgt := 60) d_Ip_worst_46 (by decide) (fun c_46 => ?_) (fun c_46 => ?_)
          · refine y_iload_n d_Ip_worst_60 rfl 4 rfl ?_
            refine y_iload d_Ip_worst_61 0 rfl ?_
            refine y_icmp_ne (tgt := 69) d_Ip_worst_63 (by decide) (fun c_63 => ?_) (fun c_63 => ?_)
            · refine y_iload_n d_Ip_worst_69 rfl 3 rfl ?_
              refine y_iload d_Ip_worst_70 0 rfl ?_
              refine y_icmp_ne (tgt := 78) d_Ip_worst_72 (by decide) (fun c_72 => ?_) (fun c_72 => ?_)
              · refine y_iload_n d_Ip_worst_78 rfl 2 rfl ?_
                refine y_iload d_Ip_worst_79 0 rfl ?_
                refine y_icmp_ne (tgt := 89) d_Ip_worst_81 (by decide) (fun c_81 => ?_) (fun c_81 => ?_)
                · refine y_bipush d_Ip_worst_89 (v := 116) (by decide) ?_
                  refine y_iret d_Ip_worst_91 rfl rfl ?_
                  exact fun w1 h1 => ⟨Or.inl ⟨_, rfl⟩, (hI.gen (t2 := t) (is := [0]) (L2 := []) h1 rfl ⟨kd_0.mpr rfl, trivial⟩ (by decide) (by decide) (fun _ h => nomatch h) (fun _ h => nomatch h) (fun _ _ _ => rfl) (fun h => h) rfl)⟩
                · refine y_bipush d_Ip_worst_84 (v := 112) (by decide) ?_
                  refine y_goto (tgt := 91) d_Ip_worst_86 (by decide) ?_
                  refine y_iret d_Ip_worst_91 rfl rfl ?_
                  exact fun w1 h1 => ⟨Or.inl ⟨_, rfl⟩, (hI.gen (t2 := t) (is := [0]) (L2 := []) h1 rfl ⟨kd_0.mpr rfl, trivial⟩ (by decide) (by decide) (fun _ h => nomatch h) (fun _ h => nomatch h) (fun _ _ _ => rfl) (fun h => h) rfl)⟩
              · refine y_bipush d_Ip_worst_75 (v := 109) (by decide) ?_
                refine y_iret d_Ip_worst_77 rfl rfl ?_
                exact fun w1 h1 => ⟨Or.inl ⟨_, rfl⟩, (hI.gen (t2 := t) (is := [0]) (L2 := []) h1 rfl ⟨kd_0.mpr rfl, trivial⟩ (by decide) (by decide) (fun _ h => nomatch h) (fun _ h => nomatch h) (fun _ _ _ => rfl) (fun h => h) rfl)⟩
            · refine y_bipush d_Ip_worst_66 (v := 115) (by decide) ?_
              refine y_iret d_Ip_worst_68 rfl rfl ?_
              exact fun w1 h1 => ⟨Or.inl ⟨_, rfl⟩, (hI.gen (t2 := t) (is := [0]) (L2 := []) h1 rfl ⟨kd_0.mpr rfl, trivial⟩ (by decide) (by decide) (fun _ h => nomatch h) (fun _ h => nomatch h) (fun _ _ _ => rfl) (fun h => h) rfl)⟩
          · refine y_throwXW tb_Ip_150_154 sr_Ip_484 d_Ip_worst_49 d_Ip_worst_52 d_Ip_worst_53 d_Ip_worst_56 d_Ip_worst_59 rfl (by decide) (by decide) (Nat.le_of_ble_eq_true rfl) (by omega) (by omega) ?_
            exact fun w1 h1 => ⟨Or.inr ⟨_, List.Mem.head _, rfl⟩, (hI.gen (t2 := t) (is := [0]) (L2 := []) h1 rfl ⟨kd_0.mpr rfl, trivial⟩ (by decide) (by decide) (fun _ h => nomatch h) (fun _ h => nomatch h) (fun _ _ _ => rfl) (fun h => h) rfl)⟩
theorem d_Ip_delivered_15 : decode prog_1_method_48_code 15 = .ok (.aload_n 0, 1) := zo_42 (zd_b zq_prog_1_method_48_code_0 15 rfl rfl rfl)
theorem d_Ip_delivered_16 : decode prog_1_method_48_code 16 = .ok (.getfield 78, 3) := zo_180 (d := 0) (e := 78) (zd_b zq_prog_1_method_48_code_0 16 rfl rfl rfl) (zd_b zq_prog_1_method_48_code_0 17 rfl rfl rfl) (zd_b zq_prog_1_method_48_code_0 18 rfl rfl rfl)
theorem d_Ip_delivered_19 : decode prog_1_method_48_code 19 = .ok (.iload_n 3, 1) := zo_29 (zd_b zq_prog_1_method_48_code_0 19 rfl rfl rfl)
theorem d_Ip_delivered_20 : decode prog_1_method_48_code 20 = .ok (.invokevirtual 344, 3) := zo_182 (d := 1) (e := 88) (zd_b zq_prog_1_method_48_code_0 20 rfl rfl rfl) (zd_b zq_prog_1_method_48_code_0 21 rfl rfl rfl) (zd_b zq_prog_1_method_48_code_0 22 rfl rfl rfl)
theorem ok_Ip_delivered_AL_get : z_ok M_Ip_delivered M_AL_get 1 := ⟨z_mj2 (i := 180) rfl (by decide +kernel), rfl, ⟨by decide +kernel, by decide +kernel, by decide +kernel⟩, ⟨by decide, by decide⟩, z_mj1 (i := 13) rfl (by decide +kernel), rfl⟩
theorem d_Ip_delivered_23 : decode prog_1_method_48_code 23 = .ok (.checkcast 441, 3) := zo_192 (d := 1) (e := 185) (zd_b zq_prog_1_method_48_code_0 23 rfl rfl rfl) (zd_b zq_prog_1_method_48_code_0 24 rfl rfl rfl) (zd_b zq_prog_1_method_48_code_0 25 rfl rfl rfl)
theorem d_Ip_delivered_26 : decode prog_1_method_48_code 26 = .ok (.astore 4, 2) := zo_58 (d := 4) (zd_b zq_prog_1_method_48_code_0 26 rfl rfl rfl) (zd_b zq_prog_1_method_48_code_0 27 rfl rfl rfl)
theorem d_Ip_delivered_28 : decode prog_1_method_48_code 28 = .ok (.aload 4, 2) := zo_25 (d := 4) (zd_b zq_prog_1_method_48_code_0 28 rfl rfl rfl) (zd_b zq_prog_1_method_48_code_0 29 rfl rfl rfl)
theorem d_Ip_delivered_30 : decode prog_1_method_48_code 30 = .ok (.getfield 466, 3) := zo_180 (d := 1) (e := 210) (zd_b zq_prog_1_method_48_code_0 30 rfl rfl rfl) (zd_b zq_prog_1_method_48_code_0 31 rfl rfl rfl) (zd_b zq_prog_1_method_48_code_1 0 rfl rfl rfl)
theorem fs_Ip_466 : z_fs "Ironpour" 466 0 4 := ⟨R_Ca, "Ironpour$Casting", F_Ca, 6, rfl, u_Ca, by decide, Or.inr ⟨"Ironpour", z_mk6 (i := 146) rfl (by decide +kernel), rfl⟩⟩
theorem d_Ip_delivered_33 : decode prog_1_method_48_code 33 = .ok (.ifCond .eq 15, 3) := zo_153 (d := 0) (e := 15) (zd_b zq_prog_1_method_48_code_1 1 rfl rfl rfl) (zd_b zq_prog_1_method_48_code_1 2 rfl rfl rfl) (zd_b zq_prog_1_method_48_code_1 3 rfl rfl rfl) (by decide +kernel)
theorem d_Ip_delivered_48 : decode prog_1_method_48_code 48 = .ok (.iinc 3 1, 3) := by decide +kernel
theorem d_Ip_delivered_51 : decode prog_1_method_48_code 51 = .ok (.goto (-47), 3) := zo_167 (d := 255) (e := 209) (zd_b zq_prog_1_method_48_code_1 19 rfl rfl rfl) (zd_b zq_prog_1_method_48_code_1 20 rfl rfl rfl) (zd_b zq_prog_1_method_48_code_1 21 rfl rfl rfl) (by decide +kernel)
theorem d_Ip_delivered_36 : decode prog_1_method_48_code 36 = .ok (.lload_n 1, 1) := zo_31 (zd_b zq_prog_1_method_48_code_1 4 rfl rfl rfl)
theorem d_Ip_delivered_37 : decode prog_1_method_48_code 37 = .ok (.aload 4, 2) := zo_25 (d := 4) (zd_b zq_prog_1_method_48_code_1 5 rfl rfl rfl) (zd_b zq_prog_1_method_48_code_1 6 rfl rfl rfl)
theorem d_Ip_delivered_39 : decode prog_1_method_48_code 39 = .ok (.getfield 450, 3) := zo_180 (d := 1) (e := 194) (zd_b zq_prog_1_method_48_code_1 7 rfl rfl rfl) (zd_b zq_prog_1_method_48_code_1 8 rfl rfl rfl) (zd_b zq_prog_1_method_48_code_1 9 rfl rfl rfl)
theorem d_Ip_delivered_42 : decode prog_1_method_48_code 42 = .ok (.getfield 269, 3) := zo_180 (d := 1) (e := 13) (zd_b zq_prog_1_method_48_code_1 10 rfl rfl rfl) (zd_b zq_prog_1_method_48_code_1 11 rfl rfl rfl) (zd_b zq_prog_1_method_48_code_1 12 rfl rfl rfl)
theorem d_Ip_delivered_45 : decode prog_1_method_48_code 45 = .ok (.i2l, 1) := zo_133 (zd_b zq_prog_1_method_48_code_1 13 rfl rfl rfl)
theorem d_Ip_delivered_46 : decode prog_1_method_48_code 46 = .ok (.ladd, 1) := zo_97 (zd_b zq_prog_1_method_48_code_1 14 rfl rfl rfl)
theorem d_Ip_delivered_47 : decode prog_1_method_48_code 47 = .ok (.lstore_n 1, 1) := zo_64 (zd_b zq_prog_1_method_48_code_1 15 rfl rfl rfl)
set_option maxHeartbeats 4000000 in
set_option maxRecDepth 100000 in
theorem L_Q_delivered_4 (g : zG) {ad : Nat → Nat} {t : zTT} {u : zNN} {w : zW} (hI : IV g ad t u w) : ∀ (d i : Nat) (s9 : Int64), i ≤ u.1 1 → u.1 1 < i + d → DW g M_Ip_delivered (fun o w1 => (∃ v : Int64, o = .inl (some (.long v))) ∧ w1 = w) w 4 [(3, .int (nI i)), (1, .long s9), (0, .ref (ad 0))] [] 0 0 := by
  intro d
  induction d with
  | zero => intro i s9 h1 h2 ; exact absurd h2 (by omega)
  | succ d ih =>
    intro i s9 h1 h2 
    obtain ⟨e_a, wf_a, k_a⟩ := hI.1.2 0 (by decide)
    obtain rfl := kd_0.mp k_a
    have h33 := hI.n5 1 (by decide)
    have hJ := hI.1.I [0] [((ad 0), .inr (11, [.ref (ad 1), .ref (ad 5), .ref (ad 18), .ref (ad 31), .ref (ad 32), .ref (ad 36), .ref (ad 42), .ref (ad 45), .ref (ad 47), .ref (ad 49), .ref (ad 50), .ref (ad 51)]))] rfl (by decide) (by decide) (List.forall_mem_cons.mpr ⟨wf_a, (fun _ h => nomatch h)⟩)
    refine y_base hJ ?_
    refine y_iload_n d_Ip_delivered_4 rfl 0 rfl ?_
    refine y_aload_n d_Ip_delivered_5 rfl 2 rfl ?_
    refine y_get fs_Ip_78 d_Ip_delivered_6 (q0 := 0) rfl rfl ?_
    refine yw_callVL (As := []) (rest := [.int (nI i)]) (ci := 13) rfl (fun wA hA => ((hI.gen (t2 := t) (is := [0]) (L2 := []) hA rfl ⟨kd_0.mpr rfl, trivial⟩ (by decide) (by decide) (fun _ h => nomatch h) (fun _ h => nomatch h) (fun _ _ _ => rfl) (fun h => h) rfl).2.1.1 1 (by decide)).ob) ln_Ip_341 w_im_AL_size w_se_AL_size ok_Ip_delivered_AL_size d_Ip_delivered_9 (fun wA hA => Q_size ((hI.gen (t2 := t) (is := [0]) (L2 := []) hA rfl ⟨kd_0.mpr rfl, trivial⟩ (by decide) (by decide) (fun _ h => nomatch h) (fun _ h => nomatch h) (fun _ _ _ => rfl) (fun h => h) rfl).2.1.1 1 (by decide))) rfl rfl (Nat.le_of_ble_eq_true rfl) (by omega) (by omega) (fun wA9 hA9 E wB9 hx => ?_) (fun wA9 hA9 v wB9 hx => ?_)
    · exact absurd hx.1 (by simp)
    · obtain ⟨e1, e2⟩ := hx
      cases e1
      refine yw_st (st2 := [.int (nI (u.1 1)), .int (nI i)]) rfl ?_
      subst e2
      refine y_go hA9 ?_
      refine y_icmp_ge (tgt := 54) d_Ip_delivered_12 (by decide) (fun c_12 => ?_) (fun c_12 => ?_)
      · have hn := z_le (a := (u.1 1)) (b := i) (by omega) (by omega) c_12
        refine y_lload_n d_Ip_delivered_54 rfl 1 rfl ?_
        refine y_lret d_Ip_delivered_55 rfl ?_
        exact fun w1 h1 => ⟨⟨_, rfl⟩, z_I.same hJ h1⟩
      · have hn := z_nle (a := (u.1 1)) (b := i) (by omega) (by omega) c_12
        refine y_aload_n d_Ip_delivered_15 rfl 2 rfl ?_
        refine y_get fs_Ip_78 d_Ip_delivered_16 (q0 := 0) rfl rfl ?_
        refine y_iload_n d_Ip_delivered_19 rfl 0 rfl ?_
        refine yw_callVL (As := [.int (nI i)]) (rest := []) (ci := 13) rfl (fun wA hA => ((hI.gen (t2 := t) (is := [0]) (L2 := []) hA rfl ⟨kd_0.mpr rfl, trivial⟩ (by decide) (by decide) (fun _ h => nomatch h) (fun _ h => nomatch h) (fun _ _ _ => rfl) (fun h => h) rfl).2.1.1 1 (by decide)).ob) ln_Ip_344 w_im_AL_get w_se_AL_get ok_Ip_delivered_AL_get d_Ip_delivered_20 (fun wA hA => Q_get ((hI.gen (t2 := t) (is := [0]) (L2 := []) hA rfl ⟨kd_0.mpr rfl, trivial⟩ (by decide) (by decide) (fun _ h => nomatch h) (fun _ h => nomatch h) (fun _ _ _ => rfl) (fun h => h) rfl).2.1.1 1 (by decide)) hn) rfl rfl (Nat.le_of_ble_eq_true rfl) (by omega) (by omega) (fun wA20 hA20 E wB20 hx => ?_) (fun wA20 hA20 v wB20 hx => ?_)
        · exact absurd hx.1 (by simp)
        · obtain ⟨e1, e2⟩ := hx
          cases e1
          refine yw_st (st2 := [.ref (u.2.2 1 i)]) rfl ?_
          subst e2
          refine y_go hA20 ?_
          refine y_end (fun wC1 hC1 => ?_)
          obtain rfl := z_I.same hJ hC1
          obtain ⟨nf_c, me_c, gr_c, hw_c, nfm_c, hwm_c, nfg_c, hwg_c⟩ := hI.2.1.2.1 1 (by decide) i hn
          have hJ := z_I.kd (cs := [((ad 0), .inr (11, [.ref (ad 1), .ref (ad 5), .ref (ad 18), .ref (ad 31), .ref (ad 32), .ref (ad 36), .ref (ad 42), .ref (ad 45), .ref (ad 47), .ref (ad 49), .ref (ad 50), .ref (ad 51)])), ((u.2.2 1 i), .inr (0, [.ref me_c, .int ((t.2 1 i).1 0), .int ((t.2 1 i).1 1), .int ((t.2 1 i).1 2), .int ((t.2 1 i).1 3), .int ((t.2 1 i).1 4)])), (me_c, .inr (6, [.ref gr_c, .int ((t.2 1 i).1 5)])), (gr_c, .inl (3, 4, .inr (.inl ((t.2 1 i).2.2.1))))]) (List.forall_mem_cons.mpr ⟨wf_a, (List.forall_mem_cons.mpr ⟨hw_c, (List.forall_mem_cons.mpr ⟨hwm_c, (List.forall_mem_cons.mpr ⟨hwg_c, (fun _ h => nomatch h)⟩)⟩)⟩)⟩) (by simp [z_kd])
          refine y_base hJ ?_
          refine y_castO lk_Ip_441 d_Ip_delivered_23 (q0 := 1) rfl rfl ?_
          refine y_astore (lv' := [(4, .ref (u.2.2 1 i)), (3, .int (nI i)), (1, .long s9), (0, .ref (ad 0))]) d_Ip_delivered_26 (by decide) rfl ?_
          refine y_aload d_Ip_delivered_28 0 rfl ?_
          refine y_get fs_Ip_466 d_Ip_delivered_30 (q0 := 1) rfl rfl ?_
          refine y_if_eq (tgt := 48) d_Ip_delivered_33 (by decide) (fun c_33 => ?_) (fun c_33 => ?_)
          · refine y_iinc (lv' := [(3, .int (nI (i + 1))), (4, .ref (u.2.2 1 i)), (1, .long s9), (0, .ref (ad 0))]) (v := nI (i + 1)) d_Ip_delivered_48 (j := 1) rfl (nI_add _ _) (by decide) rfl ?_
            refine y_goto (tgt := 4) d_Ip_delivered_51 (by decide) ?_
            refine y_lv (lv' := [(3, .int (nI (i + 1))), (1, .long s9), (0, .ref (ad 0))]) [0, 2, 3] rfl ?_
            refine y_end (fun wC2 hC2 => ?_)
            obtain rfl := z_I.same hJ hC2
            exact ih (i + 1) _ (by omega) (by omega) 
          · refine y_lload_n d_Ip_delivered_36 rfl 2 rfl ?_
            refine y_aload d_Ip_delivered_37 0 rfl ?_
            refine y_get fs_Ip_450 d_Ip_delivered_39 (q0 := 1) rfl rfl ?_
            refine y_get fs_Ip_269 d_Ip_delivered_42 (q0 := 2) rfl rfl ?_
            refine y_i2l d_Ip_delivered_45 (v := ((t.2 1 i).1 5).toInt64) rfl ?_
            refine y_ladd d_Ip_delivered_46 (v := s9 + (((t.2 1 i).1 5).toInt64)) rfl ?_
            refine y_lstore_n (lv' := [(1, .long (s9 + (((t.2 1 i).1 5).toInt64))), (4, .ref (u.2.2 1 i)), (3, .int (nI i)), (0, .ref (ad 0))]) d_Ip_delivered_47 rfl (by decide) rfl ?_
            refine y_iinc (lv' := [(3, .int (nI (i + 1))), (1, .long (s9 + (((t.2 1 i).1 5).toInt64))), (4, .ref (u.2.2 1 i)), (0, .ref (ad 0))]) (v := nI (i + 1)) d_Ip_delivered_48 (j := 2) rfl (nI_add _ _) (by decide) rfl ?_
            refine y_goto (tgt := 4) d_Ip_delivered_51 (by decide) ?_
            refine y_lv (lv' := [(3, .int (nI (i + 1))), (1, .long (s9 + (((t.2 1 i).1 5).toInt64))), (0, .ref (ad 0))]) [0, 1, 3] rfl ?_
            refine y_end (fun wC3 hC3 => ?_)
            obtain rfl := z_I.same hJ hC3
            exact ih (i + 1) _ (by omega) (by omega) 
set_option maxHeartbeats 4000000 in
set_option maxRecDepth 100000 in
theorem Q_delivered {g : zG} {ad : Nat → Nat} {t : zTT} {u : zNN} {w : zW} (hI : IV g ad t u w) : zMB g M_Ip_delivered [.ref (ad 0)] w (fun o w1 => (∃ v : Int64, o = .inl (some (.long v))) ∧ w1 = w) 0 0 := by
  obtain ⟨e_a, wf_a, k_a⟩ := hI.1.2 0 (by decide)
  obtain rfl := kd_0.mp k_a
  have hJ := hI.1.I [0] [((ad 0), .inr (11, [.ref (ad 1), .ref (ad 5), .ref (ad 18), .ref (ad 31), .ref (ad 32), .ref (ad 36), .ref (ad 42), .ref (ad 45), .ref (ad 47), .ref (ad 49), .ref (ad 50), .ref (ad 51)]))] rfl (by decide) (by decide) (List.forall_mem_cons.mpr ⟨wf_a, (fun _ h => nomatch h)⟩)
  refine y_of (by decide) rfl (Nat.le_of_ble_eq_true rfl) (y_base (cs := [((ad 0), .inr (11, [.ref (ad 1), .ref (ad 5), .ref (ad 18), .ref (ad 31), .ref (ad 32), .ref (ad 36), .ref (ad 42), .ref (ad 45), .ref (ad 47), .ref (ad 49), .ref (ad 50), .ref (ad 51)]))]) hJ ?_)
  refine y_lvE (lv2 := [(0, .ref (ad 0))]) rfl ?_
  refine y_lconst d_Ip_delivered_0 (v := 0) (by decide) ?_
  refine y_lstore_n (lv' := [(1, .long 0), (0, .ref (ad 0))]) d_Ip_delivered_1 rfl (by decide) rfl ?_
  refine y_iconst d_Ip_delivered_2 (v := 0) (by decide) ?_
  refine y_istore_n (lv' := [(3, .int 0), (1, .long 0), (0, .ref (ad 0))]) d_Ip_delivered_3 rfl (by decide) rfl ?_
  refine y_end (fun wC4 hC4 => ?_)
  obtain rfl := z_I.same hJ hC4
  exact L_Q_delivered_4 g hI  (u.1 1 + 1) 0 0 (Nat.zero_le _) (by omega) 
theorem d_Ip_goodShare_59 : decode prog_1_method_49_code 59 = .ok (.aload_n 0, 1) := zo_42 (zd_b zq_prog_1_method_49_code_1 27 rfl rfl rfl)
theorem d_Ip_goodShare_60 : decode prog_1_method_49_code 60 = .ok (.invokevirtual 491, 3) := zo_182 (d := 1) (e := 235) (zd_b zq_prog_1_method_49_code_1 28 rfl rfl rfl) (zd_b zq_prog_1_method_49_code_1 29 rfl rfl rfl) (zd_b zq_prog_1_method_49_code_1 30 rfl rfl rfl)
theorem ok_Ip_goodShare_Ip_delivered : z_ok M_Ip_goodShare M_Ip_delivered 0 := ⟨z_mj2 (i := 176) rfl (by decide +kernel), rfl, ⟨by decide +kernel, by decide +kernel, by decide +kernel⟩, ⟨by decide, by decide⟩, z_mj1 (i := 1) rfl (by decide +kernel), rfl⟩
theorem ln_Ip_491 : Cond.methodLink "Ironpour" 491 M_Ip_delivered.1 ∈ z_gw := z_mj7 (i := 66) rfl (by decide +kernel)
theorem w_im_Ip_delivered : Cond.instanceMethod M_Ip_delivered.1 ∈ z_gw := z_mj2 (i := 174) rfl (by decide +kernel)
theorem w_se_Ip_delivered : Cond.selects M_Ip_delivered.1.cls M_Ip_delivered.1 M_Ip_delivered.1 ∈ z_gw := z_mj2 (i := 175) rfl (by decide +kernel)
theorem d_Ip_goodShare_63 : decode prog_1_method_49_code 63 = .ok (.l2f, 1) := zo_137 (zd_b zq_prog_1_method_49_code_1 31 rfl rfl rfl)
theorem d_Ip_goodShare_64 : decode prog_1_method_49_code 64 = .ok (.lload_n 1, 1) := zo_31 (zd_b zq_prog_1_method_49_code_2 0 rfl rfl rfl)
theorem d_Ip_goodShare_65 : decode prog_1_method_49_code 65 = .ok (.l2f, 1) := zo_137 (zd_b zq_prog_1_method_49_code_2 1 rfl rfl rfl)
theorem d_Ip_goodShare_66 : decode prog_1_method_49_code 66 = .ok (.fdiv, 1) := zo_110 (zd_b zq_prog_1_method_49_code_2 2 rfl rfl rfl)
theorem d_Ip_goodShare_67 : decode prog_1_method_49_code 67 = .ok (.freturn, 1) := zo_174 (zd_b zq_prog_1_method_49_code_2 3 rfl rfl rfl)
theorem d_Ip_goodShare_15 : decode prog_1_method_49_code 15 = .ok (.lload_n 1, 1) := zo_31 (zd_b zq_prog_1_method_49_code_0 15 rfl rfl rfl)
theorem d_Ip_goodShare_16 : decode prog_1_method_49_code 16 = .ok (.aload_n 0, 1) := zo_42 (zd_b zq_prog_1_method_49_code_0 16 rfl rfl rfl)
theorem d_Ip_goodShare_17 : decode prog_1_method_49_code 17 = .ok (.getfield 78, 3) := zo_180 (d := 0) (e := 78) (zd_b zq_prog_1_method_49_code_0 17 rfl rfl rfl) (zd_b zq_prog_1_method_49_code_0 18 rfl rfl rfl) (zd_b zq_prog_1_method_49_code_0 19 rfl rfl rfl)
theorem d_Ip_goodShare_20 : decode prog_1_method_49_code 20 = .ok (.iload_n 3, 1) := zo_29 (zd_b zq_prog_1_method_49_code_0 20 rfl rfl rfl)
theorem d_Ip_goodShare_21 : decode prog_1_method_49_code 21 = .ok (.invokevirtual 344, 3) := zo_182 (d := 1) (e := 88) (zd_b zq_prog_1_method_49_code_0 21 rfl rfl rfl) (zd_b zq_prog_1_method_49_code_0 22 rfl rfl rfl) (zd_b zq_prog_1_method_49_code_0 23 rfl rfl rfl)
theorem ok_Ip_goodShare_AL_get : z_ok M_Ip_goodShare M_AL_get 1 := ⟨z_mj2 (i := 180) rfl (by decide +kernel), rfl, ⟨by decide +kernel, by decide +kernel, by decide +kernel⟩, ⟨by decide, by decide⟩, z_mj1 (i := 13) rfl (by decide +kernel), rfl⟩
theorem d_Ip_goodShare_24 : decode prog_1_method_49_code 24 = .ok (.checkcast 441, 3) := zo_192 (d := 1) (e := 185) (zd_b zq_prog_1_method_49_code_0 24 rfl rfl rfl) (zd_b zq_prog_1_method_49_code_0 25 rfl rfl rfl) (zd_b zq_prog_1_method_49_code_0 26 rfl rfl rfl)
theorem d_Ip_goodShare_27 : decode prog_1_method_49_code 27 = .ok (.getfield 450, 3) := zo_180 (d := 1) (e := 194) (zd_b zq_prog_1_method_49_code_0 27 rfl rfl rfl) (zd_b zq_prog_1_method_49_code_0 28 rfl rfl rfl) (zd_b zq_prog_1_method_49_code_0 29 rfl rfl rfl)
theorem d_Ip_goodShare_30 : decode prog_1_method_49_code 30 = .ok (.getfield 269, 3) := zo_180 (d := 1) (e := 13) (zd_b zq_prog_1_method_49_code_0 30 rfl rfl rfl) (zd_b zq_prog_1_method_49_code_0 31 rfl rfl rfl) (zd_b zq_prog_1_method_49_code_1 0 rfl rfl rfl)
theorem d_Ip_goodShare_33 : decode prog_1_method_49_code 33 = .ok (.i2l, 1) := zo_133 (zd_b zq_prog_1_method_49_code_1 1 rfl rfl rfl)
theorem d_Ip_goodShare_34 : decode prog_1_method_49_code 34 = .ok (.ladd, 1) := zo_97 (zd_b zq_prog_1_method_49_code_1 2 rfl rfl rfl)
theorem d_Ip_goodShare_35 : decode prog_1_method_49_code 35 = .ok (.lstore_n 1, 1) := zo_64 (zd_b zq_prog_1_method_49_code_1 3 rfl rfl rfl)
theorem d_Ip_goodShare_36 : decode prog_1_method_49_code 36 = .ok (.iinc 3 1, 3) := by decide +kernel
theorem d_Ip_goodShare_39 : decode prog_1_method_49_code 39 = .ok (.goto (-35), 3) := zo_167 (d := 255) (e := 221) (zd_b zq_prog_1_method_49_code_1 7 rfl rfl rfl) (zd_b zq_prog_1_method_49_code_1 8 rfl rfl rfl) (zd_b zq_prog_1_method_49_code_1 9 rfl rfl rfl) (by decide +kernel)
set_option maxHeartbeats 4000000 in
set_option maxRecDepth 100000 in
theorem L_Q_Ip_goodShare_4 (g : zG) {ad : Nat → Nat} {t : zTT} {u : zNN} {w : zW} (hI : IV g ad t u w) : ∀ (d i : Nat) (s9 : Int64), i ≤ u.1 1 → u.1 1 < i + d → DW g M_Ip_goodShare (fun o w1 => ((∃ v : UInt32, o = .inl (some (.float v)) ∧ Jvm.FP.Core.fIsNaN v = false) ∨ o = .inr "java/lang/ArithmeticException") ∧ IV g ad t u w1) w 4 [(3, .int (nI i)), (1, .long s9), (0, .ref (ad 0))] [] 1 6 := by
  intro d
  induction d with
  | zero => intro i s9 h1 h2 ; exact absurd h2 (by omega)
  | succ d ih =>
    intro i s9 h1 h2 
    obtain ⟨e_a, wf_a, k_a⟩ := hI.1.2 0 (by decide)
    obtain rfl := kd_0.mp k_a
    have h33 := hI.n5 1 (by decide)
    have hJ := hI.1.I [0] [((ad 0), .inr (11, [.ref (ad 1), .ref (ad 5), .ref (ad 18), .ref (ad 31), .ref (ad 32), .ref (ad 36), .ref (ad 42), .ref (ad 45), .ref (ad 47), .ref (ad 49), .ref (ad 50), .ref (ad 51)]))] rfl (by decide) (by decide) (List.forall_mem_cons.mpr ⟨wf_a, (fun _ h => nomatch h)⟩)
    refine y_base hJ ?_
    refine y_iload_n d_Ip_goodShare_4 rfl 0 rfl ?_
    refine y_aload_n d_Ip_goodShare_5 rfl 2 rfl ?_
    refine y_get fs_Ip_78 d_Ip_goodShare_6 (q0 := 0) rfl rfl ?_
    refine yw_callVL (As := []) (rest := [.int (nI i)]) (ci := 13) rfl (fun wA hA => ((hI.gen (t2 := t) (is := [0]) (L2 := []) hA rfl ⟨kd_0.mpr rfl, trivial⟩ (by decide) (by decide) (fun _ h => nomatch h) (fun _ h => nomatch h) (fun _ _ _ => rfl) (fun h => h) rfl).2.1.1 1 (by decide)).ob) ln_Ip_341 w_im_AL_size w_se_AL_size ok_Ip_goodShare_AL_size d_Ip_goodShare_9 (fun wA hA => Q_size ((hI.gen (t2 := t) (is := [0]) (L2 := []) hA rfl ⟨kd_0.mpr rfl, trivial⟩ (by decide) (by decide) (fun _ h => nomatch h) (fun _ h => nomatch h) (fun _ _ _ => rfl) (fun h => h) rfl).2.1.1 1 (by decide))) rfl rfl (Nat.le_of_ble_eq_true rfl) (by omega) (by omega) (fun wA9 hA9 E wB9 hx => ?_) (fun wA9 hA9 v wB9 hx => ?_)
    · exact absurd hx.1 (by simp)
    · obtain ⟨e1, e2⟩ := hx
      cases e1
      refine yw_st (st2 := [.int (nI (u.1 1)), .int (nI i)]) rfl ?_
      subst e2
      refine y_go hA9 ?_
      refine y_icmp_ge (tgt := 42) d_Ip_goodShare_12 (by decide) (fun c_12 => ?_) (fun c_12 => ?_)
      · have hn := z_le (a := (u.1 1)) (b := i) (by omega) (by omega) c_12
        refine y_lload_n d_Ip_goodShare_42 rfl 1 rfl ?_
        refine y_lconst d_Ip_goodShare_43 (v := 0) (by decide) ?_
        refine y_lcmp d_Ip_goodShare_44 (v := lg_cmp s9 0) rfl ?_
        refine y_if_ne (tgt := 59) d_Ip_goodShare_45 (by decide) (fun c_45 => ?_) (fun c_45 => ?_)
        · refine y_aload_n d_Ip_goodShare_59 rfl 2 rfl ?_
          refine yw_callV (As := []) (rest := []) (q0 := 0) rfl rfl ln_Ip_491 w_im_Ip_delivered w_se_Ip_delivered ok_Ip_goodShare_Ip_delivered d_Ip_goodShare_60 (fun wA hA => Q_delivered (hI.gen (t2 := t) (is := [0]) (L2 := []) hA rfl ⟨kd_0.mpr rfl, trivial⟩ (by decide) (by decide) (fun _ h => nomatch h) (fun _ h => nomatch h) (fun _ _ _ => rfl) (fun h => h) rfl)) rfl rfl (Nat.le_of_ble_eq_true rfl) (by omega) (by omega) (fun wA60 hA60 E wB60 hx => ?_) (fun wA60 hA60 v wB60 hx => ?_)
          · exact absurd hx.1 (by simp)
          · obtain ⟨⟨d9, e1⟩, e2⟩ := hx
            cases e1
            refine yw_st (st2 := [.long d9]) rfl ?_
            subst e2
            refine y_go hA60 ?_
            refine y_l2f d_Ip_goodShare_63 ?_
            refine y_lload_n d_Ip_goodShare_64 rfl 1 rfl ?_
            refine y_l2f d_Ip_goodShare_65 ?_
            refine y_fdiv d_Ip_goodShare_66 (vf_n32_of (nan_fdiv (fun q => c_45 (by rw [q]; rfl)))) ?_
            refine y_fret d_Ip_goodShare_67 rfl ?_
            exact fun w1 h1 => ⟨Or.inl ⟨_, rfl, nan_fdiv (fun q => c_45 (by rw [q]; rfl))⟩, (hI.gen (t2 := t) (is := [0]) (L2 := []) h1 rfl ⟨kd_0.mpr rfl, trivial⟩ (by decide) (by decide) (fun _ h => nomatch h) (fun _ h => nomatch h) (fun _ _ _ => rfl) (fun h => h) rfl)⟩
        · refine y_throwW tb_Ip_486_490 sr_Ip_488 d_Ip_goodShare_48 d_Ip_goodShare_51 d_Ip_goodShare_52 d_Ip_goodShare_55 d_Ip_goodShare_58 rfl (by decide) (by decide) (Nat.le_of_ble_eq_true rfl) (by omega) (by omega) ?_
          exact fun w1 h1 => ⟨Or.inr rfl, (hI.gen (t2 := t) (is := [0]) (L2 := []) h1 rfl ⟨kd_0.mpr rfl, trivial⟩ (by decide) (by decide) (fun _ h => nomatch h) (fun _ h => nomatch h) (fun _ _ _ => rfl) (fun h => h) rfl)⟩
      · have hn := z_nle (a := (u.1 1)) (b := i) (by omega) (by omega) c_12
        refine y_lload_n d_Ip_goodShare_15 rfl 1 rfl ?_
        refine y_aload_n d_Ip_goodShare_16 rfl 2 rfl ?_
        refine y_get fs_Ip_78 d_Ip_goodShare_17 (q0 := 0) rfl rfl ?_
        refine y_iload_n d_Ip_goodShare_20 rfl 0 rfl ?_
        refine yw_callVL (As := [.int (nI i)]) (rest := [.long s9]) (ci := 13) rfl (fun wA hA => ((hI.gen (t2 := t) (is := [0]) (L2 := []) hA rfl ⟨kd_0.mpr rfl, trivial⟩ (by decide) (by decide) (fun _ h => nomatch h) (fun _ h => nomatch h) (fun _ _ _ => rfl) (fun h => h) rfl).2.1.1 1 (by decide)).ob) ln_Ip_344 w_im_AL_get w_se_AL_get ok_Ip_goodShare_AL_get d_Ip_goodShare_21 (fun wA hA => Q_get ((hI.gen (t2 := t) (is := [0]) (L2 := []) hA rfl ⟨kd_0.mpr rfl, trivial⟩ (by decide) (by decide) (fun _ h => nomatch h) (fun _ h => nomatch h) (fun _ _ _ => rfl) (fun h => h) rfl).2.1.1 1 (by decide)) hn) rfl rfl (Nat.le_of_ble_eq_true rfl) (by omega) (by omega) (fun wA21 hA21 E wB21 hx => ?_) (fun wA21 hA21 v wB21 hx => ?_)
        · exact absurd hx.1 (by simp)
        · obtain ⟨e1, e2⟩ := hx
          cases e1
          refine yw_st (st2 := [.ref (u.2.2 1 i), .long s9]) rfl ?_
          subst e2
          refine y_go hA21 ?_
          refine y_end (fun wC1 hC1 => ?_)
          obtain rfl := z_I.same hJ hC1
          obtain ⟨nf_c, me_c, gr_c, hw_c, nfm_c, hwm_c, nfg_c, hwg_c⟩ := hI.2.1.2.1 1 (by decide) i hn
          have hJ := z_I.kd (cs := [((ad 0), .inr (11, [.ref (ad 1), .ref (ad 5), .ref (ad 18), .ref (ad 31), .ref (ad 32), .ref (ad 36), .ref (ad 42), .ref (ad 45), .ref (ad 47), .ref (ad 49), .ref (ad 50), .ref (ad 51)])), ((u.2.2 1 i), .inr (0, [.ref me_c, .int ((t.2 1 i).1 0), .int ((t.2 1 i).1 1), .int ((t.2 1 i).1 2), .int ((t.2 1 i).1 3), .int ((t.2 1 i).1 4)])), (me_c, .inr (6, [.ref gr_c, .int ((t.2 1 i).1 5)])), (gr_c, .inl (3, 4, .inr (.inl ((t.2 1 i).2.2.1))))]) (List.forall_mem_cons.mpr ⟨wf_a, (List.forall_mem_cons.mpr ⟨hw_c, (List.forall_mem_cons.mpr ⟨hwm_c, (List.forall_mem_cons.mpr ⟨hwg_c, (fun _ h => nomatch h)⟩)⟩)⟩)⟩) (by simp [z_kd])
          refine y_base hJ ?_
          refine y_castO lk_Ip_441 d_Ip_goodShare_24 (q0 := 1) rfl rfl ?_
          refine y_get fs_Ip_450 d_Ip_goodShare_27 (q0 := 1) rfl rfl ?_
          refine y_get fs_Ip_269 d_Ip_goodShare_30 (q0 := 2) rfl rfl ?_
          refine y_i2l d_Ip_goodShare_33 (v := ((t.2 1 i).1 5).toInt64) rfl ?_
          refine y_ladd d_Ip_goodShare_34 (v := s9 + (((t.2 1 i).1 5).toInt64)) rfl ?_
          refine y_lstore_n (lv' := [(1, .long (s9 + (((t.2 1 i).1 5).toInt64))), (3, .int (nI i)), (0, .ref (ad 0))]) d_Ip_goodShare_35 rfl (by decide) rfl ?_
          refine y_iinc (lv' := [(3, .int (nI (i + 1))), (1, .long (s9 + (((t.2 1 i).1 5).toInt64))), (0, .ref (ad 0))]) (v := nI (i + 1)) d_Ip_goodShare_36 (j := 1) rfl (nI_add _ _) (by decide) rfl ?_
          refine y_goto (tgt := 4) d_Ip_goodShare_39 (by decide) ?_
          refine y_end (fun wC2 hC2 => ?_)
          obtain rfl := z_I.same hJ hC2
          exact ih (i + 1) _ (by omega) (by omega) 
set_option maxHeartbeats 4000000 in
set_option maxRecDepth 100000 in
theorem Q_Ip_goodShare {g : zG} {ad : Nat → Nat} {t : zTT} {u : zNN} {w : zW} (hI : IV g ad t u w) : zMB g M_Ip_goodShare [.ref (ad 0)] w (fun o w1 => ((∃ v : UInt32, o = .inl (some (.float v)) ∧ Jvm.FP.Core.fIsNaN v = false) ∨ o = .inr "java/lang/ArithmeticException") ∧ IV g ad t u w1) 1 6 := by
  obtain ⟨e_a, wf_a, k_a⟩ := hI.1.2 0 (by decide)
  obtain rfl := kd_0.mp k_a
  have hJ := hI.1.I [0] [((ad 0), .inr (11, [.ref (ad 1), .ref (ad 5), .ref (ad 18), .ref (ad 31), .ref (ad 32), .ref (ad 36), .ref (ad 42), .ref (ad 45), .ref (ad 47), .ref (ad 49), .ref (ad 50), .ref (ad 51)]))] rfl (by decide) (by decide) (List.forall_mem_cons.mpr ⟨wf_a, (fun _ h => nomatch h)⟩)
  refine y_of (by decide) rfl (Nat.le_of_ble_eq_true rfl) (y_base (cs := [((ad 0), .inr (11, [.ref (ad 1), .ref (ad 5), .ref (ad 18), .ref (ad 31), .ref (ad 32), .ref (ad 36), .ref (ad 42), .ref (ad 45), .ref (ad 47), .ref (ad 49), .ref (ad 50), .ref (ad 51)]))]) hJ ?_)
  refine y_lvE (lv2 := [(0, .ref (ad 0))]) rfl ?_
  refine y_lconst d_Ip_goodShare_0 (v := 0) (by decide) ?_
  refine y_lstore_n (lv' := [(1, .long 0), (0, .ref (ad 0))]) d_Ip_goodShare_1 rfl (by decide) rfl ?_
  refine y_iconst d_Ip_goodShare_2 (v := 0) (by decide) ?_
  refine y_istore_n (lv' := [(3, .int 0), (1, .long 0), (0, .ref (ad 0))]) d_Ip_goodShare_3 rfl (by decide) rfl ?_
  refine y_end (fun wC3 hC3 => ?_)
  obtain rfl := z_I.same hJ hC3
  exact L_Q_Ip_goodShare_4 g hI  (u.1 1 + 1) 0 0 (Nat.zero_le _) (by omega) 
theorem d_Ip_meanBar_28 : decode prog_1_method_50_code 28 = .ok (.iload 4, 2) := zo_21 (d := 4) (zd_b zq_prog_1_method_50_code_0 28 rfl rfl rfl) (zd_b zq_prog_1_method_50_code_0 29 rfl rfl rfl)
theorem d_Ip_meanBar_30 : decode prog_1_method_50_code 30 = .ok (.iload_n 1, 1) := zo_27 (zd_b zq_prog_1_method_50_code_0 30 rfl rfl rfl)
theorem d_Ip_meanBar_31 : decode prog_1_method_50_code 31 = .ok (.if_icmp .ge 28, 3) := zo_162 (d := 0) (e := 28) (zd_b zq_prog_1_method_50_code_0 31 rfl rfl rfl) (zd_b zq_prog_1_method_50_code_1 0 rfl rfl rfl) (zd_b zq_prog_1_method_50_code_1 1 rfl rfl rfl) (by decide +kernel)
theorem d_Ip_meanBar_59 : decode prog_1_method_50_code 59 = .ok (.lload_n 2, 1) := zo_32 (zd_b zq_prog_1_method_50_code_1 27 rfl rfl rfl)
theorem d_Ip_meanBar_60 : decode prog_1_method_50_code 60 = .ok (.l2d, 1) := zo_138 (zd_b zq_prog_1_method_50_code_1 28 rfl rfl rfl)
theorem d_Ip_meanBar_61 : decode prog_1_method_50_code 61 = .ok (.iload_n 1, 1) := zo_27 (zd_b zq_prog_1_method_50_code_1 29 rfl rfl rfl)
theorem d_Ip_meanBar_62 : decode prog_1_method_50_code 62 = .ok (.i2d, 1) := zo_135 (zd_b zq_prog_1_method_50_code_1 30 rfl rfl rfl)
theorem d_Ip_meanBar_63 : decode prog_1_method_50_code 63 = .ok (.ddiv, 1) := zo_111 (zd_b zq_prog_1_method_50_code_1 31 rfl rfl rfl)
theorem d_Ip_meanBar_64 : decode prog_1_method_50_code 64 = .ok (.dreturn, 1) := zo_175 (zd_b zq_prog_1_method_50_code_2 0 rfl rfl rfl)
theorem d_Ip_meanBar_34 : decode prog_1_method_50_code 34 = .ok (.lload_n 2, 1) := zo_32 (zd_b zq_prog_1_method_50_code_1 2 rfl rfl rfl)
theorem d_Ip_meanBar_35 : decode prog_1_method_50_code 35 = .ok (.aload_n 0, 1) := zo_42 (zd_b zq_prog_1_method_50_code_1 3 rfl rfl rfl)
theorem d_Ip_meanBar_36 : decode prog_1_method_50_code 36 = .ok (.getfield 78, 3) := zo_180 (d := 0) (e := 78) (zd_b zq_prog_1_method_50_code_1 4 rfl rfl rfl) (zd_b zq_prog_1_method_50_code_1 5 rfl rfl rfl) (zd_b zq_prog_1_method_50_code_1 6 rfl rfl rfl)
theorem d_Ip_meanBar_39 : decode prog_1_method_50_code 39 = .ok (.iload 4, 2) := zo_21 (d := 4) (zd_b zq_prog_1_method_50_code_1 7 rfl rfl rfl) (zd_b zq_prog_1_method_50_code_1 8 rfl rfl rfl)
theorem d_Ip_meanBar_41 : decode prog_1_method_50_code 41 = .ok (.invokevirtual 344, 3) := zo_182 (d := 1) (e := 88) (zd_b zq_prog_1_method_50_code_1 9 rfl rfl rfl) (zd_b zq_prog_1_method_50_code_1 10 rfl rfl rfl) (zd_b zq_prog_1_method_50_code_1 11 rfl rfl rfl)
theorem ok_Ip_meanBar_AL_get : z_ok M_Ip_meanBar M_AL_get 1 := ⟨z_mj2 (i := 180) rfl (by decide +kernel), rfl, ⟨by decide +kernel, by decide +kernel, by decide +kernel⟩, ⟨by decide, by decide⟩, z_mj1 (i := 13) rfl (by decide +kernel), rfl⟩
theorem d_Ip_meanBar_44 : decode prog_1_method_50_code 44 = .ok (.checkcast 441, 3) := zo_192 (d := 1) (e := 185) (zd_b zq_prog_1_method_50_code_1 12 rfl rfl rfl) (zd_b zq_prog_1_method_50_code_1 13 rfl rfl rfl) (zd_b zq_prog_1_method_50_code_1 14 rfl rfl rfl)
theorem d_Ip_meanBar_47 : decode prog_1_method_50_code 47 = .ok (.invokevirtual 453, 3) := zo_182 (d := 1) (e := 197) (zd_b zq_prog_1_method_50_code_1 15 rfl rfl rfl) (zd_b zq_prog_1_method_50_code_1 16 rfl rfl rfl) (zd_b zq_prog_1_method_50_code_1 17 rfl rfl rfl)
theorem ok_Ip_meanBar_Ca_barBears : z_ok M_Ip_meanBar M_Ca_barBears 0 := ⟨z_mj6 (i := 227) rfl (by decide +kernel), rfl, ⟨by decide +kernel, by decide +kernel, by decide +kernel⟩, ⟨by decide, by decide⟩, z_mj1 (i := 35) rfl (by decide +kernel), rfl⟩
theorem d_Ip_meanBar_50 : decode prog_1_method_50_code 50 = .ok (.i2l, 1) := zo_133 (zd_b zq_prog_1_method_50_code_1 18 rfl rfl rfl)
theorem d_Ip_meanBar_51 : decode prog_1_method_50_code 51 = .ok (.ladd, 1) := zo_97 (zd_b zq_prog_1_method_50_code_1 19 rfl rfl rfl)
theorem d_Ip_meanBar_52 : decode prog_1_method_50_code 52 = .ok (.lstore_n 2, 1) := zo_65 (zd_b zq_prog_1_method_50_code_1 20 rfl rfl rfl)
theorem d_Ip_meanBar_53 : decode prog_1_method_50_code 53 = .ok (.iinc 4 1, 3) := by decide +kernel
theorem d_Ip_meanBar_56 : decode prog_1_method_50_code 56 = .ok (.goto (-28), 3) := zo_167 (d := 255) (e := 228) (zd_b zq_prog_1_method_50_code_1 24 rfl rfl rfl) (zd_b zq_prog_1_method_50_code_1 25 rfl rfl rfl) (zd_b zq_prog_1_method_50_code_1 26 rfl rfl rfl) (by decide +kernel)
theorem d_Ip_meanBar_23 : decode prog_1_method_50_code 23 = .ok (.lconst 0, 1) := zo_9 (zd_b zq_prog_1_method_50_code_0 23 rfl rfl rfl)
theorem d_Ip_meanBar_24 : decode prog_1_method_50_code 24 = .ok (.lstore_n 2, 1) := zo_65 (zd_b zq_prog_1_method_50_code_0 24 rfl rfl rfl)
theorem d_Ip_meanBar_25 : decode prog_1_method_50_code 25 = .ok (.iconst 0, 1) := zo_3 (zd_b zq_prog_1_method_50_code_0 25 rfl rfl rfl)
theorem d_Ip_meanBar_26 : decode prog_1_method_50_code 26 = .ok (.istore 4, 2) := zo_54 (d := 4) (zd_b zq_prog_1_method_50_code_0 26 rfl rfl rfl) (zd_b zq_prog_1_method_50_code_0 27 rfl rfl rfl)
set_option maxHeartbeats 4000000 in
set_option maxRecDepth 100000 in
theorem L_Q_Ip_meanBar_28 (g : zG) {ad : Nat → Nat} {t : zTT} {u : zNN} {w : zW} (hI : IV g ad t u w) : ∀ (d i : Nat) (s9 : Int64) (h0 : ¬ nI (u.1 1) = 0), i ≤ u.1 1 → u.1 1 < i + d → DW g M_Ip_meanBar (fun o w1 => ((∃ v : UInt64, o = .inl (some (.double v))) ∨ o = .inr "java/lang/ArithmeticException") ∧ IV g ad t u w1) w 28 [(4, .int (nI i)), (2, .long s9), (0, .ref (ad 0)), (1, .int (nI (u.1 1)))] [] 1 6 := by
  intro d
  induction d with
  | zero => intro i s9 h0 h1 h2 ; exact absurd h2 (by omega)
  | succ d ih =>
    intro i s9 h0 h1 h2 
    obtain ⟨e_a, wf_a, k_a⟩ := hI.1.2 0 (by decide)
    obtain rfl := kd_0.mp k_a
    have h33 := hI.n5 1 (by decide)
    have hJ := hI.1.I [0] [((ad 0), .inr (11, [.ref (ad 1), .ref (ad 5), .ref (ad 18), .ref (ad 31), .ref (ad 32), .ref (ad 36), .ref (ad 42), .ref (ad 45), .ref (ad 47), .ref (ad 49), .ref (ad 50), .ref (ad 51)]))] rfl (by decide) (by decide) (List.forall_mem_cons.mpr ⟨wf_a, (fun _ h => nomatch h)⟩)
    refine y_base hJ ?_
    refine y_iload d_Ip_meanBar_28 0 rfl ?_
    refine y_iload_n d_Ip_meanBar_30 rfl 3 rfl ?_
    refine y_icmp_ge (tgt := 59) d_Ip_meanBar_31 (by decide) (fun c_31 => ?_) (fun c_31 => ?_)
    · have hn := z_le (a := (u.1 1)) (b := i) (by omega) (by omega) c_31
      refine y_lload_n d_Ip_meanBar_59 rfl 1 rfl ?_
      refine y_l2d d_Ip_meanBar_60 ?_
      refine y_iload_n d_Ip_meanBar_61 rfl 3 rfl ?_
      refine y_i2d d_Ip_meanBar_62 ?_
      refine y_ddiv d_Ip_meanBar_63 (vf_n64_of (nan_ddL h0)) ?_
      refine y_dret d_Ip_meanBar_64 rfl ?_
      exact fun w1 h1 => ⟨Or.inl ⟨_, rfl⟩, (hI.gen (t2 := t) (is := [0]) (L2 := []) h1 rfl ⟨kd_0.mpr rfl, trivial⟩ (by decide) (by decide) (fun _ h => nomatch h) (fun _ h => nomatch h) (fun _ _ _ => rfl) (fun h => h) rfl)⟩
    · have hn := z_nle (a := (u.1 1)) (b := i) (by omega) (by omega) c_31
      refine y_lload_n d_Ip_meanBar_34 rfl 1 rfl ?_
      refine y_aload_n d_Ip_meanBar_35 rfl 2 rfl ?_
      refine y_get fs_Ip_78 d_Ip_meanBar_36 (q0 := 0) rfl rfl ?_
      refine y_iload d_Ip_meanBar_39 0 rfl ?_
      refine yw_callVL (As := [.int (nI i)]) (rest := [.long s9]) (ci := 13) rfl (fun wA hA => ((hI.gen (t2 := t) (is := [0]) (L2 := []) hA rfl ⟨kd_0.mpr rfl, trivial⟩ (by decide) (by decide) (fun _ h => nomatch h) (fun _ h => nomatch h) (fun _ _ _ => rfl) (fun h => h) rfl).2.1.1 1 (by decide)).ob) ln_Ip_344 w_im_AL_get w_se_AL_get ok_Ip_meanBar_AL_get d_Ip_meanBar_41 (fun wA hA => Q_get ((hI.gen (t2 := t) (is := [0]) (L2 := []) hA rfl ⟨kd_0.mpr rfl, trivial⟩ (by decide) (by decide) (fun _ h => nomatch h) (fun _ h => nomatch h) (fun _ _ _ => rfl) (fun h => h) rfl).2.1.1 1 (by decide)) hn) rfl rfl (Nat.le_of_ble_eq_true rfl) (by omega) (by omega) (fun wA41 hA41 E wB41 hx => ?_) (fun wA41 hA41 v wB41 hx => ?_)
      · exact absurd hx.1 (by simp)
      · obtain ⟨e1, e2⟩ := hx
        cases e1
        refine yw_st (st2 := [.ref (u.2.2 1 i), .long s9]) rfl ?_
        subst e2
        refine y_go hA41 ?_
        refine y_end (fun wC1 hC1 => ?_)
        obtain rfl := z_I.same hJ hC1
        obtain ⟨nf_c, me_c, gr_c, hw_c, nfm_c, hwm_c, nfg_c, hwg_c⟩ := hI.2.1.2.1 1 (by decide) i hn
        have hJ := z_I.kd (cs := [((ad 0), .inr (11, [.ref (ad 1), .ref (ad 5), .ref (ad 18), .ref (ad 31), .ref (ad 32), .ref (ad 36), .ref (ad 42), .ref (ad 45), .ref (ad 47), .ref (ad 49), .ref (ad 50), .ref (ad 51)])), ((u.2.2 1 i), .inr (0, [.ref me_c, .int ((t.2 1 i).1 0), .int ((t.2 1 i).1 1), .int ((t.2 1 i).1 2), .int ((t.2 1 i).1 3), .int ((t.2 1 i).1 4)])), (me_c, .inr (6, [.ref gr_c, .int ((t.2 1 i).1 5)])), (gr_c, .inl (3, 4, .inr (.inl ((t.2 1 i).2.2.1))))]) (List.forall_mem_cons.mpr ⟨wf_a, (List.forall_mem_cons.mpr ⟨hw_c, (List.forall_mem_cons.mpr ⟨hwm_c, (List.forall_mem_cons.mpr ⟨hwg_c, (fun _ h => nomatch h)⟩)⟩)⟩)⟩) (by simp [z_kd])
        refine y_base hJ ?_
        refine y_castO lk_Ip_441 d_Ip_meanBar_44 (q0 := 1) rfl rfl ?_
        refine y_callV (As := []) (rest := [.long s9]) (csC := [((u.2.2 1 i), .inr (0, [.ref me_c, .int ((t.2 1 i).1 0), .int ((t.2 1 i).1 1), .int ((t.2 1 i).1 2), .int ((t.2 1 i).1 3), .int ((t.2 1 i).1 4)])), (me_c, .inr (6, [.ref gr_c, .int ((t.2 1 i).1 5)])), (gr_c, .inl (3, 4, .inr (.inl ((t.2 1 i).2.2.1))))]) (is := [1, 2, 3]) (q0 := 1) rfl rfl ln_Ip_453 w_im_Ca_barBears w_se_Ca_barBears ok_Ip_meanBar_Ca_barBears d_Ip_meanBar_47 (C_Ca_barBears g (u.2.2 1 i) me_c gr_c ((t.2 1 i).2.2.1) ((t.2 1 i).1 5) ((t.2 1 i).1 0) ((t.2 1 i).1 1) ((t.2 1 i).1 2) ((t.2 1 i).1 3) ((t.2 1 i).1 4)) rfl rfl (Nat.le_of_ble_eq_true rfl) rfl (by decide) (by omega) (by omega) (fun E cs1 hx => ?_) (fun v cs1 hx => ?_)
        · exact absurd hx.1 (by simp)
        · obtain ⟨e1, rfl⟩ := hx
          cases e1
          refine ⟨rfl, ?_⟩
          refine y_st (st2 := [.int (bbI ((t.2 1 i).1 0) ((t.2 1 i).2.2.1) ((t.2 1 i).1 5) ((t.2 1 i).1 2)), .long s9]) rfl ?_
          refine y_cs (cs2 := [((ad 0), .inr (11, [.ref (ad 1), .ref (ad 5), .ref (ad 18), .ref (ad 31), .ref (ad 32), .ref (ad 36), .ref (ad 42), .ref (ad 45), .ref (ad 47), .ref (ad 49), .ref (ad 50), .ref (ad 51)])), ((u.2.2 1 i), .inr (0, [.ref me_c, .int ((t.2 1 i).1 0), .int ((t.2 1 i).1 1), .int ((t.2 1 i).1 2), .int ((t.2 1 i).1 3), .int ((t.2 1 i).1 4)])), (me_c, .inr (6, [.ref gr_c, .int ((t.2 1 i).1 5)])), (gr_c, .inl (3, 4, .inr (.inl ((t.2 1 i).2.2.1))))]) rfl ?_
          refine y_i2l d_Ip_meanBar_50 (v := (bbI ((t.2 1 i).1 0) ((t.2 1 i).2.2.1) ((t.2 1 i).1 5) ((t.2 1 i).1 2)).toInt64) rfl ?_
          refine y_ladd d_Ip_meanBar_51 (v := s9 + ((bbI ((t.2 1 i).1 0) ((t.2 1 i).2.2.1) ((t.2 1 i).1 5) ((t.2 1 i).1 2)).toInt64)) rfl ?_
          refine y_lstore_n (lv' := [(2, .long (s9 + ((bbI ((t.2 1 i).1 0) ((t.2 1 i).2.2.1) ((t.2 1 i).1 5) ((t.2 1 i).1 2)).toInt64))), (4, .int (nI i)), (0, .ref (ad 0)), (1, .int (nI (u.1 1)))]) d_Ip_meanBar_52 rfl (by decide) rfl ?_
          refine y_iinc (lv' := [(4, .int (nI (i + 1))), (2, .long (s9 + ((bbI ((t.2 1 i).1 0) ((t.2 1 i).2.2.1) ((t.2 1 i).1 5) ((t.2 1 i).1 2)).toInt64))), (0, .ref (ad 0)), (1, .int (nI (u.1 1)))]) (v := nI (i + 1)) d_Ip_meanBar_53 (j := 1) rfl (nI_add _ _) (by decide) rfl ?_
          refine y_goto (tgt := 28) d_Ip_meanBar_56 (by decide) ?_
          refine y_end (fun wC2 hC2 => ?_)
          obtain rfl := z_I.same hJ hC2
          exact ih (i + 1) _ h0 (by omega) (by omega) 
set_option maxHeartbeats 4000000 in
set_option maxRecDepth 100000 in
theorem Q_Ip_meanBar {g : zG} {ad : Nat → Nat} {t : zTT} {u : zNN} {w : zW} (hI : IV g ad t u w) : zMB g M_Ip_meanBar [.ref (ad 0)] w (fun o w1 => ((∃ v : UInt64, o = .inl (some (.double v))) ∨ o = .inr "java/lang/ArithmeticException") ∧ IV g ad t u w1) 1 6 := by
  obtain ⟨e_a, wf_a, k_a⟩ := hI.1.2 0 (by decide)
  obtain rfl := kd_0.mp k_a
  have hJ := hI.1.I [0] [((ad 0), .inr (11, [.ref (ad 1), .ref (ad 5), .ref (ad 18), .ref (ad 31), .ref (ad 32), .ref (ad 36), .ref (ad 42), .ref (ad 45), .ref (ad 47), .ref (ad 49), .ref (ad 50), .ref (ad 51)]))] rfl (by decide) (by decide) (List.forall_mem_cons.mpr ⟨wf_a, (fun _ h => nomatch h)⟩)
  refine y_of (by decide) rfl (Nat.le_of_ble_eq_true rfl) (y_base (cs := [((ad 0), .inr (11, [.ref (ad 1), .ref (ad 5), .ref (ad 18), .ref (ad 31), .ref (ad 32), .ref (ad 36), .ref (ad 42), .ref (ad 45), .ref (ad 47), .ref (ad 49), .ref (ad 50), .ref (ad 51)]))]) hJ ?_)
  refine y_lvE (lv2 := [(0, .ref (ad 0))]) rfl ?_
  refine y_aload_n d_Ip_meanBar_0 rfl 0 rfl ?_
  refine y_get fs_Ip_78 d_Ip_meanBar_1 (q0 := 0) rfl rfl ?_
  refine yw_callVL (As := []) (rest := []) (ci := 13) rfl (fun wA hA => ((hI.gen (t2 := t) (is := [0]) (L2 := []) hA rfl ⟨kd_0.mpr rfl, trivial⟩ (by decide) (by decide) (fun _ h => nomatch h) (fun _ h => nomatch h) (fun _ _ _ => rfl) (fun h => h) rfl).2.1.1 1 (by decide)).ob) ln_Ip_341 w_im_AL_size w_se_AL_size ok_Ip_meanBar_AL_size d_Ip_meanBar_4 (fun wA hA => Q_size ((hI.gen (t2 := t) (is := [0]) (L2 := []) hA rfl ⟨kd_0.mpr rfl, trivial⟩ (by decide) (by decide) (fun _ h => nomatch h) (fun _ h => nomatch h) (fun _ _ _ => rfl) (fun h => h) rfl).2.1.1 1 (by decide))) rfl rfl (Nat.le_of_ble_eq_true rfl) (by omega) (by omega) (fun wA4 hA4 E wB4 hx => ?_) (fun wA4 hA4 v wB4 hx => ?_)
  · exact absurd hx.1 (by simp)
  · obtain ⟨e1, e2⟩ := hx
    cases e1
    refine yw_st (st2 := [.int (nI (u.1 1))]) rfl ?_
    subst e2
    refine y_go hA4 ?_
    refine y_istore_n (lv' := [(1, .int (nI (u.1 1))), (0, .ref (ad 0))]) d_Ip_meanBar_7 rfl (by decide) rfl ?_
    refine y_iload_n d_Ip_meanBar_8 rfl 0 rfl ?_
    refine y_if_ne (tgt := 23) d_Ip_meanBar_9 (by decide) (fun c_9 => ?_) (fun c_9 => ?_)
    · refine y_lconst d_Ip_meanBar_23 (v := 0) (by decide) ?_
      refine y_lstore_n (lv' := [(2, .long 0), (1, .int (nI (u.1 1))), (0, .ref (ad 0))]) d_Ip_meanBar_24 rfl (by decide) rfl ?_
      refine y_iconst d_Ip_meanBar_25 (v := 0) (by decide) ?_
      refine y_istore (lv' := [(4, .int 0), (2, .long 0), (1, .int (nI (u.1 1))), (0, .ref (ad 0))]) d_Ip_meanBar_26 (by decide) rfl ?_
      refine y_lv (lv' := [(4, .int 0), (2, .long 0), (0, .ref (ad 0)), (1, .int (nI (u.1 1)))]) [0, 1, 3, 2] rfl ?_
      refine y_end (fun wC3 hC3 => ?_)
      obtain rfl := z_I.same hJ hC3
      exact L_Q_Ip_meanBar_28 g hI  (u.1 1 + 1) 0 0 c_9 (Nat.zero_le _) (by omega) 
    · refine y_throwW tb_Ip_486_490 sr_Ip_495 d_Ip_meanBar_12 d_Ip_meanBar_15 d_Ip_meanBar_16 d_Ip_meanBar_19 d_Ip_meanBar_22 rfl (by decide) (by decide) (Nat.le_of_ble_eq_true rfl) (by omega) (by omega) ?_
      exact fun w1 h1 => ⟨Or.inr rfl, (hI.gen (t2 := t) (is := [0]) (L2 := []) h1 rfl ⟨kd_0.mpr rfl, trivial⟩ (by decide) (by decide) (fun _ h => nomatch h) (fun _ h => nomatch h) (fun _ _ _ => rfl) (fun h => h) rfl)⟩
end
