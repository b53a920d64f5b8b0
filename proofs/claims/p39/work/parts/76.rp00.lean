def pgM (gr : Nat → Int64) (tk al : Int32) : Nat → (Nat → Int64) × (Nat → Int64)
  | 0 => (gr, fun _ => 0)
  | i + 1 => (vp_updL (pgM gr tk al i).1 (4 + i) ((pgM gr tk al i).1 (4 + i) - (vp_updL (pgM gr tk al i).2 i ((pgM gr tk al i).1 (4 + i) * tk.toInt64 / al.toInt64)) i), vp_updL (pgM gr tk al i).2 i ((pgM gr tk al i).1 (4 + i) * tk.toInt64 / al.toInt64))
def pE4 (mg : Int32) : Int32 := if mg < 20 then 0 else 1
def pE8 (n : Nat → Int32) : Int32 := if (n 2 < 80 ∧ 40 < n 3) ∨ 60 < n 4 then 1 else 0
def pE9 (mg9 : Nat → Int64) (tk : Int32) : Int32 := (mg9 0 * 10 / tk.toInt64).toInt32 + (mg9 1 * 10 / tk.toInt64).toInt32 / 3
def pE10 (mg9 : Nat → Int64) (tk mg : Int32) : Int32 := if pE9 mg9 tk < 370 ∨ (1 ≤ mg ∧ mg ≤ 19) then 1 else 0
def pE5 (sh : Int32) : Int32 := if sh ≤ 0 then 0 else 1
def pE7 (c : Bool) : Int32 := if c = true then 2 else 0
def pEs (f n : Nat → Int32) : Int32 := if rsR f ≤ n 1 then 0 else 4
def pEb (x : Int32) : Int32 := if x = 0 then 0 else 8
def pEc (f : Nat → Int32) (p : Nat) : Int32 := if 0 < nI (loN f) ∨ 0 < nI (ucT f p 12) then 16 else 0
def pEh (x : Int32) : Int32 := if x = 0 then 0 else 32
def pfF (f n : Nat → Int32) (p : Nat) (mg9 : Nat → Int64) (tk mg sh : Int32) (c : Bool) : Int32 := pE5 sh + pE7 c + pEs f n + (pEb (pE8 n) + pEc f p + pEh (pE10 mg9 tk mg))
def ptk (t : zTT) : Int32 := if (t.1 63).1 1 < nI (2 * fa_cnt (fun k => tmB ((t.2 3 0).2.1 k)) 108) then (t.1 63).1 1 else nI (2 * fa_cnt (fun k => tmB ((t.2 3 0).2.1 k)) 108)
def pgg (t : zTT) : (Nat → Int64) × (Nat → Int64) := pgM (t.1 64).2.1 (ptk t) ((t.1 63).1 1) 4
def pox (t : zTT) : zTT := tls (tls t 3 (z_dlV (t.2 3) 0)) 4 (z_dlV (t.2 4) 0)
def poi (t : zTT) : Nat → zP2 := zup t.1 [(52, ((t.1 52).1, vp_updL (t.1 52).2.1 0 ((t.1 52).2.1 0 + (ptk t).toInt64), (t.1 52).2.2)), (63, (upd (t.1 63).1 1 ((t.1 63).1 1 - ptk t), (t.1 63).2)), (64, ((t.1 64).1, (pgg t).1, (t.1 64).2.2))]
def pcv9 (t : zTT) (sh fb : Int32) : zV := (fun _ => 0, upd (upd (upd (upd (upd (fun _ => 0) 0 (ptk t)) 1 ((t.1 52).1 7)) 3 sh) 4 (pE4 ((t.1 52).1 7))) 2 fb, fun _ => 0, fun _ => 0)
def pgv9 (t : zTT) : zV := (fun _ => 0, fun _ => 0, (pgg t).2, fun _ => 0)
def pmT (t : zTT) (n5 n6 : Nat) (sh fb : Int32) : zTT := (poi t, (tls (tls (pox t) 5 (z_apV (t.2 5) n5 (pcv9 t sh fb))) 6 (z_apV (t.2 6) n6 (pgv9 t))).2)
def pSh (t : zTT) (fl he nx mtt fz ic : Nat → Int32) (qn : Nat → Nat) : Int32 := nI (fa_cnt (scP (t.2 3 0).2.1 (flC (t.2 3 0).2.1 fl) (rFD (t.2 3 0).2.1 fl he mtt fz nx ic qn ((t.1 52).1 6)).1) 108)
def pCo (t : zTT) (fl : Nat → Int32) : Bool := icQ (t.2 3 0).2.1 (flC (t.2 3 0).2.1 fl) ((t.1 52).1 6) (decide (ptk t < nI (2 * fa_cnt (fun k => tmB ((t.2 3 0).2.1 k)) 108))) 108
def pFb (t : zTT) (fl he nx mtt fz ic : Nat → Int32) (qn : Nat → Nat) : Int32 := pfF (t.2 3 0).2.1 (t.2 4 0).2.1 ((t.2 4 0).2.2.2 0) (pgg t).2 (ptk t) ((t.1 52).1 7) (pSh t fl he nx mtt fz ic qn) (pCo t fl)
theorem pSh_e (t : zTT) (fl he nx mtt fz ic : Nat → Int32) (qn : Nat → Nat) : nI (fa_cnt (scP (t.2 3 0).2.1 (flC (t.2 3 0).2.1 fl) (fdB (t.2 3 0).2.1 (flC (t.2 3 0).2.1 fl) (fa_fill (frG (flC (t.2 3 0).2.1 fl) (frM (t.2 3 0).2.1 (flC (t.2 3 0).2.1 fl) he mtt fz nx ((t.1 52).1 6)).1.2.2.1) (frM (t.2 3 0).2.1 (flC (t.2 3 0).2.1 fl) he mtt fz nx ((t.1 52).1 6)).1.2.2.1 108) (fdA (t.2 3 0).2.1 (flC (t.2 3 0).2.1 fl) (ic, qn, 0, 0) 108) 108).1) 108) = pSh t fl he nx mtt fz ic qn := by
  unfold pSh rFD rFR
  with_reducible rfl
theorem pcv_0 (t : zTT) (sh fb : Int32) : (pcv9 t sh fb).2.1 0 = ptk t := by
  show upd (upd (upd (upd (upd (fun _ => 0) 0 (ptk t)) 1 ((t.1 52).1 7)) 3 sh) 4 (pE4 ((t.1 52).1 7))) 2 fb 0 = ptk t
  rw [upd_ne (by decide), upd_ne (by decide), upd_ne (by decide), upd_ne (by decide), upd_eq]
theorem pcv_1 (t : zTT) (sh fb : Int32) : (pcv9 t sh fb).2.1 1 = (t.1 52).1 7 := by
  show upd (upd (upd (upd (upd (fun _ => 0) 0 (ptk t)) 1 ((t.1 52).1 7)) 3 sh) 4 (pE4 ((t.1 52).1 7))) 2 fb 1 = (t.1 52).1 7
  rw [upd_ne (by decide), upd_ne (by decide), upd_ne (by decide), upd_eq]
theorem pcv_2 (t : zTT) (sh fb : Int32) : (pcv9 t sh fb).2.1 2 = fb := by
  show upd (upd (upd (upd (upd (fun _ => 0) 0 (ptk t)) 1 ((t.1 52).1 7)) 3 sh) 4 (pE4 ((t.1 52).1 7))) 2 fb 2 = fb
  rw [upd_eq]
theorem pcv_4 (t : zTT) (sh fb : Int32) : (pcv9 t sh fb).2.1 4 = pE4 ((t.1 52).1 7) := by
  show upd (upd (upd (upd (upd (fun _ => 0) 0 (ptk t)) 1 ((t.1 52).1 7)) 3 sh) 4 (pE4 ((t.1 52).1 7))) 2 fb 4 = pE4 ((t.1 52).1 7)
  rw [upd_ne (by decide), upd_eq]
theorem pcv_5 (t : zTT) (sh fb : Int32) : (pcv9 t sh fb).2.1 5 = 0 := by
  show upd (upd (upd (upd (upd (fun _ => 0) 0 (ptk t)) 1 ((t.1 52).1 7)) 3 sh) 4 (pE4 ((t.1 52).1 7))) 2 fb 5 = 0
  rw [upd_ne (by decide), upd_ne (by decide), upd_ne (by decide), upd_ne (by decide), upd_ne (by decide)]
theorem d_Mm_pour_144 : decode prog_14_method_77_code 144 = .ok (.iload 8, 2) := zo_21 (d := 8) (zd_b zq_prog_14_method_77_code_4 16 rfl rfl rfl) (zd_b zq_prog_14_method_77_code_4 17 rfl rfl rfl)
theorem d_Mm_pour_146 : decode prog_14_method_77_code 146 = .ok (.iconst 4, 1) := zo_7 (zd_b zq_prog_14_method_77_code_4 18 rfl rfl rfl)
theorem d_Mm_pour_147 : decode prog_14_method_77_code 147 = .ok (.if_icmp .ge 48, 3) := zo_162 (d := 0) (e := 48) (zd_b zq_prog_14_method_77_code_4 19 rfl rfl rfl) (zd_b zq_prog_14_method_77_code_4 20 rfl rfl rfl) (zd_b zq_prog_14_method_77_code_4 21 rfl rfl rfl) (by decide +kernel)
theorem d_Mm_pour_150 : decode prog_14_method_77_code 150 = .ok (.aload 6, 2) := zo_25 (d := 6) (zd_b zq_prog_14_method_77_code_4 22 rfl rfl rfl) (zd_b zq_prog_14_method_77_code_4 23 rfl rfl rfl)
theorem d_Mm_pour_152 : decode prog_14_method_77_code 152 = .ok (.iload 8, 2) := zo_21 (d := 8) (zd_b zq_prog_14_method_77_code_4 24 rfl rfl rfl) (zd_b zq_prog_14_method_77_code_4 25 rfl rfl rfl)
theorem d_Mm_pour_154 : decode prog_14_method_77_code 154 = .ok (.aload_n 0, 1) := zo_42 (zd_b zq_prog_14_method_77_code_4 26 rfl rfl rfl)
theorem d_Mm_pour_155 : decode prog_14_method_77_code 155 = .ok (.getfield 65, 3) := zo_180 (d := 0) (e := 65) (zd_b zq_prog_14_method_77_code_4 27 rfl rfl rfl) (zd_b zq_prog_14_method_77_code_4 28 rfl rfl rfl) (zd_b zq_prog_14_method_77_code_4 29 rfl rfl rfl)
theorem d_Mm_pour_158 : decode prog_14_method_77_code 158 = .ok (.iconst 4, 1) := zo_7 (zd_b zq_prog_14_method_77_code_4 30 rfl rfl rfl)
theorem d_Mm_pour_159 : decode prog_14_method_77_code 159 = .ok (.iload 8, 2) := zo_21 (d := 8) (zd_b zq_prog_14_method_77_code_4 31 rfl rfl rfl) (zd_b zq_prog_14_method_77_code_5 0 rfl rfl rfl)
theorem d_Mm_pour_161 : decode prog_14_method_77_code 161 = .ok (.iadd, 1) := zo_96 (zd_b zq_prog_14_method_77_code_5 1 rfl rfl rfl)
theorem d_Mm_pour_162 : decode prog_14_method_77_code 162 = .ok (.laload, 1) := zo_47 (zd_b zq_prog_14_method_77_code_5 2 rfl rfl rfl)
theorem d_Mm_pour_163 : decode prog_14_method_77_code 163 = .ok (.iload 4, 2) := zo_21 (d := 4) (zd_b zq_prog_14_method_77_code_5 3 rfl rfl rfl) (zd_b zq_prog_14_method_77_code_5 4 rfl rfl rfl)
theorem d_Mm_pour_165 : decode prog_14_method_77_code 165 = .ok (.i2l, 1) := zo_133 (zd_b zq_prog_14_method_77_code_5 5 rfl rfl rfl)
theorem d_Mm_pour_166 : decode prog_14_method_77_code 166 = .ok (.lmul, 1) := zo_105 (zd_b zq_prog_14_method_77_code_5 6 rfl rfl rfl)
theorem d_Mm_pour_167 : decode prog_14_method_77_code 167 = .ok (.iload 7, 2) := zo_21 (d := 7) (zd_b zq_prog_14_method_77_code_5 7 rfl rfl rfl) (zd_b zq_prog_14_method_77_code_5 8 rfl rfl rfl)
theorem d_Mm_pour_169 : decode prog_14_method_77_code 169 = .ok (.i2l, 1) := zo_133 (zd_b zq_prog_14_method_77_code_5 9 rfl rfl rfl)
theorem d_Mm_pour_170 : decode prog_14_method_77_code 170 = .ok (.ldiv, 1) := zo_109 (zd_b zq_prog_14_method_77_code_5 10 rfl rfl rfl)
theorem d_Mm_pour_171 : decode prog_14_method_77_code 171 = .ok (.lastore, 1) := zo_80 (zd_b zq_prog_14_method_77_code_5 11 rfl rfl rfl)
theorem d_Mm_pour_172 : decode prog_14_method_77_code 172 = .ok (.aload_n 0, 1) := zo_42 (zd_b zq_prog_14_method_77_code_5 12 rfl rfl rfl)
theorem d_Mm_pour_173 : decode prog_14_method_77_code 173 = .ok (.getfield 65, 3) := zo_180 (d := 0) (e := 65) (zd_b zq_prog_14_method_77_code_5 13 rfl rfl rfl) (zd_b zq_prog_14_method_77_code_5 14 rfl rfl rfl) (zd_b zq_prog_14_method_77_code_5 15 rfl rfl rfl)
theorem d_Mm_pour_176 : decode prog_14_method_77_code 176 = .ok (.iconst 4, 1) := zo_7 (zd_b zq_prog_14_method_77_code_5 16 rfl rfl rfl)
theorem d_Mm_pour_177 : decode prog_14_method_77_code 177 = .ok (.iload 8, 2) := zo_21 (d := 8) (zd_b zq_prog_14_method_77_code_5 17 rfl rfl rfl) (zd_b zq_prog_14_method_77_code_5 18 rfl rfl rfl)
theorem d_Mm_pour_179 : decode prog_14_method_77_code 179 = .ok (.iadd, 1) := zo_96 (zd_b zq_prog_14_method_77_code_5 19 rfl rfl rfl)
theorem d_Mm_pour_180 : decode prog_14_method_77_code 180 = .ok (.dup2, 1) := zo_92 (zd_b zq_prog_14_method_77_code_5 20 rfl rfl rfl)
theorem d_Mm_pour_181 : decode prog_14_method_77_code 181 = .ok (.laload, 1) := zo_47 (zd_b zq_prog_14_method_77_code_5 21 rfl rfl rfl)
theorem d_Mm_pour_182 : decode prog_14_method_77_code 182 = .ok (.aload 6, 2) := zo_25 (d := 6) (zd_b zq_prog_14_method_77_code_5 22 rfl rfl rfl) (zd_b zq_prog_14_method_77_code_5 23 rfl rfl rfl)
theorem d_Mm_pour_184 : decode prog_14_method_77_code 184 = .ok (.iload 8, 2) := zo_21 (d := 8) (zd_b zq_prog_14_method_77_code_5 24 rfl rfl rfl) (zd_b zq_prog_14_method_77_code_5 25 rfl rfl rfl)
theorem d_Mm_pour_186 : decode prog_14_method_77_code 186 = .ok (.laload, 1) := zo_47 (zd_b zq_prog_14_method_77_code_5 26 rfl rfl rfl)
theorem d_Mm_pour_187 : decode prog_14_method_77_code 187 = .ok (.lsub, 1) := zo_101 (zd_b zq_prog_14_method_77_code_5 27 rfl rfl rfl)
theorem d_Mm_pour_188 : decode prog_14_method_77_code 188 = .ok (.lastore, 1) := zo_80 (zd_b zq_prog_14_method_77_code_5 28 rfl rfl rfl)
theorem d_Mm_pour_189 : decode prog_14_method_77_code 189 = .ok (.iinc 8 1, 3) := by decide +kernel
theorem d_Mm_pour_192 : decode prog_14_method_77_code 192 = .ok (.goto (-48), 3) := zo_167 (d := 255) (e := 208) (zd_b zq_prog_14_method_77_code_6 0 rfl rfl rfl) (zd_b zq_prog_14_method_77_code_6 1 rfl rfl rfl) (zd_b zq_prog_14_method_77_code_6 2 rfl rfl rfl) (by decide +kernel)
set_option maxHeartbeats 4000000 in
set_option maxRecDepth 100000 in
theorem LKx_pour (g : zG) {Ψ : zO → zW → Prop} {w0 : zW} {n kc ks : Nat} {ad : Nat → Nat} (w_th w_pt w_cl w_wa w_co_ w_fi w_bu w_ho w_lh w_mg w_wd w_fpi w_fal : Int32) (w_po w_de : Int64) (fl he nx mtt fz ic gp f_i f_n mif : Nat → Int32) (qn : Nat → Nat) (its nb q124 q129 : Nat) (tk wt : Int32) (gr9 : Nat → Int64) (hall : ¬ mif 1 = 0) (K : ∀ (_ : Unit), DU g M_Mm_pour Ψ w0 n 195 [(6, .ref q129), (5, .ref q124), (4, .int tk), (3, .int wt), (2, .ref nb), (1, .ref its), (0, .ref (ad 52))] [] [((ad 52), .inr (12, [.int w_th, .ref (ad 53), .int w_pt, .ref (ad 54), .ref (ad 55), .ref (ad 56), .ref (ad 57), .ref (ad 58), .ref (ad 59), .ref (ad 60), .ref (ad 61), .int w_cl, .int w_wa, .int w_co_, .int w_fi, .int w_bu, .int w_ho, .ref (ad 62), .ref (ad 63), .ref (ad 64), .int w_lh, .int w_mg, .int w_wd, .int w_fpi, .int w_fal, .ref (ad 65), .ref (ad 66), .ref (ad 67), .ref (ad 68), .long w_po, .long w_de])), ((ad 63), .inl (0, 4, .inl mif)), ((ad 64), .inl (3, 16, .inr (.inl ((pgM gr9 tk (mif 1) 4).1)))), ((ad 54), .inl (0, 108, .inl fl)), ((ad 55), .inl (0, 108, .inl he)), ((ad 56), .inl (0, 108, .inl nx)), ((ad 57), .inl (0, 108, .inl mtt)), ((ad 58), .inl (0, 108, .inl fz)), ((ad 59), .inl (2, 108, .inl ic)), ((ad 60), .inl (0, 108, .inl (fun k => nI (qn k)))), ((ad 61), .inl (0, 108, .inl gp)), (its, .inl (1, 108, .inl f_i)), (nb, .inl (0, 5, .inl f_n)), (q124, .inl (0, 6, .inl (fun _ => 0))), (q129, .inl (3, 4, .inr (.inl ((pgM gr9 tk (mif 1) 4).2))))] kc ks) : ∀ (d i : Nat), i ≤ 4 → 4 < i + d → DU g M_Mm_pour Ψ w0 n 144 [(8, .int (nI i)), (7, .int (mif 1)), (6, .ref q129), (5, .ref q124), (4, .int tk), (3, .int wt), (2, .ref nb), (1, .ref its), (0, .ref (ad 52))] [] [((ad 52), .inr (12, [.int w_th, .ref (ad 53), .int w_pt, .ref (ad 54), .ref (ad 55), .ref (ad 56), .ref (ad 57), .ref (ad 58), .ref (ad 59), .ref (ad 60), .ref (ad 61), .int w_cl, .int w_wa, .int w_co_, .int w_fi, .int w_bu, .int w_ho, .ref (ad 62), .ref (ad 63), .ref (ad 64), .int w_lh, .int w_mg, .int w_wd, .int w_fpi, .int w_fal, .ref (ad 65), .ref (ad 66), .ref (ad 67), .ref (ad 68), .long w_po, .long w_de])), ((ad 63), .inl (0, 4, .inl mif)), ((ad 64), .inl (3, 16, .inr (.inl ((pgM gr9 tk (mif 1) i).1)))), ((ad 54), .inl (0, 108, .inl fl)), ((ad 55), .inl (0, 108, .inl he)), ((ad 56), .inl (0, 108, .inl nx)), ((ad 57), .inl (0, 108, .inl mtt)), ((ad 58), .inl (0, 108, .inl fz)), ((ad 59), .inl (2, 108, .inl ic)), ((ad 60), .inl (0, 108, .inl (fun k => nI (qn k)))), ((ad 61), .inl (0, 108, .inl gp)), (its, .inl (1, 108, .inl f_i)), (nb, .inl (0, 5, .inl f_n)), (q124, .inl (0, 6, .inl (fun _ => 0))), (q129, .inl (3, 4, .inr (.inl ((pgM gr9 tk (mif 1) i).2))))] kc ks := by
  intro d
  induction d with
  | zero => intro i  h1 h2; exact absurd h2 (by omega)
  | succ d ih =>
    intro i  h1 h2
    refine y_iload d_Mm_pour_144 0 rfl ?_
    refine y_iconst d_Mm_pour_146 (v := 4) (by decide) ?_
    refine y_icmp_ge (tgt := 195) d_Mm_pour_147 (by decide) (fun c_147 => ?_) (fun c_147 => ?_)
    · have hn := z_le (a := 4) (by omega) (by decide) c_147
      obtain rfl : i = 4 := by omega
      refine y_lv (lv' := [(6, .ref q129), (5, .ref q124), (4, .int tk), (3, .int wt), (2, .ref nb), (1, .ref its), (0, .ref (ad 52))]) [2, 3, 4, 5, 6, 7, 8] rfl ?_
      exact K ()
    · have hn := z_nle (a := 4) (by omega) (by decide) c_147
      refine y_aload d_Mm_pour_150 2 rfl ?_
      refine y_iload d_Mm_pour_152 0 rfl ?_
      refine y_aload_n d_Mm_pour_154 rfl 8 rfl ?_
      refine y_get fs_Mm_65 d_Mm_pour_155 (q0 := 0) rfl rfl ?_
      refine y_iconst d_Mm_pour_158 (v := 4) (by decide) ?_
      refine y_iload d_Mm_pour_159 0 rfl ?_
      refine y_iadd d_Mm_pour_161 (v := nI (4 + i)) (nI_add _ _) ?_
      refine y_lald d_Mm_pour_162 (q0 := 2) rfl (vp_in_nI (by omega) (by omega)) (v := ((pgM gr9 tk (mif 1) i).1) (4 + i)) (by rw [nI_clamp (by omega)]) ?_
      refine y_iload d_Mm_pour_163 4 rfl ?_
      refine y_i2l d_Mm_pour_165 (v := tk.toInt64) rfl ?_
      refine y_lmul d_Mm_pour_166 (v := (((pgM gr9 tk (mif 1) i).1) (4 + i)) * tk.toInt64) rfl ?_
      refine y_iload d_Mm_pour_167 1 rfl ?_
      refine y_i2l d_Mm_pour_169 (v := (mif 1).toInt64) rfl ?_
      refine y_ldiv d_Mm_pour_170 (v := ((((pgM gr9 tk (mif 1) i).1) (4 + i)) * tk.toInt64) / ((mif 1).toInt64)) (z_l0 hall) rfl ?_
      refine y_last d_Mm_pour_171 (q0 := 14) rfl (vp_in_nI (by omega) (by omega)) (f' := (pgM gr9 tk (mif 1) (i + 1)).2) (by rw [nI_clamp (by omega)] <;> rfl) (cs' := [((ad 52), .inr (12, [.int w_th, .ref (ad 53), .int w_pt, .ref (ad 54), .ref (ad 55), .ref (ad 56), .ref (ad 57), .ref (ad 58), .ref (ad 59), .ref (ad 60), .ref (ad 61), .int w_cl, .int w_wa, .int w_co_, .int w_fi, .int w_bu, .int w_ho, .ref (ad 62), .ref (ad 63), .ref (ad 64), .int w_lh, .int w_mg, .int w_wd, .int w_fpi, .int w_fal, .ref (ad 65), .ref (ad 66), .ref (ad 67), .ref (ad 68), .long w_po, .long w_de])), ((ad 63), .inl (0, 4, .inl mif)), ((ad 64), .inl (3, 16, .inr (.inl ((pgM gr9 tk (mif 1) i).1)))), ((ad 54), .inl (0, 108, .inl fl)), ((ad 55), .inl (0, 108, .inl he)), ((ad 56), .inl (0, 108, .inl nx)), ((ad 57), .inl (0, 108, .inl mtt)), ((ad 58), .inl (0, 108, .inl fz)), ((ad 59), .inl (2, 108, .inl ic)), ((ad 60), .inl (0, 108, .inl (fun k => nI (qn k)))), ((ad 61), .inl (0, 108, .inl gp)), (its, .inl (1, 108, .inl f_i)), (nb, .inl (0, 5, .inl f_n)), (q124, .inl (0, 6, .inl (fun _ => 0))), (q129, .inl (3, 4, .inr (.inl ((pgM gr9 tk (mif 1) (i + 1)).2))))]) rfl ?_
      refine y_aload_n d_Mm_pour_172 rfl 8 rfl ?_
      refine y_get fs_Mm_65 d_Mm_pour_173 (q0 := 0) rfl rfl ?_
      refine y_iconst d_Mm_pour_176 (v := 4) (by decide) ?_
      refine y_iload d_Mm_pour_177 0 rfl ?_
      refine y_iadd d_Mm_pour_179 (v := nI (4 + i)) (nI_add _ _) ?_
      refine y_dup2_11 d_Mm_pour_180 rfl rfl ?_
      refine y_lald d_Mm_pour_181 (q0 := 2) rfl (vp_in_nI (by omega) (by omega)) (v := ((pgM gr9 tk (mif 1) i).1) (4 + i)) (by rw [nI_clamp (by omega)]) ?_
      refine y_aload d_Mm_pour_182 2 rfl ?_
      refine y_iload d_Mm_pour_184 0 rfl ?_
      refine y_lald d_Mm_pour_186 (q0 := 14) rfl (vp_in_nI (by omega) (by omega)) (v := ((pgM gr9 tk (mif 1) (i + 1)).2) i) (by rw [nI_clamp (by omega)]) ?_
      refine y_lsub d_Mm_pour_187 (v := (((pgM gr9 tk (mif 1) i).1) (4 + i)) - (((pgM gr9 tk (mif 1) (i + 1)).2) i)) rfl ?_
      refine y_last d_Mm_pour_188 (q0 := 2) rfl (vp_in_nI (by omega) (by omega)) (f' := (pgM gr9 tk (mif 1) (i + 1)).1) (by rw [nI_clamp (by omega)] <;> rfl) (cs' := [((ad 52), .inr (12, [.int w_th, .ref (ad 53), .int w_pt, .ref (ad 54), .ref (ad 55), .ref (ad 56), .ref (ad 57), .ref (ad 58), .ref (ad 59), .ref (ad 60), .ref (ad 61), .int w_cl, .int w_wa, .int w_co_, .int w_fi, .int w_bu, .int w_ho, .ref (ad 62), .ref (ad 63), .ref (ad 64), .int w_lh, .int w_mg, .int w_wd, .int w_fpi, .int w_fal, .ref (ad 65), .ref (ad 66), .ref (ad 67), .ref (ad 68), .long w_po, .long w_de])), ((ad 63), .inl (0, 4, .inl mif)), ((ad 64), .inl (3, 16, .inr (.inl ((pgM gr9 tk (mif 1) (i + 1)).1)))), ((ad 54), .inl (0, 108, .inl fl)), ((ad 55), .inl (0, 108, .inl he)), ((ad 56), .inl (0, 108, .inl nx)), ((ad 57), .inl (0, 108, .inl mtt)), ((ad 58), .inl (0, 108, .inl fz)), ((ad 59), .inl (2, 108, .inl ic)), ((ad 60), .inl (0, 108, .inl (fun k => nI (qn k)))), ((ad 61), .inl (0, 108, .inl gp)), (its, .inl (1, 108, .inl f_i)), (nb, .inl (0, 5, .inl f_n)), (q124, .inl (0, 6, .inl (fun _ => 0))), (q129, .inl (3, 4, .inr (.inl ((pgM gr9 tk (mif 1) (i + 1)).2))))]) rfl ?_
      refine y_iinc (lv' := [(8, .int (nI (i + 1))), (7, .int (mif 1)), (6, .ref q129), (5, .ref q124), (4, .int tk), (3, .int wt), (2, .ref nb), (1, .ref its), (0, .ref (ad 52))]) (v := nI (i + 1)) d_Mm_pour_189 (j := 0) rfl (nI_add _ _) (by decide) rfl ?_
      refine y_goto (tgt := 144) d_Mm_pour_192 (by decide) ?_
      exact ih (i + 1)  (by omega) (by omega)
theorem d_Mm_pour_457 : decode prog_14_method_77_code 457 = .ok (.iadd, 1) := zo_96 (zd_b zq_prog_14_method_77_code_14 9 rfl rfl rfl)
theorem d_Mm_pour_458 : decode prog_14_method_77_code 458 = .ok (.iadd, 1) := zo_96 (zd_b zq_prog_14_method_77_code_14 10 rfl rfl rfl)
theorem d_Mm_pour_459 : decode prog_14_method_77_code 459 = .ok (.istore 11, 2) := zo_54 (d := 11) (zd_b zq_prog_14_method_77_code_14 11 rfl rfl rfl) (zd_b zq_prog_14_method_77_code_14 12 rfl rfl rfl)
set_option maxHeartbeats 4000000 in
set_option maxRecDepth 100000 in
theorem Jx11_pour (g : zG) {Ψ : zO → zW → Prop} {w0 : zW} {n kc ks : Nat} {ad : Nat → Nat} (w_th w_pt w_cl w_wa w_co_ w_fi w_bu w_ho w_lh w_mg w_wd w_fpi w_fal : Int32) (w_po w_de : Int64) (fl he nx mtt fz ic gp f_i f_n mif mdf : Nat → Int32) (qn : Nat → Nat) (gr9 mg9 : Nat → Int64) (its nb q124 q129 p_n : Nat) (tk wt : Int32) (hT : ¬ tk = 0) (hch_i : z_ch f_i) (hg_i : ¬ fa_cnt (fun k => decide (f_i k = 103)) 12 = 0) (h0_n : f_n 0 = nI p_n) (hp_n : 1 ≤ p_n ∧ p_n < 9) (hv_i : vlA f_i fl) (sh : Int32) (hsh : mdf 3 = sh) (z2 : Int32) (hz2 : z2 = pEh (pE10 mg9 tk w_mg)) (K : ∀ (gp : Nat → Int32) (qn : Nat → Nat), DU g M_Mm_pour Ψ w0 n 461 [(11, .int (pfF f_i f_n p_n mg9 tk w_mg sh (icQ f_i fl w_lh (decide (tk < wt)) 108))), (6, .ref q129), (5, .ref q124), (0, .ref (ad 52))] [] [((ad 52), .inr (12, [.int w_th, .ref (ad 53), .int w_pt, .ref (ad 54), .ref (ad 55), .ref (ad 56), .ref (ad 57), .ref (ad 58), .ref (ad 59), .ref (ad 60), .ref (ad 61), .int w_cl, .int w_wa, .int w_co_, .int w_fi, .int w_bu, .int w_ho, .ref (ad 62), .ref (ad 63), .ref (ad 64), .int w_lh, .int w_mg, .int w_wd, .int w_fpi, .int w_fal, .ref (ad 65), .ref (ad 66), .ref (ad 67), .ref (ad 68), .long w_po, .long w_de])), ((ad 63), .inl (0, 4, .inl mif)), ((ad 64), .inl (3, 16, .inr (.inl gr9))), ((ad 54), .inl (0, 108, .inl fl)), ((ad 55), .inl (0, 108, .inl he)), ((ad 56), .inl (0, 108, .inl nx)), ((ad 57), .inl (0, 108, .inl mtt)), ((ad 58), .inl (0, 108, .inl fz)), ((ad 59), .inl (2, 108, .inl ic)), ((ad 60), .inl (0, 108, .inl (fun k => nI (qn k)))), ((ad 61), .inl (0, 108, .inl gp)), (its, .inl (1, 108, .inl f_i)), (nb, .inl (0, 5, .inl f_n)), (q124, .inl (0, 6, .inl (upd mdf 4 (pE4 w_mg)))), (q129, .inl (3, 4, .inr (.inl mg9)))] kc ks) : DU g M_Mm_pour Ψ w0 n 457 [(11, .int (pE5 sh + pE7 (icQ f_i fl w_lh (decide (tk < wt)) 108) + pEs f_i f_n)), (10, .int (pE10 mg9 tk w_mg)), (8, .int (pE8 f_n)), (6, .ref q129), (5, .ref q124), (4, .int tk), (3, .int wt), (2, .ref nb), (1, .ref its), (0, .ref (ad 52))] [.int z2, .int (pEb (pE8 f_n) + pEc f_i p_n), .int (pE5 sh + pE7 (icQ f_i fl w_lh (decide (tk < wt)) 108) + pEs f_i f_n)] [((ad 52), .inr (12, [.int w_th, .ref (ad 53), .int w_pt, .ref (ad 54), .ref (ad 55), .ref (ad 56), .ref (ad 57), .ref (ad 58), .ref (ad 59), .ref (ad 60), .ref (ad 61), .int w_cl, .int w_wa, .int w_co_, .int w_fi, .int w_bu, .int w_ho, .ref (ad 62), .ref (ad 63), .ref (ad 64), .int w_lh, .int w_mg, .int w_wd, .int w_fpi, .int w_fal, .ref (ad 65), .ref (ad 66), .ref (ad 67), .ref (ad 68), .long w_po, .long w_de])), ((ad 63), .inl (0, 4, .inl mif)), ((ad 64), .inl (3, 16, .inr (.inl gr9))), ((ad 54), .inl (0, 108, .inl fl)), ((ad 55), .inl (0, 108, .inl he)), ((ad 56), .inl (0, 108, .inl nx)), ((ad 57), .inl (0, 108, .inl mtt)), ((ad 58), .inl (0, 108, .inl fz)), ((ad 59), .inl (2, 108, .inl ic)), ((ad 60), .inl (0, 108, .inl (fun k => nI (qn k)))), ((ad 61), .inl (0, 108, .inl gp)), (its, .inl (1, 108, .inl f_i)), (nb, .inl (0, 5, .inl f_n)), (q124, .inl (0, 6, .inl (upd mdf 4 (pE4 w_mg)))), (q129, .inl (3, 4, .inr (.inl mg9)))] kc ks := by
  subst hz2
  refine y_iadd d_Mm_pour_457 (v := (pEb (pE8 f_n) + pEc f_i p_n) + (pEh (pE10 mg9 tk w_mg))) rfl ?_
  refine y_iadd d_Mm_pour_458 (v := (pE5 sh + pE7 (icQ f_i fl w_lh (decide (tk < wt)) 108) + pEs f_i f_n) + ((pEb (pE8 f_n) + pEc f_i p_n) + (pEh (pE10 mg9 tk w_mg)))) rfl ?_
  refine y_istore (lv' := [(11, .int ((pE5 sh + pE7 (icQ f_i fl w_lh (decide (tk < wt)) 108) + pEs f_i f_n) + ((pEb (pE8 f_n) + pEc f_i p_n) + (pEh (pE10 mg9 tk w_mg))))), (10, .int (pE10 mg9 tk w_mg)), (8, .int (pE8 f_n)), (6, .ref q129), (5, .ref q124), (4, .int tk), (3, .int wt), (2, .ref nb), (1, .ref its), (0, .ref (ad 52))]) d_Mm_pour_459 (by decide) rfl ?_
  refine y_lv (lv' := [(11, .int ((pE5 sh + pE7 (icQ f_i fl w_lh (decide (tk < wt)) 108) + pEs f_i f_n) + ((pEb (pE8 f_n) + pEc f_i p_n) + (pEh (pE10 mg9 tk w_mg))))), (6, .ref q129), (5, .ref q124), (0, .ref (ad 52))]) [0, 3, 4, 9] rfl ?_
  exact K _ _
theorem d_Mm_pour_445 : decode prog_14_method_77_code 445 = .ok (.iadd, 1) := zo_96 (zd_b zq_prog_14_method_77_code_13 29 rfl rfl rfl)
theorem d_Mm_pour_446 : decode prog_14_method_77_code 446 = .ok (.iload 10, 2) := zo_21 (d := 10) (zd_b zq_prog_14_method_77_code_13 30 rfl rfl rfl) (zd_b zq_prog_14_method_77_code_13 31 rfl rfl rfl)
theorem d_Mm_pour_448 : decode prog_14_method_77_code 448 = .ok (.ifCond .eq 8, 3) := zo_153 (d := 0) (e := 8) (zd_b zq_prog_14_method_77_code_14 0 rfl rfl rfl) (zd_b zq_prog_14_method_77_code_14 1 rfl rfl rfl) (zd_b zq_prog_14_method_77_code_14 2 rfl rfl rfl) (by decide +kernel)
theorem d_Mm_pour_456 : decode prog_14_method_77_code 456 = .ok (.iconst 0, 1) := zo_3 (zd_b zq_prog_14_method_77_code_14 8 rfl rfl rfl)
theorem d_Mm_pour_451 : decode prog_14_method_77_code 451 = .ok (.bipush 32, 2) := zo_16 (d := 32) (zd_b zq_prog_14_method_77_code_14 3 rfl rfl rfl) (zd_b zq_prog_14_method_77_code_14 4 rfl rfl rfl) (by decide +kernel)
theorem d_Mm_pour_453 : decode prog_14_method_77_code 453 = .ok (.goto 4, 3) := zo_167 (d := 0) (e := 4) (zd_b zq_prog_14_method_77_code_14 5 rfl rfl rfl) (zd_b zq_prog_14_method_77_code_14 6 rfl rfl rfl) (zd_b zq_prog_14_method_77_code_14 7 rfl rfl rfl) (by decide +kernel)
