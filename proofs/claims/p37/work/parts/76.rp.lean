theorem IW.kpF {g : zG} {ad : Nat → Nat} {t : zTT} {u : zNN} {w w1 : zW} (h : IW g ad t u w) {L i : Nat} {e : zE} (hL : L < 7) (hi : i < 71) (hil : i ∉ z_lx) (hw : w (ad i) = some e) (hke : z_ke (fun q => q = ad (z_lx.getD L 0) ∨ u.2.1 L = some q) w w1) : w1 (ad i) = some e := by
  have hx : z_lx.getD L 0 < 71 ∧ z_lx.getD L 0 ∈ z_lx := (show ∀ L, L < 7 → z_lx.getD L 0 < 71 ∧ z_lx.getD L 0 ∈ z_lx by decide) L hL
  refine hke _ _ (fun h9 => ?_) hw
  rcases h9 with h9 | h9
  · exact hil (h.1.1 _ _ hi hx.1 h9 ▸ hx.2)
  · obtain ⟨N, f, e5⟩ := (h.2.1.1 L hL).bk h9
    exact h.1.n5 e5 i hi rfl
def pgM (gr : Nat → Int64) (tk al : Int32) : Nat → (Nat → Int64) × (Nat → Int64)
  | 0 => (gr, fun _ => 0)
  | i + 1 => (vp_updL (pgM gr tk al i).1 (4 + i) ((pgM gr tk al i).1 (4 + i) - (vp_updL (pgM gr tk al i).2 i ((pgM gr tk al i).1 (4 + i) * tk.toInt64 / al.toInt64)) i), vp_updL (pgM gr tk al i).2 i ((pgM gr tk al i).1 (4 + i) * tk.toInt64 / al.toInt64))
def pE4 (mg : Int32) : Int32 := if mg < 20 then 0 else 1
def pE8 (n : Nat → Int32) : Int32 := if (n 2 < 80 ∧ 40 < n 3) ∨ 60 < n 4 then 1 else 0
def pE9 (mg9 : Nat → Int64) (tk : Int32) : Int32 := (mg9 0 * 10 / tk.toInt64).toInt32 + (mg9 1 * 10 / tk.toInt64).toInt32 / 3
def pE10 (mg9 : Nat → Int64) (tk mg : Int32) : Int32 := if pE9 mg9 tk < 370 ∨ (1 ≤ mg ∧ mg ≤ 19) then 1 else 0
def pE5 (sh : Int32) : Int32 := if sh ≤ 0 then 0 else 1
def pE7 (c : Bool) : Int32 := if c = true then 2 else 0
def pEs (f n : Nat → Int32) : Int32 := if rsR f ≤ n 1 then 0 else 4
def pEb (x : Int32) : Int32 := if x = 0 then 0 else 8
def pEc (f : Nat → Int32) (p : Nat) : Int32 := if 0 < nI (loN f) ∨ 0 < nI (ucT f p 12) then 16 else 0
def pEh (x : Int32) : Int32 := if x = 0 then 0 else 32
def pfF (f n : Nat → Int32) (p : Nat) (mg9 : Nat → Int64) (tk mg sh : Int32) (c : Bool) : Int32 := pE5 sh + pE7 c + pEs f n + (pEb (pE8 n) + pEc f p + pEh (pE10 mg9 tk mg))
def ptk (t : zTT) : Int32 := if (t.1 63).1 1 < nI (2 * fa_cnt (fun k => tmB ((t.2 3 0).2.1 k)) 108) then (t.1 63).1 1 else nI (2 * fa_cnt (fun k => tmB ((t.2 3 0).2.1 k)) 108)
def pgg (t : zTT) : (Nat → Int64) × (Nat → Int64) := pgM (t.1 64).2.1 (ptk t) ((t.1 63).1 1) 4
def pox (t : zTT) : zTT := tls (tls t 3 (z_dlV (t.2 3) 0)) 4 (z_dlV (t.2 4) 0)
def poi (t : zTT) : Nat → zP2 := zup t.1 [(52, ((t.1 52).1, vp_updL (t.1 52).2.1 0 ((t.1 52).2.1 0 + (ptk t).toInt64), (t.1 52).2.2)), (63, (upd (t.1 63).1 1 ((t.1 63).1 1 - ptk t), (t.1 63).2)), (64, ((t.1 64).1, (pgg t).1, (t.1 64).2.2))]
def pcv9 (t : zTT) (sh fb : Int32) : zV := (fun _ => 0, upd (upd (upd (upd (upd (fun _ => 0) 0 (ptk t)) 1 ((t.1 52).1 7)) 3 sh) 4 (pE4 ((t.1 52).1 7))) 2 fb, fun _ => 0, fun _ => 0)
def pgv9 (t : zTT) : zV := (fun _ => 0, fun _ => 0, (pgg t).2, fun _ => 0)
def pmT (t : zTT) (n5 n6 : Nat) (sh fb : Int32) : zTT := (poi t, (tls (tls (pox t) 5 (z_apV (t.2 5) n5 (pcv9 t sh fb))) 6 (z_apV (t.2 6) n6 (pgv9 t))).2)
def pSh (t : zTT) (fl he nx mtt fz ic : Nat → Int32) (qn : Nat → Nat) : Int32 := nI (fa_cnt (scP (t.2 3 0).2.1 (flC (t.2 3 0).2.1 fl) (rFD (t.2 3 0).2.1 fl he mtt fz nx ic qn ((t.1 52).1 6)).1) 108)
def pCo (t : zTT) (fl : Nat → Int32) : Bool := icQ (t.2 3 0).2.1 (flC (t.2 3 0).2.1 fl) ((t.1 52).1 6) (decide (ptk t < nI (2 * fa_cnt (fun k => tmB ((t.2 3 0).2.1 k)) 108))) 108
def pFb (t : zTT) (fl he nx mtt fz ic : Nat → Int32) (qn : Nat → Nat) : Int32 := pfF (t.2 3 0).2.1 (t.2 4 0).2.1 ((t.2 4 0).2.2.2 0) (pgg t).2 (ptk t) ((t.1 52).1 7) (pSh t fl he nx mtt fz ic qn) (pCo t fl)
theorem pSh_e (t : zTT) (fl he nx mtt fz ic : Nat → Int32) (qn : Nat → Nat) : nI (fa_cnt (scP (t.2 3 0).2.1 (flC (t.2 3 0).2.1 fl) (fdB (t.2 3 0).2.1 (flC (t.2 3 0).2.1 fl) (fa_fill (frG (flC (t.2 3 0).2.1 fl) (frM (t.2 3 0).2.1 (flC (t.2 3 0).2.1 fl) he mtt fz nx ((t.1 52).1 6)).1.2.2.1) (frM (t.2 3 0).2.1 (flC (t.2 3 0).2.1 fl) he mtt fz nx ((t.1 52).1 6)).1.2.2.1 108) (fdA (t.2 3 0).2.1 (flC (t.2 3 0).2.1 fl) (ic, qn, 0, 0) 108) 108).1) 108) = pSh t fl he nx mtt fz ic qn := by
  unfold pSh rFD rFR
  with_reducible rfl
theorem pcv_0 (t : zTT) (sh fb : Int32) : (pcv9 t sh fb).2.1 0 = ptk t := by
  show upd (upd (upd (upd (upd (fun _ => 0) 0 (ptk t)) 1 ((t.1 52).1 7)) 3 sh) 4 (pE4 ((t.1 52).1 7))) 2 fb 0 = ptk t
  rw [upd_ne (by decide), upd_ne (by decide), upd_ne (by decide), upd_ne (by decide), upd_eq]
theorem pcv_1 (t : zTT) (sh fb : Int32) : (pcv9 t sh fb).2.1 1 = (t.1 52).1 7 := by
  show upd (upd (upd (upd (upd (fun _ => 0) 0 (ptk t)) 1 ((t.1 52).1 7)) 3 sh) 4 (pE4 ((t.1 52).1 7))) 2 fb 1 = (t.1 52).1 7
  rw [upd_ne (by decide), upd_ne (by decide), upd_ne (by decide), upd_eq]
theorem pcv_2 (t : zTT) (sh fb : Int32) : (pcv9 t sh fb).2.1 2 = fb := by
  show upd (upd (upd (upd (upd (fun _ => 0) 0 (ptk t)) 1 ((t.1 52).1 7)) 3 sh) 4 (pE4 ((t.1 52).1 7))) 2 fb 2 = fb
  rw [upd_eq]
theorem pcv_4 (t : zTT) (sh fb : Int32) : (pcv9 t sh fb).2.1 4 = pE4 ((t.1 52).1 7) := by
  show upd (upd (upd (upd (upd (fun _ => 0) 0 (ptk t)) 1 ((t.1 52).1 7)) 3 sh) 4 (pE4 ((t.1 52).1 7))) 2 fb 4 = pE4 ((t.1 52).1 7)
  rw [upd_ne (by decide), upd_eq]
theorem pcv_5 (t : zTT) (sh fb : Int32) : (pcv9 t sh fb).2.1 5 = 0 := by
  show upd (upd (upd (upd (upd (fun _ => 0) 0 (ptk t)) 1 ((t.1 52).1 7)) 3 sh) 4 (pE4 ((t.1 52).1 7))) 2 fb 5 = 0
  rw [upd_ne (by decide), upd_ne (by decide), upd_ne (by decide), upd_ne (by decide), upd_ne (by decide)]
theorem d_Mm_pour_144 : decode prog_14_method_77_code 144 = .ok (.iload 8, 2) := by decide +kernel
theorem d_Mm_pour_146 : decode prog_14_method_77_code 146 = .ok (.iconst 4, 1) := by decide +kernel
theorem d_Mm_pour_147 : decode prog_14_method_77_code 147 = .ok (.if_icmp .ge 48, 3) := by decide +kernel
theorem d_Mm_pour_150 : decode prog_14_method_77_code 150 = .ok (.aload 6, 2) := by decide +kernel
theorem d_Mm_pour_152 : decode prog_14_method_77_code 152 = .ok (.iload 8, 2) := by decide +kernel
theorem d_Mm_pour_154 : decode prog_14_method_77_code 154 = .ok (.aload_n 0, 1) := by decide +kernel
theorem d_Mm_pour_155 : decode prog_14_method_77_code 155 = .ok (.getfield 65, 3) := by decide +kernel
theorem d_Mm_pour_158 : decode prog_14_method_77_code 158 = .ok (.iconst 4, 1) := by decide +kernel
theorem d_Mm_pour_159 : decode prog_14_method_77_code 159 = .ok (.iload 8, 2) := by decide +kernel
theorem d_Mm_pour_161 : decode prog_14_method_77_code 161 = .ok (.iadd, 1) := by decide +kernel
theorem d_Mm_pour_162 : decode prog_14_method_77_code 162 = .ok (.laload, 1) := by decide +kernel
theorem d_Mm_pour_163 : decode prog_14_method_77_code 163 = .ok (.iload 4, 2) := by decide +kernel
theorem d_Mm_pour_165 : decode prog_14_method_77_code 165 = .ok (.i2l, 1) := by decide +kernel
theorem d_Mm_pour_166 : decode prog_14_method_77_code 166 = .ok (.lmul, 1) := by decide +kernel
theorem d_Mm_pour_167 : decode prog_14_method_77_code 167 = .ok (.iload 7, 2) := by decide +kernel
theorem d_Mm_pour_169 : decode prog_14_method_77_code 169 = .ok (.i2l, 1) := by decide +kernel
theorem d_Mm_pour_170 : decode prog_14_method_77_code 170 = .ok (.ldiv, 1) := by decide +kernel
theorem d_Mm_pour_171 : decode prog_14_method_77_code 171 = .ok (.lastore, 1) := by decide +kernel
theorem d_Mm_pour_172 : decode prog_14_method_77_code 172 = .ok (.aload_n 0, 1) := by decide +kernel
theorem d_Mm_pour_173 : decode prog_14_method_77_code 173 = .ok (.getfield 65, 3) := by decide +kernel
theorem d_Mm_pour_176 : decode prog_14_method_77_code 176 = .ok (.iconst 4, 1) := by decide +kernel
theorem d_Mm_pour_177 : decode prog_14_method_77_code 177 = .ok (.iload 8, 2) := by decide +kernel
theorem d_Mm_pour_179 : decode prog_14_method_77_code 179 = .ok (.iadd, 1) := by decide +kernel
theorem d_Mm_pour_180 : decode prog_14_method_77_code 180 = .ok (.dup2, 1) := by decide +kernel
theorem d_Mm_pour_181 : decode prog_14_method_77_code 181 = .ok (.laload, 1) := by decide +kernel
theorem d_Mm_pour_182 : decode prog_14_method_77_code 182 = .ok (.aload 6, 2) := by decide +kernel
theorem d_Mm_pour_184 : decode prog_14_method_77_code 184 = .ok (.iload 8, 2) := by decide +kernel
theorem d_Mm_pour_186 : decode prog_14_method_77_code 186 = .ok (.laload, 1) := by decide +kernel
theorem d_Mm_pour_187 : decode prog_14_method_77_code 187 = .ok (.lsub, 1) := by decide +kernel
theorem d_Mm_pour_188 : decode prog_14_method_77_code 188 = .ok (.lastore, 1) := by decide +kernel
theorem d_Mm_pour_189 : decode prog_14_method_77_code 189 = .ok (.iinc 8 1, 3) := by decide +kernel
theorem d_Mm_pour_192 : decode prog_14_method_77_code 192 = .ok (.goto (-48), 3) := by decide +kernel
set_option maxHeartbeats 4000000 in
set_option maxRecDepth 100000 in
theorem LKx_pour (g : zG) {Ψ : zO → zW → Prop} {w0 : zW} {n kc ks : Nat} {ad : Nat → Nat} (w_th w_pt w_cl w_wa w_co_ w_fi w_bu w_ho w_lh w_mg w_wd w_fpi w_fal : Int32) (w_po w_de : Int64) (fl he nx mtt fz ic gp f_i f_n mif : Nat → Int32) (qn : Nat → Nat) (its nb q124 q129 : Nat) (tk wt : Int32) (gr9 : Nat → Int64) (hall : ¬ mif 1 = 0) (K : ∀ (_ : Unit), DU g M_Mm_pour Ψ w0 n 195 [(6, .ref q129), (5, .ref q124), (4, .int tk), (3, .int wt), (2, .ref nb), (1, .ref its), (0, .ref (ad 52))] [] [((ad 52), .inr (12, [.int w_th, .ref (ad 53), .int w_pt, .ref (ad 54), .ref (ad 55), .ref (ad 56), .ref (ad 57), .ref (ad 58), .ref (ad 59), .ref (ad 60), .ref (ad 61), .int w_cl, .int w_wa, .int w_co_, .int w_fi, .int w_bu, .int w_ho, .ref (ad 62), .ref (ad 63), .ref (ad 64), .int w_lh, .int w_mg, .int w_wd, .int w_fpi, .int w_fal, .ref (ad 65), .ref (ad 66), .ref (ad 67), .ref (ad 68), .long w_po, .long w_de])), ((ad 63), .inl (0, 4, .inl mif)), ((ad 64), .inl (3, 16, .inr (.inl ((pgM gr9 tk (mif 1) 4).1)))), ((ad 54), .inl (0, 108, .inl fl)), ((ad 55), .inl (0, 108, .inl he)), ((ad 56), .inl (0, 108, .inl nx)), ((ad 57), .inl (0, 108, .inl mtt)), ((ad 58), .inl (0, 108, .inl fz)), ((ad 59), .inl (2, 108, .inl ic)), ((ad 60), .inl (0, 108, .inl (fun k => nI (qn k)))), ((ad 61), .inl (0, 108, .inl gp)), (its, .inl (1, 108, .inl f_i)), (nb, .inl (0, 5, .inl f_n)), (q124, .inl (0, 6, .inl (fun _ => 0))), (q129, .inl (3, 4, .inr (.inl ((pgM gr9 tk (mif 1) 4).2))))] kc ks) : ∀ (d i : Nat), i ≤ 4 → 4 < i + d → DU g M_Mm_pour Ψ w0 n 144 [(8, .int (nI i)), (7, .int (mif 1)), (6, .ref q129), (5, .ref q124), (4, .int tk), (3, .int wt), (2, .ref nb), (1, .ref its), (0, .ref (ad 52))] [] [((ad 52), .inr (12, [.int w_th, .ref (ad 53), .int w_pt, .ref (ad 54), .ref (ad 55), .ref (ad 56), .ref (ad 57), .ref (ad 58), .ref (ad 59), .ref (ad 60), .ref (ad 61), .int w_cl, .int w_wa, .int w_co_, .int w_fi, .int w_bu, .int w_ho, .ref (ad 62), .ref (ad 63), .ref (ad 64), .int w_lh, .int w_mg, .int w_wd, .int w_fpi, .int w_fal, .ref (ad 65), .ref (ad 66), .ref (ad 67), .ref (ad 68), .long w_po, .long w_de])), ((ad 63), .inl (0, 4, .inl mif)), ((ad 64), .inl (3, 16, .inr (.inl ((pgM gr9 tk (mif 1) i).1)))), ((ad 54), .inl (0, 108, .inl fl)), ((ad 55), .inl (0, 108, .inl he)), ((ad 56), .inl (0, 108, .inl nx)), ((ad 57), .inl (0, 108, .inl mtt)), ((ad 58), .inl (0, 108, .inl fz)), ((ad 59), .inl (2, 108, .inl ic)), ((ad 60), .inl (0, 108, .inl (fun k => nI (qn k)))), ((ad 61), .inl (0, 108, .inl gp)), (its, .inl (1, 108, .inl f_i)), (nb, .inl (0, 5, .inl f_n)), (q124, .inl (0, 6, .inl (fun _ => 0))), (q129, .inl (3, 4, .inr (.inl ((pgM gr9 tk (mif 1) i).2))))] kc ks := by
  intro d
  induction d with
  | zero => intro i  h1 h2; exact absurd h2 (by omega)
  | succ d ih =>
    intro i  h1 h2
    refine y_iload d_Mm_pour_144 0 rfl ?_
    refine y_iconst d_Mm_pour_146 (v := 4) (by decide) ?_
    refine y_icmp_ge (tgt := 195) d_Mm_pour_147 (by decide) (fun c_147 => ?_) (fun c_147 => ?_)
    · have hn := z_le (a := 4) (by omega) (by decide) c_147
      obtain rfl : i = 4 := by omega
      refine y_lv (lv' := [(6, .ref q129), (5, .ref q124), (4, .int tk), (3, .int wt), (2, .ref nb), (1, .ref its), (0, .ref (ad 52))]) [2, 3, 4, 5, 6, 7, 8] rfl ?_
      exact K ()
    · have hn := z_nle (a := 4) (by omega) (by decide) c_147
      refine y_aload d_Mm_pour_150 2 rfl ?_
      refine y_iload d_Mm_pour_152 0 rfl ?_
      refine y_aload_n d_Mm_pour_154 rfl 8 rfl ?_
      refine y_get fs_Mm_65 d_Mm_pour_155 (q0 := 0) rfl rfl ?_
      refine y_iconst d_Mm_pour_158 (v := 4) (by decide) ?_
      refine y_iload d_Mm_pour_159 0 rfl ?_
      refine y_iadd d_Mm_pour_161 (v := nI (4 + i)) (nI_add _ _) ?_
      refine y_lald d_Mm_pour_162 (q0 := 2) rfl (vp_in_nI (by omega) (by omega)) (v := ((pgM gr9 tk (mif 1) i).1) (4 + i)) (by rw [nI_clamp (by omega)]) ?_
      refine y_iload d_Mm_pour_163 4 rfl ?_
      refine y_i2l d_Mm_pour_165 (v := tk.toInt64) rfl ?_
      refine y_lmul d_Mm_pour_166 (v := (((pgM gr9 tk (mif 1) i).1) (4 + i)) * tk.toInt64) rfl ?_
      refine y_iload d_Mm_pour_167 1 rfl ?_
      refine y_i2l d_Mm_pour_169 (v := (mif 1).toInt64) rfl ?_
      refine y_ldiv d_Mm_pour_170 (v := ((((pgM gr9 tk (mif 1) i).1) (4 + i)) * tk.toInt64) / ((mif 1).toInt64)) (z_l0 hall) rfl ?_
      refine y_last d_Mm_pour_171 (q0 := 14) rfl (vp_in_nI (by omega) (by omega)) (f' := (pgM gr9 tk (mif 1) (i + 1)).2) (by rw [nI_clamp (by omega)] <;> rfl) (cs' := [((ad 52), .inr (12, [.int w_th, .ref (ad 53), .int w_pt, .ref (ad 54), .ref (ad 55), .ref (ad 56), .ref (ad 57), .ref (ad 58), .ref (ad 59), .ref (ad 60), .ref (ad 61), .int w_cl, .int w_wa, .int w_co_, .int w_fi, .int w_bu, .int w_ho, .ref (ad 62), .ref (ad 63), .ref (ad 64), .int w_lh, .int w_mg, .int w_wd, .int w_fpi, .int w_fal, .ref (ad 65), .ref (ad 66), .ref (ad 67), .ref (ad 68), .long w_po, .long w_de])), ((ad 63), .inl (0, 4, .inl mif)), ((ad 64), .inl (3, 16, .inr (.inl ((pgM gr9 tk (mif 1) i).1)))), ((ad 54), .inl (0, 108, .inl fl)), ((ad 55), .inl (0, 108, .inl he)), ((ad 56), .inl (0, 108, .inl nx)), ((ad 57), .inl (0, 108, .inl mtt)), ((ad 58), .inl (0, 108, .inl fz)), ((ad 59), .inl (2, 108, .inl ic)), ((ad 60), .inl (0, 108, .inl (fun k => nI (qn k)))), ((ad 61), .inl (0, 108, .inl gp)), (its, .inl (1, 108, .inl f_i)), (nb, .inl (0, 5, .inl f_n)), (q124, .inl (0, 6, .inl (fun _ => 0))), (q129, .inl (3, 4, .inr (.inl ((pgM gr9 tk (mif 1) (i + 1)).2))))]) rfl ?_
      refine y_aload_n d_Mm_pour_172 rfl 8 rfl ?_
      refine y_get fs_Mm_65 d_Mm_pour_173 (q0 := 0) rfl rfl ?_
      refine y_iconst d_Mm_pour_176 (v := 4) (by decide) ?_
      refine y_iload d_Mm_pour_177 0 rfl ?_
      refine y_iadd d_Mm_pour_179 (v := nI (4 + i)) (nI_add _ _) ?_
      refine y_dup2_11 d_Mm_pour_180 rfl rfl ?_
      refine y_lald d_Mm_pour_181 (q0 := 2) rfl (vp_in_nI (by omega) (by omega)) (v := ((pgM gr9 tk (mif 1) i).1) (4 + i)) (by rw [nI_clamp (by omega)]) ?_
      refine y_aload d_Mm_pour_182 2 rfl ?_
      refine y_iload d_Mm_pour_184 0 rfl ?_
      refine y_lald d_Mm_pour_186 (q0 := 14) rfl (vp_in_nI (by omega) (by omega)) (v := ((pgM gr9 tk (mif 1) (i + 1)).2) i) (by rw [nI_clamp (by omega)]) ?_
      refine y_lsub d_Mm_pour_187 (v := (((pgM gr9 tk (mif 1) i).1) (4 + i)) - (((pgM gr9 tk (mif 1) (i + 1)).2) i)) rfl ?_
      refine y_last d_Mm_pour_188 (q0 := 2) rfl (vp_in_nI (by omega) (by omega)) (f' := (pgM gr9 tk (mif 1) (i + 1)).1) (by rw [nI_clamp (by omega)] <;> rfl) (cs' := [((ad 52), .inr (12, [.int w_th, .ref (ad 53), .int w_pt, .ref (ad 54), .ref (ad 55), .ref (ad 56), .ref (ad 57), .ref (ad 58), .ref (ad 59), .ref (ad 60), .ref (ad 61), .int w_cl, .int w_wa, .int w_co_, .int w_fi, .int w_bu, .int w_ho, .ref (ad 62), .ref (ad 63), .ref (ad 64), .int w_lh, .int w_mg, .int w_wd, .int w_fpi, .int w_fal, .ref (ad 65), .ref (ad 66), .ref (ad 67), .ref (ad 68), .long w_po, .long w_de])), ((ad 63), .inl (0, 4, .inl mif)), ((ad 64), .inl (3, 16, .inr (.inl ((pgM gr9 tk (mif 1) (i + 1)).1)))), ((ad 54), .inl (0, 108, .inl fl)), ((ad 55), .inl (0, 108, .inl he)), ((ad 56), .inl (0, 108, .inl nx)), ((ad 57), .inl (0, 108, .inl mtt)), ((ad 58), .inl (0, 108, .inl fz)), ((ad 59), .inl (2, 108, .inl ic)), ((ad 60), .inl (0, 108, .inl (fun k => nI (qn k)))), ((ad 61), .inl (0, 108, .inl gp)), (its, .inl (1, 108, .inl f_i)), (nb, .inl (0, 5, .inl f_n)), (q124, .inl (0, 6, .inl (fun _ => 0))), (q129, .inl (3, 4, .inr (.inl ((pgM gr9 tk (mif 1) (i + 1)).2))))]) rfl ?_
      refine y_iinc (lv' := [(8, .int (nI (i + 1))), (7, .int (mif 1)), (6, .ref q129), (5, .ref q124), (4, .int tk), (3, .int wt), (2, .ref nb), (1, .ref its), (0, .ref (ad 52))]) (v := nI (i + 1)) d_Mm_pour_189 (j := 0) rfl (nI_add _ _) (by decide) rfl ?_
      refine y_goto (tgt := 144) d_Mm_pour_192 (by decide) ?_
      exact ih (i + 1)  (by omega) (by omega)
theorem d_Mm_pour_457 : decode prog_14_method_77_code 457 = .ok (.iadd, 1) := by decide +kernel
theorem d_Mm_pour_458 : decode prog_14_method_77_code 458 = .ok (.iadd, 1) := by decide +kernel
theorem d_Mm_pour_459 : decode prog_14_method_77_code 459 = .ok (.istore 11, 2) := by decide +kernel
set_option maxHeartbeats 4000000 in
set_option maxRecDepth 100000 in
theorem Jx11_pour (g : zG) {Ψ : zO → zW → Prop} {w0 : zW} {n kc ks : Nat} {ad : Nat → Nat} (w_th w_pt w_cl w_wa w_co_ w_fi w_bu w_ho w_lh w_mg w_wd w_fpi w_fal : Int32) (w_po w_de : Int64) (fl he nx mtt fz ic gp f_i f_n mif mdf : Nat → Int32) (qn : Nat → Nat) (gr9 mg9 : Nat → Int64) (its nb q124 q129 p_n : Nat) (tk wt : Int32) (hT : ¬ tk = 0) (hch_i : z_ch f_i) (hg_i : ¬ fa_cnt (fun k => decide (f_i k = 103)) 12 = 0) (h0_n : f_n 0 = nI p_n) (hp_n : 1 ≤ p_n ∧ p_n < 9) (hv_i : vlA f_i fl) (sh : Int32) (hsh : mdf 3 = sh) (z2 : Int32) (hz2 : z2 = pEh (pE10 mg9 tk w_mg)) (K : ∀ (gp : Nat → Int32) (qn : Nat → Nat), DU g M_Mm_pour Ψ w0 n 461 [(11, .int (pfF f_i f_n p_n mg9 tk w_mg sh (icQ f_i fl w_lh (decide (tk < wt)) 108))), (6, .ref q129), (5, .ref q124), (0, .ref (ad 52))] [] [((ad 52), .inr (12, [.int w_th, .ref (ad 53), .int w_pt, .ref (ad 54), .ref (ad 55), .ref (ad 56), .ref (ad 57), .ref (ad 58), .ref (ad 59), .ref (ad 60), .ref (ad 61), .int w_cl, .int w_wa, .int w_co_, .int w_fi, .int w_bu, .int w_ho, .ref (ad 62), .ref (ad 63), .ref (ad 64), .int w_lh, .int w_mg, .int w_wd, .int w_fpi, .int w_fal, .ref (ad 65), .ref (ad 66), .ref (ad 67), .ref (ad 68), .long w_po, .long w_de])), ((ad 63), .inl (0, 4, .inl mif)), ((ad 64), .inl (3, 16, .inr (.inl gr9))), ((ad 54), .inl (0, 108, .inl fl)), ((ad 55), .inl (0, 108, .inl he)), ((ad 56), .inl (0, 108, .inl nx)), ((ad 57), .inl (0, 108, .inl mtt)), ((ad 58), .inl (0, 108, .inl fz)), ((ad 59), .inl (2, 108, .inl ic)), ((ad 60), .inl (0, 108, .inl (fun k => nI (qn k)))), ((ad 61), .inl (0, 108, .inl gp)), (its, .inl (1, 108, .inl f_i)), (nb, .inl (0, 5, .inl f_n)), (q124, .inl (0, 6, .inl (upd mdf 4 (pE4 w_mg)))), (q129, .inl (3, 4, .inr (.inl mg9)))] kc ks) : DU g M_Mm_pour Ψ w0 n 457 [(11, .int (pE5 sh + pE7 (icQ f_i fl w_lh (decide (tk < wt)) 108) + pEs f_i f_n)), (10, .int (pE10 mg9 tk w_mg)), (8, .int (pE8 f_n)), (6, .ref q129), (5, .ref q124), (4, .int tk), (3, .int wt), (2, .ref nb), (1, .ref its), (0, .ref (ad 52))] [.int z2, .int (pEb (pE8 f_n) + pEc f_i p_n), .int (pE5 sh + pE7 (icQ f_i fl w_lh (decide (tk < wt)) 108) + pEs f_i f_n)] [((ad 52), .inr (12, [.int w_th, .ref (ad 53), .int w_pt, .ref (ad 54), .ref (ad 55), .ref (ad 56), .ref (ad 57), .ref (ad 58), .ref (ad 59), .ref (ad 60), .ref (ad 61), .int w_cl, .int w_wa, .int w_co_, .int w_fi, .int w_bu, .int w_ho, .ref (ad 62), .ref (ad 63), .ref (ad 64), .int w_lh, .int w_mg, .int w_wd, .int w_fpi, .int w_fal, .ref (ad 65), .ref (ad 66), .ref (ad 67), .ref (ad 68), .long w_po, .long w_de])), ((ad 63), .inl (0, 4, .inl mif)), ((ad 64), .inl (3, 16, .inr (.inl gr9))), ((ad 54), .inl (0, 108, .inl fl)), ((ad 55), .inl (0, 108, .inl he)), ((ad 56), .inl (0, 108, .inl nx)), ((ad 57), .inl (0, 108, .inl mtt)), ((ad 58), .inl (0, 108, .inl fz)), ((ad 59), .inl (2, 108, .inl ic)), ((ad 60), .inl (0, 108, .inl (fun k => nI (qn k)))), ((ad 61), .inl (0, 108, .inl gp)), (its, .inl (1, 108, .inl f_i)), (nb, .inl (0, 5, .inl f_n)), (q124, .inl (0, 6, .inl (upd mdf 4 (pE4 w_mg)))), (q129, .inl (3, 4, .inr (.inl mg9)))] kc ks := by
  subst hz2
  refine y_iadd d_Mm_pour_457 (v := (pEb (pE8 f_n) + pEc f_i p_n) + (pEh (pE10 mg9 tk w_mg))) rfl ?_
  refine y_iadd d_Mm_pour_458 (v := (pE5 sh + pE7 (icQ f_i fl w_lh (decide (tk < wt)) 108) + pEs f_i f_n) + ((pEb (pE8 f_n) + pEc f_i p_n) + (pEh (pE10 mg9 tk w_mg)))) rfl ?_
  refine y_istore (lv' := [(11, .int ((pE5 sh + pE7 (icQ f_i fl w_lh (decide (tk < wt)) 108) + pEs f_i f_n) + ((pEb (pE8 f_n) + pEc f_i p_n) + (pEh (pE10 mg9 tk w_mg))))), (10, .int (pE10 mg9 tk w_mg)), (8, .int (pE8 f_n)), (6, .ref q129), (5, .ref q124), (4, .int tk), (3, .int wt), (2, .ref nb), (1, .ref its), (0, .ref (ad 52))]) d_Mm_pour_459 (by decide) rfl ?_
  refine y_lv (lv' := [(11, .int ((pE5 sh + pE7 (icQ f_i fl w_lh (decide (tk < wt)) 108) + pEs f_i f_n) + ((pEb (pE8 f_n) + pEc f_i p_n) + (pEh (pE10 mg9 tk w_mg))))), (6, .ref q129), (5, .ref q124), (0, .ref (ad 52))]) [0, 3, 4, 9] rfl ?_
  exact K _ _
theorem d_Mm_pour_445 : decode prog_14_method_77_code 445 = .ok (.iadd, 1) := by decide +kernel
theorem d_Mm_pour_446 : decode prog_14_method_77_code 446 = .ok (.iload 10, 2) := by decide +kernel
theorem d_Mm_pour_448 : decode prog_14_method_77_code 448 = .ok (.ifCond .eq 8, 3) := by decide +kernel
theorem d_Mm_pour_456 : decode prog_14_method_77_code 456 = .ok (.iconst 0, 1) := by decide +kernel
theorem d_Mm_pour_451 : decode prog_14_method_77_code 451 = .ok (.bipush 32, 2) := by decide +kernel
theorem d_Mm_pour_453 : decode prog_14_method_77_code 453 = .ok (.goto 4, 3) := by decide +kernel
set_option maxHeartbeats 4000000 in
set_option maxRecDepth 100000 in
theorem Jx10_pour (g : zG) {Ψ : zO → zW → Prop} {w0 : zW} {n kc ks : Nat} {ad : Nat → Nat} (w_th w_pt w_cl w_wa w_co_ w_fi w_bu w_ho w_lh w_mg w_wd w_fpi w_fal : Int32) (w_po w_de : Int64) (fl he nx mtt fz ic gp f_i f_n mif mdf : Nat → Int32) (qn : Nat → Nat) (gr9 mg9 : Nat → Int64) (its nb q124 q129 p_n : Nat) (tk wt : Int32) (hT : ¬ tk = 0) (hch_i : z_ch f_i) (hg_i : ¬ fa_cnt (fun k => decide (f_i k = 103)) 12 = 0) (h0_n : f_n 0 = nI p_n) (hp_n : 1 ≤ p_n ∧ p_n < 9) (hv_i : vlA f_i fl) (sh : Int32) (hsh : mdf 3 = sh) (z : Int32) (hz : z = pEc f_i p_n) (K : ∀ (gp : Nat → Int32) (qn : Nat → Nat), DU g M_Mm_pour Ψ w0 n 461 [(11, .int (pfF f_i f_n p_n mg9 tk w_mg sh (icQ f_i fl w_lh (decide (tk < wt)) 108))), (6, .ref q129), (5, .ref q124), (0, .ref (ad 52))] [] [((ad 52), .inr (12, [.int w_th, .ref (ad 53), .int w_pt, .ref (ad 54), .ref (ad 55), .ref (ad 56), .ref (ad 57), .ref (ad 58), .ref (ad 59), .ref (ad 60), .ref (ad 61), .int w_cl, .int w_wa, .int w_co_, .int w_fi, .int w_bu, .int w_ho, .ref (ad 62), .ref (ad 63), .ref (ad 64), .int w_lh, .int w_mg, .int w_wd, .int w_fpi, .int w_fal, .ref (ad 65), .ref (ad 66), .ref (ad 67), .ref (ad 68), .long w_po, .long w_de])), ((ad 63), .inl (0, 4, .inl mif)), ((ad 64), .inl (3, 16, .inr (.inl gr9))), ((ad 54), .inl (0, 108, .inl fl)), ((ad 55), .inl (0, 108, .inl he)), ((ad 56), .inl (0, 108, .inl nx)), ((ad 57), .inl (0, 108, .inl mtt)), ((ad 58), .inl (0, 108, .inl fz)), ((ad 59), .inl (2, 108, .inl ic)), ((ad 60), .inl (0, 108, .inl (fun k => nI (qn k)))), ((ad 61), .inl (0, 108, .inl gp)), (its, .inl (1, 108, .inl f_i)), (nb, .inl (0, 5, .inl f_n)), (q124, .inl (0, 6, .inl (upd mdf 4 (pE4 w_mg)))), (q129, .inl (3, 4, .inr (.inl mg9)))] kc ks) : DU g M_Mm_pour Ψ w0 n 445 [(11, .int (pE5 sh + pE7 (icQ f_i fl w_lh (decide (tk < wt)) 108) + pEs f_i f_n)), (10, .int (pE10 mg9 tk w_mg)), (8, .int (pE8 f_n)), (6, .ref q129), (5, .ref q124), (4, .int tk), (3, .int wt), (2, .ref nb), (1, .ref its), (0, .ref (ad 52))] [.int z, .int (pEb (pE8 f_n)), .int (pE5 sh + pE7 (icQ f_i fl w_lh (decide (tk < wt)) 108) + pEs f_i f_n)] [((ad 52), .inr (12, [.int w_th, .ref (ad 53), .int w_pt, .ref (ad 54), .ref (ad 55), .ref (ad 56), .ref (ad 57), .ref (ad 58), .ref (ad 59), .ref (ad 60), .ref (ad 61), .int w_cl, .int w_wa, .int w_co_, .int w_fi, .int w_bu, .int w_ho, .ref (ad 62), .ref (ad 63), .ref (ad 64), .int w_lh, .int w_mg, .int w_wd, .int w_fpi, .int w_fal, .ref (ad 65), .ref (ad 66), .ref (ad 67), .ref (ad 68), .long w_po, .long w_de])), ((ad 63), .inl (0, 4, .inl mif)), ((ad 64), .inl (3, 16, .inr (.inl gr9))), ((ad 54), .inl (0, 108, .inl fl)), ((ad 55), .inl (0, 108, .inl he)), ((ad 56), .inl (0, 108, .inl nx)), ((ad 57), .inl (0, 108, .inl mtt)), ((ad 58), .inl (0, 108, .inl fz)), ((ad 59), .inl (2, 108, .inl ic)), ((ad 60), .inl (0, 108, .inl (fun k => nI (qn k)))), ((ad 61), .inl (0, 108, .inl gp)), (its, .inl (1, 108, .inl f_i)), (nb, .inl (0, 5, .inl f_n)), (q124, .inl (0, 6, .inl (upd mdf 4 (pE4 w_mg)))), (q129, .inl (3, 4, .inr (.inl mg9)))] kc ks := by
  subst hz
  refine y_iadd d_Mm_pour_445 (v := (pEb (pE8 f_n)) + (pEc f_i p_n)) rfl ?_
  refine y_iload d_Mm_pour_446 1 rfl ?_
  refine y_if_eq (tgt := 456) d_Mm_pour_448 (by decide) (fun c_448 => ?_) (fun c_448 => ?_)
  · refine y_iconst d_Mm_pour_456 (v := 0) (by decide) ?_
    refine y_lv (lv' := [(11, .int (pE5 sh + pE7 (icQ f_i fl w_lh (decide (tk < wt)) 108) + pEs f_i f_n)), (10, .int (pE10 mg9 tk w_mg)), (8, .int (pE8 f_n)), (6, .ref q129), (5, .ref q124), (4, .int tk), (3, .int wt), (2, .ref nb), (1, .ref its), (0, .ref (ad 52))]) [0, 1, 2, 3, 4, 5, 6, 7, 8, 9] rfl ?_
    exact Jx11_pour g w_th w_pt w_cl w_wa w_co_ w_fi w_bu w_ho w_lh w_mg w_wd w_fpi w_fal w_po w_de fl he nx mtt fz ic gp f_i f_n mif mdf qn gr9 mg9 its nb q124 q129 p_n tk wt hT hch_i hg_i h0_n hp_n hv_i sh hsh _ (Eq.symm (if_pos c_448)) K
  · refine y_bipush d_Mm_pour_451 (v := 32) (by decide) ?_
    refine y_goto (tgt := 457) d_Mm_pour_453 (by decide) ?_
    refine y_lv (lv' := [(11, .int (pE5 sh + pE7 (icQ f_i fl w_lh (decide (tk < wt)) 108) + pEs f_i f_n)), (10, .int (pE10 mg9 tk w_mg)), (8, .int (pE8 f_n)), (6, .ref q129), (5, .ref q124), (4, .int tk), (3, .int wt), (2, .ref nb), (1, .ref its), (0, .ref (ad 52))]) [0, 1, 2, 3, 4, 5, 6, 7, 8, 9] rfl ?_
    exact Jx11_pour g w_th w_pt w_cl w_wa w_co_ w_fi w_bu w_ho w_lh w_mg w_wd w_fpi w_fal w_po w_de fl he nx mtt fz ic gp f_i f_n mif mdf qn gr9 mg9 its nb q124 q129 p_n tk wt hT hch_i hg_i h0_n hp_n hv_i sh hsh _ (Eq.symm (if_neg c_448)) K
theorem d_Mm_pour_421 : decode prog_14_method_77_code 421 = .ok (.aload_n 0, 1) := by decide +kernel
theorem d_Mm_pour_422 : decode prog_14_method_77_code 422 = .ok (.aload_n 1, 1) := by decide +kernel
theorem d_Mm_pour_423 : decode prog_14_method_77_code 423 = .ok (.invokevirtual 131, 3) := by decide +kernel
theorem ok_Mm_pour_Mm_looseIn : z_ok M_Mm_pour M_Mm_looseIn 1 := ⟨z_mj7 (i := 237) rfl (by decide +kernel), rfl, ⟨by decide +kernel, by decide +kernel, by decide +kernel⟩, ⟨by decide, by decide⟩, z_mj1 (i := 14) rfl (by decide +kernel), rfl⟩
theorem d_Mm_pour_426 : decode prog_14_method_77_code 426 = .ok (.ifCond .gt 13, 3) := by decide +kernel
theorem d_Mm_pour_439 : decode prog_14_method_77_code 439 = .ok (.bipush 16, 2) := by decide +kernel
theorem d_Mm_pour_441 : decode prog_14_method_77_code 441 = .ok (.goto 4, 3) := by decide +kernel
theorem d_Mm_pour_429 : decode prog_14_method_77_code 429 = .ok (.aload_n 1, 1) := by decide +kernel
theorem d_Mm_pour_430 : decode prog_14_method_77_code 430 = .ok (.aload_n 2, 1) := by decide +kernel
theorem d_Mm_pour_431 : decode prog_14_method_77_code 431 = .ok (.iconst 0, 1) := by decide +kernel
theorem d_Mm_pour_432 : decode prog_14_method_77_code 432 = .ok (.iaload, 1) := by decide +kernel
theorem d_Mm_pour_433 : decode prog_14_method_77_code 433 = .ok (.invokestatic 111, 3) := by decide +kernel
theorem ok_Mm_pour_Mm_undercutIn : z_ok M_Mm_pour M_Mm_undercutIn 2 := ⟨z_mj7 (i := 211) rfl (by decide +kernel), rfl, ⟨by decide +kernel, by decide +kernel, by decide +kernel⟩, ⟨by decide, by decide⟩, z_mj1 (i := 14) rfl (by decide +kernel), rfl⟩
theorem d_Mm_pour_436 : decode prog_14_method_77_code 436 = .ok (.ifCond .le 8, 3) := by decide +kernel
theorem d_Mm_pour_444 : decode prog_14_method_77_code 444 = .ok (.iconst 0, 1) := by decide +kernel
set_option maxHeartbeats 4000000 in
set_option maxRecDepth 100000 in
theorem Jx9_pour (g : zG) {Ψ : zO → zW → Prop} {w0 : zW} {n kc ks : Nat} {ad : Nat → Nat} (w_th w_pt w_cl w_wa w_co_ w_fi w_bu w_ho w_lh w_mg w_wd w_fpi w_fal : Int32) (w_po w_de : Int64) (fl he nx mtt fz ic gp f_i f_n mif mdf : Nat → Int32) (qn : Nat → Nat) (gr9 mg9 : Nat → Int64) (its nb q124 q129 p_n : Nat) (tk wt : Int32) (hT : ¬ tk = 0) (hch_i : z_ch f_i) (hg_i : ¬ fa_cnt (fun k => decide (f_i k = 103)) 12 = 0) (h0_n : f_n 0 = nI p_n) (hp_n : 1 ≤ p_n ∧ p_n < 9) (hv_i : vlA f_i fl) (sh : Int32) (hsh : mdf 3 = sh) (y : Int32) (hy : y = pEb (pE8 f_n)) (K : ∀ (gp : Nat → Int32) (qn : Nat → Nat), DU g M_Mm_pour Ψ w0 n 461 [(11, .int (pfF f_i f_n p_n mg9 tk w_mg sh (icQ f_i fl w_lh (decide (tk < wt)) 108))), (6, .ref q129), (5, .ref q124), (0, .ref (ad 52))] [] [((ad 52), .inr (12, [.int w_th, .ref (ad 53), .int w_pt, .ref (ad 54), .ref (ad 55), .ref (ad 56), .ref (ad 57), .ref (ad 58), .ref (ad 59), .ref (ad 60), .ref (ad 61), .int w_cl, .int w_wa, .int w_co_, .int w_fi, .int w_bu, .int w_ho, .ref (ad 62), .ref (ad 63), .ref (ad 64), .int w_lh, .int w_mg, .int w_wd, .int w_fpi, .int w_fal, .ref (ad 65), .ref (ad 66), .ref (ad 67), .ref (ad 68), .long w_po, .long w_de])), ((ad 63), .inl (0, 4, .inl mif)), ((ad 64), .inl (3, 16, .inr (.inl gr9))), ((ad 54), .inl (0, 108, .inl fl)), ((ad 55), .inl (0, 108, .inl he)), ((ad 56), .inl (0, 108, .inl nx)), ((ad 57), .inl (0, 108, .inl mtt)), ((ad 58), .inl (0, 108, .inl fz)), ((ad 59), .inl (2, 108, .inl ic)), ((ad 60), .inl (0, 108, .inl (fun k => nI (qn k)))), ((ad 61), .inl (0, 108, .inl gp)), (its, .inl (1, 108, .inl f_i)), (nb, .inl (0, 5, .inl f_n)), (q124, .inl (0, 6, .inl (upd mdf 4 (pE4 w_mg)))), (q129, .inl (3, 4, .inr (.inl mg9)))] kc ks) : DU g M_Mm_pour Ψ w0 n 421 [(11, .int (pE5 sh + pE7 (icQ f_i fl w_lh (decide (tk < wt)) 108) + pEs f_i f_n)), (10, .int (pE10 mg9 tk w_mg)), (8, .int (pE8 f_n)), (6, .ref q129), (5, .ref q124), (4, .int tk), (3, .int wt), (2, .ref nb), (1, .ref its), (0, .ref (ad 52))] [.int y, .int (pE5 sh + pE7 (icQ f_i fl w_lh (decide (tk < wt)) 108) + pEs f_i f_n)] [((ad 52), .inr (12, [.int w_th, .ref (ad 53), .int w_pt, .ref (ad 54), .ref (ad 55), .ref (ad 56), .ref (ad 57), .ref (ad 58), .ref (ad 59), .ref (ad 60), .ref (ad 61), .int w_cl, .int w_wa, .int w_co_, .int w_fi, .int w_bu, .int w_ho, .ref (ad 62), .ref (ad 63), .ref (ad 64), .int w_lh, .int w_mg, .int w_wd, .int w_fpi, .int w_fal, .ref (ad 65), .ref (ad 66), .ref (ad 67), .ref (ad 68), .long w_po, .long w_de])), ((ad 63), .inl (0, 4, .inl mif)), ((ad 64), .inl (3, 16, .inr (.inl gr9))), ((ad 54), .inl (0, 108, .inl fl)), ((ad 55), .inl (0, 108, .inl he)), ((ad 56), .inl (0, 108, .inl nx)), ((ad 57), .inl (0, 108, .inl mtt)), ((ad 58), .inl (0, 108, .inl fz)), ((ad 59), .inl (2, 108, .inl ic)), ((ad 60), .inl (0, 108, .inl (fun k => nI (qn k)))), ((ad 61), .inl (0, 108, .inl gp)), (its, .inl (1, 108, .inl f_i)), (nb, .inl (0, 5, .inl f_n)), (q124, .inl (0, 6, .inl (upd mdf 4 (pE4 w_mg)))), (q129, .inl (3, 4, .inr (.inl mg9)))] kc ks := by
  subst hy
  refine y_aload_n d_Mm_pour_421 rfl 9 rfl ?_
  refine y_aload_n d_Mm_pour_422 rfl 8 rfl ?_
  refine y_callV (As := [.ref its]) (rest := [.int (pEb (pE8 f_n)), .int (pE5 sh + pE7 (icQ f_i fl w_lh (decide (tk < wt)) 108) + pEs f_i f_n)]) (csC := [((ad 52), .inr (12, [.int w_th, .ref (ad 53), .int w_pt, .ref (ad 54), .ref (ad 55), .ref (ad 56), .ref (ad 57), .ref (ad 58), .ref (ad 59), .ref (ad 60), .ref (ad 61), .int w_cl, .int w_wa, .int w_co_, .int w_fi, .int w_bu, .int w_ho, .ref (ad 62), .ref (ad 63), .ref (ad 64), .int w_lh, .int w_mg, .int w_wd, .int w_fpi, .int w_fal, .ref (ad 65), .ref (ad 66), .ref (ad 67), .ref (ad 68), .long w_po, .long w_de])), (its, .inl (1, 108, .inl f_i)), ((ad 61), .inl (0, 108, .inl gp)), ((ad 60), .inl (0, 108, .inl (fun k => nI (qn k))))]) (is := [0, 11, 10, 9]) (q0 := 0) rfl rfl ln_Mm_131 w_im_Mm_looseIn w_se_Mm_looseIn ok_Mm_pour_Mm_looseIn d_Mm_pour_423 (C_Mm_looseIn9 g (ad 52) (ad 53) (ad 54) (ad 55) (ad 56) (ad 57) (ad 58) (ad 59) (ad 60) (ad 61) (ad 62) (ad 63) (ad 64) (ad 65) (ad 66) (ad 67) (ad 68) w_th w_pt w_cl w_wa w_co_ w_fi w_bu w_ho w_lh w_mg w_wd w_fpi w_fal w_po w_de its f_i gp qn) rfl rfl (Nat.le_of_ble_eq_true rfl) rfl (by decide) (by omega) (by omega) (fun E cs1 hx => ?_) (fun v cs1 hx => ?_)
  · exact absurd hx.1 (by simp)
  · obtain ⟨e1, rfl⟩ := hx
    rw [lo_r] at e1
    cases e1
    refine ⟨rfl, ?_⟩
    refine y_st (st2 := [.int (nI (loN f_i)), .int (pEb (pE8 f_n)), .int (pE5 sh + pE7 (icQ f_i fl w_lh (decide (tk < wt)) 108) + pEs f_i f_n)]) rfl ?_
    refine y_cs (cs2 := [((ad 52), .inr (12, [.int w_th, .ref (ad 53), .int w_pt, .ref (ad 54), .ref (ad 55), .ref (ad 56), .ref (ad 57), .ref (ad 58), .ref (ad 59), .ref (ad 60), .ref (ad 61), .int w_cl, .int w_wa, .int w_co_, .int w_fi, .int w_bu, .int w_ho, .ref (ad 62), .ref (ad 63), .ref (ad 64), .int w_lh, .int w_mg, .int w_wd, .int w_fpi, .int w_fal, .ref (ad 65), .ref (ad 66), .ref (ad 67), .ref (ad 68), .long w_po, .long w_de])), ((ad 63), .inl (0, 4, .inl mif)), ((ad 64), .inl (3, 16, .inr (.inl gr9))), ((ad 54), .inl (0, 108, .inl fl)), ((ad 55), .inl (0, 108, .inl he)), ((ad 56), .inl (0, 108, .inl nx)), ((ad 57), .inl (0, 108, .inl mtt)), ((ad 58), .inl (0, 108, .inl fz)), ((ad 59), .inl (2, 108, .inl ic)), ((ad 60), .inl (0, 108, .inl (fun k => nI ((rgS f_i (fa_fill (fun _ => -1) gp 108, qn, 0) 108).2.1 k)))), ((ad 61), .inl (0, 108, .inl ((rgS f_i (fa_fill (fun _ => -1) gp 108, qn, 0) 108).1))), (its, .inl (1, 108, .inl f_i)), (nb, .inl (0, 5, .inl f_n)), (q124, .inl (0, 6, .inl (upd mdf 4 (pE4 w_mg)))), (q129, .inl (3, 4, .inr (.inl mg9)))]) rfl ?_
    refine y_if_gt (tgt := 439) d_Mm_pour_426 (by decide) (fun c_426 => ?_) (fun c_426 => ?_)
    · refine y_bipush d_Mm_pour_439 (v := 16) (by decide) ?_
      refine y_goto (tgt := 445) d_Mm_pour_441 (by decide) ?_
      refine y_lv (lv' := [(11, .int (pE5 sh + pE7 (icQ f_i fl w_lh (decide (tk < wt)) 108) + pEs f_i f_n)), (10, .int (pE10 mg9 tk w_mg)), (8, .int (pE8 f_n)), (6, .ref q129), (5, .ref q124), (4, .int tk), (3, .int wt), (2, .ref nb), (1, .ref its), (0, .ref (ad 52))]) [0, 1, 2, 3, 4, 5, 6, 7, 8, 9] rfl ?_
      exact Jx10_pour g w_th w_pt w_cl w_wa w_co_ w_fi w_bu w_ho w_lh w_mg w_wd w_fpi w_fal w_po w_de fl he nx mtt fz ic ((rgS f_i (fa_fill (fun _ => -1) gp 108, qn, 0) 108).1) f_i f_n mif mdf ((rgS f_i (fa_fill (fun _ => -1) gp 108, qn, 0) 108).2.1) gr9 mg9 its nb q124 q129 p_n tk wt hT hch_i hg_i h0_n hp_n hv_i sh hsh _ (by first | exact Eq.symm (if_pos (Or.inl c_426)) | exact Eq.symm (if_pos (Or.inr (Int32.not_le.mp c_436)))) K
    · refine y_aload_n d_Mm_pour_429 rfl 8 rfl ?_
      refine y_aload_n d_Mm_pour_430 rfl 7 rfl ?_
      refine y_iconst d_Mm_pour_431 (v := 0) (by decide) ?_
      refine y_iald d_Mm_pour_432 (q0 := 12) rfl (fun q => q.elim (by decide) (by decide)) (v := nI p_n) h0_n ?_
      refine y_callS (As := [.ref its, .int (nI p_n)]) (rest := [.int (pEb (pE8 f_n)), .int (pE5 sh + pE7 (icQ f_i fl w_lh (decide (tk < wt)) 108) + pEs f_i f_n)]) (csC := [(its, .inl (1, 108, .inl f_i))]) (is := [11]) ln_Mm_111 w_st_Mm_undercutIn ok_Mm_pour_Mm_undercutIn d_Mm_pour_433 (C_Mm_undercutIn g its f_i p_n hp_n.1 hp_n.2 hch_i) rfl rfl (Nat.le_of_ble_eq_true rfl) rfl (by decide) (by omega) (by omega) (fun E cs1 hx => ?_) (fun v cs1 hx => ?_)
      · exact absurd hx.1 (by simp)
      · obtain ⟨e1, rfl⟩ := hx
        cases e1
        refine ⟨rfl, ?_⟩
        refine y_st (st2 := [.int (nI (ucT f_i p_n 12)), .int (pEb (pE8 f_n)), .int (pE5 sh + pE7 (icQ f_i fl w_lh (decide (tk < wt)) 108) + pEs f_i f_n)]) rfl ?_
        refine y_cs (cs2 := [((ad 52), .inr (12, [.int w_th, .ref (ad 53), .int w_pt, .ref (ad 54), .ref (ad 55), .ref (ad 56), .ref (ad 57), .ref (ad 58), .ref (ad 59), .ref (ad 60), .ref (ad 61), .int w_cl, .int w_wa, .int w_co_, .int w_fi, .int w_bu, .int w_ho, .ref (ad 62), .ref (ad 63), .ref (ad 64), .int w_lh, .int w_mg, .int w_wd, .int w_fpi, .int w_fal, .ref (ad 65), .ref (ad 66), .ref (ad 67), .ref (ad 68), .long w_po, .long w_de])), ((ad 63), .inl (0, 4, .inl mif)), ((ad 64), .inl (3, 16, .inr (.inl gr9))), ((ad 54), .inl (0, 108, .inl fl)), ((ad 55), .inl (0, 108, .inl he)), ((ad 56), .inl (0, 108, .inl nx)), ((ad 57), .inl (0, 108, .inl mtt)), ((ad 58), .inl (0, 108, .inl fz)), ((ad 59), .inl (2, 108, .inl ic)), ((ad 60), .inl (0, 108, .inl (fun k => nI ((rgS f_i (fa_fill (fun _ => -1) gp 108, qn, 0) 108).2.1 k)))), ((ad 61), .inl (0, 108, .inl ((rgS f_i (fa_fill (fun _ => -1) gp 108, qn, 0) 108).1))), (its, .inl (1, 108, .inl f_i)), (nb, .inl (0, 5, .inl f_n)), (q124, .inl (0, 6, .inl (upd mdf 4 (pE4 w_mg)))), (q129, .inl (3, 4, .inr (.inl mg9)))]) rfl ?_
        refine y_if_le (tgt := 444) d_Mm_pour_436 (by decide) (fun c_436 => ?_) (fun c_436 => ?_)
        · refine y_iconst d_Mm_pour_444 (v := 0) (by decide) ?_
          refine y_lv (lv' := [(11, .int (pE5 sh + pE7 (icQ f_i fl w_lh (decide (tk < wt)) 108) + pEs f_i f_n)), (10, .int (pE10 mg9 tk w_mg)), (8, .int (pE8 f_n)), (6, .ref q129), (5, .ref q124), (4, .int tk), (3, .int wt), (2, .ref nb), (1, .ref its), (0, .ref (ad 52))]) [0, 1, 2, 3, 4, 5, 6, 7, 8, 9] rfl ?_
          exact Jx10_pour g w_th w_pt w_cl w_wa w_co_ w_fi w_bu w_ho w_lh w_mg w_wd w_fpi w_fal w_po w_de fl he nx mtt fz ic ((rgS f_i (fa_fill (fun _ => -1) gp 108, qn, 0) 108).1) f_i f_n mif mdf ((rgS f_i (fa_fill (fun _ => -1) gp 108, qn, 0) 108).2.1) gr9 mg9 its nb q124 q129 p_n tk wt hT hch_i hg_i h0_n hp_n hv_i sh hsh _ (Eq.symm (if_neg (fun q => q.elim c_426 (fun e => absurd c_436 (Int32.not_le.mpr e))))) K
        · refine y_bipush d_Mm_pour_439 (v := 16) (by decide) ?_
          refine y_goto (tgt := 445) d_Mm_pour_441 (by decide) ?_
          refine y_lv (lv' := [(11, .int (pE5 sh + pE7 (icQ f_i fl w_lh (decide (tk < wt)) 108) + pEs f_i f_n)), (10, .int (pE10 mg9 tk w_mg)), (8, .int (pE8 f_n)), (6, .ref q129), (5, .ref q124), (4, .int tk), (3, .int wt), (2, .ref nb), (1, .ref its), (0, .ref (ad 52))]) [0, 1, 2, 3, 4, 5, 6, 7, 8, 9] rfl ?_
          exact Jx10_pour g w_th w_pt w_cl w_wa w_co_ w_fi w_bu w_ho w_lh w_mg w_wd w_fpi w_fal w_po w_de fl he nx mtt fz ic ((rgS f_i (fa_fill (fun _ => -1) gp 108, qn, 0) 108).1) f_i f_n mif mdf ((rgS f_i (fa_fill (fun _ => -1) gp 108, qn, 0) 108).2.1) gr9 mg9 its nb q124 q129 p_n tk wt hT hch_i hg_i h0_n hp_n hv_i sh hsh _ (by first | exact Eq.symm (if_pos (Or.inl c_426)) | exact Eq.symm (if_pos (Or.inr (Int32.not_le.mp c_436)))) K
theorem d_Mm_pour_405 : decode prog_14_method_77_code 405 = .ok (.iadd, 1) := by decide +kernel
theorem d_Mm_pour_406 : decode prog_14_method_77_code 406 = .ok (.istore 11, 2) := by decide +kernel
theorem d_Mm_pour_408 : decode prog_14_method_77_code 408 = .ok (.iload 11, 2) := by decide +kernel
theorem d_Mm_pour_410 : decode prog_14_method_77_code 410 = .ok (.iload 8, 2) := by decide +kernel
theorem d_Mm_pour_412 : decode prog_14_method_77_code 412 = .ok (.ifCond .eq 8, 3) := by decide +kernel
theorem d_Mm_pour_420 : decode prog_14_method_77_code 420 = .ok (.iconst 0, 1) := by decide +kernel
theorem d_Mm_pour_415 : decode prog_14_method_77_code 415 = .ok (.bipush 8, 2) := by decide +kernel
theorem d_Mm_pour_417 : decode prog_14_method_77_code 417 = .ok (.goto 4, 3) := by decide +kernel
set_option maxHeartbeats 4000000 in
set_option maxRecDepth 100000 in
theorem Jx8_pour (g : zG) {Ψ : zO → zW → Prop} {w0 : zW} {n kc ks : Nat} {ad : Nat → Nat} (w_th w_pt w_cl w_wa w_co_ w_fi w_bu w_ho w_lh w_mg w_wd w_fpi w_fal : Int32) (w_po w_de : Int64) (fl he nx mtt fz ic gp f_i f_n mif mdf : Nat → Int32) (qn : Nat → Nat) (gr9 mg9 : Nat → Int64) (its nb q124 q129 p_n : Nat) (tk wt : Int32) (hT : ¬ tk = 0) (hch_i : z_ch f_i) (hg_i : ¬ fa_cnt (fun k => decide (f_i k = 103)) 12 = 0) (h0_n : f_n 0 = nI p_n) (hp_n : 1 ≤ p_n ∧ p_n < 9) (hv_i : vlA f_i fl) (sh : Int32) (hsh : mdf 3 = sh) (y : Int32) (hy : y = pEs f_i f_n) (K : ∀ (gp : Nat → Int32) (qn : Nat → Nat), DU g M_Mm_pour Ψ w0 n 461 [(11, .int (pfF f_i f_n p_n mg9 tk w_mg sh (icQ f_i fl w_lh (decide (tk < wt)) 108))), (6, .ref q129), (5, .ref q124), (0, .ref (ad 52))] [] [((ad 52), .inr (12, [.int w_th, .ref (ad 53), .int w_pt, .ref (ad 54), .ref (ad 55), .ref (ad 56), .ref (ad 57), .ref (ad 58), .ref (ad 59), .ref (ad 60), .ref (ad 61), .int w_cl, .int w_wa, .int w_co_, .int w_fi, .int w_bu, .int w_ho, .ref (ad 62), .ref (ad 63), .ref (ad 64), .int w_lh, .int w_mg, .int w_wd, .int w_fpi, .int w_fal, .ref (ad 65), .ref (ad 66), .ref (ad 67), .ref (ad 68), .long w_po, .long w_de])), ((ad 63), .inl (0, 4, .inl mif)), ((ad 64), .inl (3, 16, .inr (.inl gr9))), ((ad 54), .inl (0, 108, .inl fl)), ((ad 55), .inl (0, 108, .inl he)), ((ad 56), .inl (0, 108, .inl nx)), ((ad 57), .inl (0, 108, .inl mtt)), ((ad 58), .inl (0, 108, .inl fz)), ((ad 59), .inl (2, 108, .inl ic)), ((ad 60), .inl (0, 108, .inl (fun k => nI (qn k)))), ((ad 61), .inl (0, 108, .inl gp)), (its, .inl (1, 108, .inl f_i)), (nb, .inl (0, 5, .inl f_n)), (q124, .inl (0, 6, .inl (upd mdf 4 (pE4 w_mg)))), (q129, .inl (3, 4, .inr (.inl mg9)))] kc ks) : DU g M_Mm_pour Ψ w0 n 405 [(10, .int (pE10 mg9 tk w_mg)), (8, .int (pE8 f_n)), (6, .ref q129), (5, .ref q124), (4, .int tk), (3, .int wt), (2, .ref nb), (1, .ref its), (0, .ref (ad 52))] [.int y, .int (pE5 sh + pE7 (icQ f_i fl w_lh (decide (tk < wt)) 108))] [((ad 52), .inr (12, [.int w_th, .ref (ad 53), .int w_pt, .ref (ad 54), .ref (ad 55), .ref (ad 56), .ref (ad 57), .ref (ad 58), .ref (ad 59), .ref (ad 60), .ref (ad 61), .int w_cl, .int w_wa, .int w_co_, .int w_fi, .int w_bu, .int w_ho, .ref (ad 62), .ref (ad 63), .ref (ad 64), .int w_lh, .int w_mg, .int w_wd, .int w_fpi, .int w_fal, .ref (ad 65), .ref (ad 66), .ref (ad 67), .ref (ad 68), .long w_po, .long w_de])), ((ad 63), .inl (0, 4, .inl mif)), ((ad 64), .inl (3, 16, .inr (.inl gr9))), ((ad 54), .inl (0, 108, .inl fl)), ((ad 55), .inl (0, 108, .inl he)), ((ad 56), .inl (0, 108, .inl nx)), ((ad 57), .inl (0, 108, .inl mtt)), ((ad 58), .inl (0, 108, .inl fz)), ((ad 59), .inl (2, 108, .inl ic)), ((ad 60), .inl (0, 108, .inl (fun k => nI (qn k)))), ((ad 61), .inl (0, 108, .inl gp)), (its, .inl (1, 108, .inl f_i)), (nb, .inl (0, 5, .inl f_n)), (q124, .inl (0, 6, .inl (upd mdf 4 (pE4 w_mg)))), (q129, .inl (3, 4, .inr (.inl mg9)))] kc ks := by
  subst hy
  refine y_iadd d_Mm_pour_405 (v := (pE5 sh + pE7 (icQ f_i fl w_lh (decide (tk < wt)) 108)) + (pEs f_i f_n)) rfl ?_
  refine y_istore (lv' := [(11, .int ((pE5 sh + pE7 (icQ f_i fl w_lh (decide (tk < wt)) 108)) + (pEs f_i f_n))), (10, .int (pE10 mg9 tk w_mg)), (8, .int (pE8 f_n)), (6, .ref q129), (5, .ref q124), (4, .int tk), (3, .int wt), (2, .ref nb), (1, .ref its), (0, .ref (ad 52))]) d_Mm_pour_406 (by decide) rfl ?_
  refine y_iload d_Mm_pour_408 0 rfl ?_
  refine y_iload d_Mm_pour_410 2 rfl ?_
  refine y_if_eq (tgt := 420) d_Mm_pour_412 (by decide) (fun c_412 => ?_) (fun c_412 => ?_)
  · refine y_iconst d_Mm_pour_420 (v := 0) (by decide) ?_
    refine y_lv (lv' := [(11, .int ((pE5 sh + pE7 (icQ f_i fl w_lh (decide (tk < wt)) 108)) + (pEs f_i f_n))), (10, .int (pE10 mg9 tk w_mg)), (8, .int (pE8 f_n)), (6, .ref q129), (5, .ref q124), (4, .int tk), (3, .int wt), (2, .ref nb), (1, .ref its), (0, .ref (ad 52))]) [0, 1, 2, 3, 4, 5, 6, 7, 8, 9] rfl ?_
    exact Jx9_pour g w_th w_pt w_cl w_wa w_co_ w_fi w_bu w_ho w_lh w_mg w_wd w_fpi w_fal w_po w_de fl he nx mtt fz ic gp f_i f_n mif mdf qn gr9 mg9 its nb q124 q129 p_n tk wt hT hch_i hg_i h0_n hp_n hv_i sh hsh _ (Eq.symm (if_pos c_412)) K
  · refine y_bipush d_Mm_pour_415 (v := 8) (by decide) ?_
    refine y_goto (tgt := 421) d_Mm_pour_417 (by decide) ?_
    refine y_lv (lv' := [(11, .int ((pE5 sh + pE7 (icQ f_i fl w_lh (decide (tk < wt)) 108)) + (pEs f_i f_n))), (10, .int (pE10 mg9 tk w_mg)), (8, .int (pE8 f_n)), (6, .ref q129), (5, .ref q124), (4, .int tk), (3, .int wt), (2, .ref nb), (1, .ref its), (0, .ref (ad 52))]) [0, 1, 2, 3, 4, 5, 6, 7, 8, 9] rfl ?_
    exact Jx9_pour g w_th w_pt w_cl w_wa w_co_ w_fi w_bu w_ho w_lh w_mg w_wd w_fpi w_fal w_po w_de fl he nx mtt fz ic gp f_i f_n mif mdf qn gr9 mg9 its nb q124 q129 p_n tk wt hT hch_i hg_i h0_n hp_n hv_i sh hsh _ (Eq.symm (if_neg c_412)) K
theorem d_Mm_pour_389 : decode prog_14_method_77_code 389 = .ok (.iadd, 1) := by decide +kernel
theorem d_Mm_pour_390 : decode prog_14_method_77_code 390 = .ok (.aload_n 1, 1) := by decide +kernel
theorem d_Mm_pour_391 : decode prog_14_method_77_code 391 = .ok (.invokestatic 147, 3) := by decide +kernel
theorem ok_Mm_pour_Mm_speedIn : z_ok M_Mm_pour M_Mm_speedIn 1 := ⟨z_mj8 (i := 29) rfl (by decide +kernel), rfl, ⟨by decide +kernel, by decide +kernel, by decide +kernel⟩, ⟨by decide, by decide⟩, z_mj1 (i := 14) rfl (by decide +kernel), rfl⟩
theorem d_Mm_pour_394 : decode prog_14_method_77_code 394 = .ok (.aload_n 2, 1) := by decide +kernel
theorem d_Mm_pour_395 : decode prog_14_method_77_code 395 = .ok (.iconst 1, 1) := by decide +kernel
theorem d_Mm_pour_396 : decode prog_14_method_77_code 396 = .ok (.iaload, 1) := by decide +kernel
theorem d_Mm_pour_397 : decode prog_14_method_77_code 397 = .ok (.if_icmp .le 7, 3) := by decide +kernel
theorem d_Mm_pour_404 : decode prog_14_method_77_code 404 = .ok (.iconst 0, 1) := by decide +kernel
theorem d_Mm_pour_400 : decode prog_14_method_77_code 400 = .ok (.iconst 4, 1) := by decide +kernel
theorem d_Mm_pour_401 : decode prog_14_method_77_code 401 = .ok (.goto 4, 3) := by decide +kernel
set_option maxHeartbeats 4000000 in
set_option maxRecDepth 100000 in
theorem Jx7_pour (g : zG) {Ψ : zO → zW → Prop} {w0 : zW} {n kc ks : Nat} {ad : Nat → Nat} (w_th w_pt w_cl w_wa w_co_ w_fi w_bu w_ho w_lh w_mg w_wd w_fpi w_fal : Int32) (w_po w_de : Int64) (fl he nx mtt fz ic gp f_i f_n mif mdf : Nat → Int32) (qn : Nat → Nat) (gr9 mg9 : Nat → Int64) (its nb q124 q129 p_n : Nat) (tk wt : Int32) (hT : ¬ tk = 0) (hch_i : z_ch f_i) (hg_i : ¬ fa_cnt (fun k => decide (f_i k = 103)) 12 = 0) (h0_n : f_n 0 = nI p_n) (hp_n : 1 ≤ p_n ∧ p_n < 9) (hv_i : vlA f_i fl) (sh : Int32) (hsh : mdf 3 = sh) (y : Int32) (hy : y = pE7 (icQ f_i fl w_lh (decide (tk < wt)) 108)) (K : ∀ (gp : Nat → Int32) (qn : Nat → Nat), DU g M_Mm_pour Ψ w0 n 461 [(11, .int (pfF f_i f_n p_n mg9 tk w_mg sh (icQ f_i fl w_lh (decide (tk < wt)) 108))), (6, .ref q129), (5, .ref q124), (0, .ref (ad 52))] [] [((ad 52), .inr (12, [.int w_th, .ref (ad 53), .int w_pt, .ref (ad 54), .ref (ad 55), .ref (ad 56), .ref (ad 57), .ref (ad 58), .ref (ad 59), .ref (ad 60), .ref (ad 61), .int w_cl, .int w_wa, .int w_co_, .int w_fi, .int w_bu, .int w_ho, .ref (ad 62), .ref (ad 63), .ref (ad 64), .int w_lh, .int w_mg, .int w_wd, .int w_fpi, .int w_fal, .ref (ad 65), .ref (ad 66), .ref (ad 67), .ref (ad 68), .long w_po, .long w_de])), ((ad 63), .inl (0, 4, .inl mif)), ((ad 64), .inl (3, 16, .inr (.inl gr9))), ((ad 54), .inl (0, 108, .inl fl)), ((ad 55), .inl (0, 108, .inl he)), ((ad 56), .inl (0, 108, .inl nx)), ((ad 57), .inl (0, 108, .inl mtt)), ((ad 58), .inl (0, 108, .inl fz)), ((ad 59), .inl (2, 108, .inl ic)), ((ad 60), .inl (0, 108, .inl (fun k => nI (qn k)))), ((ad 61), .inl (0, 108, .inl gp)), (its, .inl (1, 108, .inl f_i)), (nb, .inl (0, 5, .inl f_n)), (q124, .inl (0, 6, .inl (upd mdf 4 (pE4 w_mg)))), (q129, .inl (3, 4, .inr (.inl mg9)))] kc ks) : DU g M_Mm_pour Ψ w0 n 389 [(10, .int (pE10 mg9 tk w_mg)), (8, .int (pE8 f_n)), (6, .ref q129), (5, .ref q124), (4, .int tk), (3, .int wt), (2, .ref nb), (1, .ref its), (0, .ref (ad 52))] [.int y, .int (pE5 sh)] [((ad 52), .inr (12, [.int w_th, .ref (ad 53), .int w_pt, .ref (ad 54), .ref (ad 55), .ref (ad 56), .ref (ad 57), .ref (ad 58), .ref (ad 59), .ref (ad 60), .ref (ad 61), .int w_cl, .int w_wa, .int w_co_, .int w_fi, .int w_bu, .int w_ho, .ref (ad 62), .ref (ad 63), .ref (ad 64), .int w_lh, .int w_mg, .int w_wd, .int w_fpi, .int w_fal, .ref (ad 65), .ref (ad 66), .ref (ad 67), .ref (ad 68), .long w_po, .long w_de])), ((ad 63), .inl (0, 4, .inl mif)), ((ad 64), .inl (3, 16, .inr (.inl gr9))), ((ad 54), .inl (0, 108, .inl fl)), ((ad 55), .inl (0, 108, .inl he)), ((ad 56), .inl (0, 108, .inl nx)), ((ad 57), .inl (0, 108, .inl mtt)), ((ad 58), .inl (0, 108, .inl fz)), ((ad 59), .inl (2, 108, .inl ic)), ((ad 60), .inl (0, 108, .inl (fun k => nI (qn k)))), ((ad 61), .inl (0, 108, .inl gp)), (its, .inl (1, 108, .inl f_i)), (nb, .inl (0, 5, .inl f_n)), (q124, .inl (0, 6, .inl (upd mdf 4 (pE4 w_mg)))), (q129, .inl (3, 4, .inr (.inl mg9)))] kc ks := by
  subst hy
  refine y_iadd d_Mm_pour_389 (v := (pE5 sh) + (pE7 (icQ f_i fl w_lh (decide (tk < wt)) 108))) rfl ?_
  refine y_aload_n d_Mm_pour_390 rfl 7 rfl ?_
  refine y_callS (As := [.ref its]) (rest := [.int ((pE5 sh) + (pE7 (icQ f_i fl w_lh (decide (tk < wt)) 108)))]) (csC := [(its, .inl (1, 108, .inl f_i))]) (is := [11]) ln_Mm_147 w_st_Mm_speedIn ok_Mm_pour_Mm_speedIn d_Mm_pour_391 (C_Mm_speedIn g its f_i hg_i) rfl rfl (Nat.le_of_ble_eq_true rfl) rfl (by decide) (by omega) (by omega) (fun E cs1 hx => ?_) (fun v cs1 hx => ?_)
  · exact absurd hx.1 (by simp)
  · obtain ⟨e1, rfl⟩ := hx
    cases e1
    refine ⟨rfl, ?_⟩
    refine y_st (st2 := [.int (rsR f_i), .int ((pE5 sh) + (pE7 (icQ f_i fl w_lh (decide (tk < wt)) 108)))]) rfl ?_
    refine y_cs (cs2 := [((ad 52), .inr (12, [.int w_th, .ref (ad 53), .int w_pt, .ref (ad 54), .ref (ad 55), .ref (ad 56), .ref (ad 57), .ref (ad 58), .ref (ad 59), .ref (ad 60), .ref (ad 61), .int w_cl, .int w_wa, .int w_co_, .int w_fi, .int w_bu, .int w_ho, .ref (ad 62), .ref (ad 63), .ref (ad 64), .int w_lh, .int w_mg, .int w_wd, .int w_fpi, .int w_fal, .ref (ad 65), .ref (ad 66), .ref (ad 67), .ref (ad 68), .long w_po, .long w_de])), ((ad 63), .inl (0, 4, .inl mif)), ((ad 64), .inl (3, 16, .inr (.inl gr9))), ((ad 54), .inl (0, 108, .inl fl)), ((ad 55), .inl (0, 108, .inl he)), ((ad 56), .inl (0, 108, .inl nx)), ((ad 57), .inl (0, 108, .inl mtt)), ((ad 58), .inl (0, 108, .inl fz)), ((ad 59), .inl (2, 108, .inl ic)), ((ad 60), .inl (0, 108, .inl (fun k => nI (qn k)))), ((ad 61), .inl (0, 108, .inl gp)), (its, .inl (1, 108, .inl f_i)), (nb, .inl (0, 5, .inl f_n)), (q124, .inl (0, 6, .inl (upd mdf 4 (pE4 w_mg)))), (q129, .inl (3, 4, .inr (.inl mg9)))]) rfl ?_
    refine y_aload_n d_Mm_pour_394 rfl 6 rfl ?_
    refine y_iconst d_Mm_pour_395 (v := 1) (by decide) ?_
    refine y_iald d_Mm_pour_396 (q0 := 12) rfl (fun q => q.elim (by decide) (by decide)) (v := f_n 1) rfl ?_
    refine y_icmp_le (tgt := 404) d_Mm_pour_397 (by decide) (fun c_397 => ?_) (fun c_397 => ?_)
    · refine y_iconst d_Mm_pour_404 (v := 0) (by decide) ?_
      refine y_lv (lv' := [(10, .int (pE10 mg9 tk w_mg)), (8, .int (pE8 f_n)), (6, .ref q129), (5, .ref q124), (4, .int tk), (3, .int wt), (2, .ref nb), (1, .ref its), (0, .ref (ad 52))]) [0, 1, 2, 3, 4, 5, 6, 7, 8] rfl ?_
      exact Jx8_pour g w_th w_pt w_cl w_wa w_co_ w_fi w_bu w_ho w_lh w_mg w_wd w_fpi w_fal w_po w_de fl he nx mtt fz ic gp f_i f_n mif mdf qn gr9 mg9 its nb q124 q129 p_n tk wt hT hch_i hg_i h0_n hp_n hv_i sh hsh _ (Eq.symm (if_pos c_397)) K
    · refine y_iconst d_Mm_pour_400 (v := 4) (by decide) ?_
      refine y_goto (tgt := 405) d_Mm_pour_401 (by decide) ?_
      refine y_lv (lv' := [(10, .int (pE10 mg9 tk w_mg)), (8, .int (pE8 f_n)), (6, .ref q129), (5, .ref q124), (4, .int tk), (3, .int wt), (2, .ref nb), (1, .ref its), (0, .ref (ad 52))]) [0, 1, 2, 3, 4, 5, 6, 7, 8] rfl ?_
      exact Jx8_pour g w_th w_pt w_cl w_wa w_co_ w_fi w_bu w_ho w_lh w_mg w_wd w_fpi w_fal w_po w_de fl he nx mtt fz ic gp f_i f_n mif mdf qn gr9 mg9 its nb q124 q129 p_n tk wt hT hch_i hg_i h0_n hp_n hv_i sh hsh _ (Eq.symm (if_neg c_397)) K
theorem d_Mm_pour_378 : decode prog_14_method_77_code 378 = .ok (.invokevirtual 297, 3) := by decide +kernel
theorem ok_Mm_pour_Mm_isCold : z_ok M_Mm_pour M_Mm_isCold 2 := ⟨z_mj9 (i := 5) rfl (by decide +kernel), rfl, ⟨by decide +kernel, by decide +kernel, by decide +kernel⟩, ⟨by decide, by decide⟩, z_mj1 (i := 14) rfl (by decide +kernel), rfl⟩
theorem ln_Mm_297 : Cond.methodLink "IronpourModel" 297 M_Mm_isCold.1 ∈ z_gw := z_mj9 (i := 2) rfl (by decide +kernel)
theorem w_im_Mm_isCold : Cond.instanceMethod M_Mm_isCold.1 ∈ z_gw := z_mj9 (i := 4) rfl (by decide +kernel)
theorem w_se_Mm_isCold : Cond.selects M_Mm_isCold.1.cls M_Mm_isCold.1 M_Mm_isCold.1 ∈ z_gw := z_mem (i := 52) (by decide +kernel) (by decide +kernel)
theorem d_Mm_pour_381 : decode prog_14_method_77_code 381 = .ok (.ifCond .eq 7, 3) := by decide +kernel
theorem d_Mm_pour_388 : decode prog_14_method_77_code 388 = .ok (.iconst 0, 1) := by decide +kernel
theorem d_Mm_pour_384 : decode prog_14_method_77_code 384 = .ok (.iconst 2, 1) := by decide +kernel
theorem d_Mm_pour_385 : decode prog_14_method_77_code 385 = .ok (.goto 4, 3) := by decide +kernel
set_option maxHeartbeats 4000000 in
set_option maxRecDepth 100000 in
theorem Jx6_pour (g : zG) {Ψ : zO → zW → Prop} {w0 : zW} {n kc ks : Nat} {ad : Nat → Nat} (w_th w_pt w_cl w_wa w_co_ w_fi w_bu w_ho w_lh w_mg w_wd w_fpi w_fal : Int32) (w_po w_de : Int64) (fl he nx mtt fz ic gp f_i f_n mif mdf : Nat → Int32) (qn : Nat → Nat) (gr9 mg9 : Nat → Int64) (its nb q124 q129 p_n : Nat) (tk wt : Int32) (hT : ¬ tk = 0) (hch_i : z_ch f_i) (hg_i : ¬ fa_cnt (fun k => decide (f_i k = 103)) 12 = 0) (h0_n : f_n 0 = nI p_n) (hp_n : 1 ≤ p_n ∧ p_n < 9) (hv_i : vlA f_i fl) (sh : Int32) (hsh : mdf 3 = sh) (s : Int32) (hs : s = z_bi (decide (tk < wt))) (K : ∀ (gp : Nat → Int32) (qn : Nat → Nat), DU g M_Mm_pour Ψ w0 n 461 [(11, .int (pfF f_i f_n p_n mg9 tk w_mg sh (icQ f_i fl w_lh (decide (tk < wt)) 108))), (6, .ref q129), (5, .ref q124), (0, .ref (ad 52))] [] [((ad 52), .inr (12, [.int w_th, .ref (ad 53), .int w_pt, .ref (ad 54), .ref (ad 55), .ref (ad 56), .ref (ad 57), .ref (ad 58), .ref (ad 59), .ref (ad 60), .ref (ad 61), .int w_cl, .int w_wa, .int w_co_, .int w_fi, .int w_bu, .int w_ho, .ref (ad 62), .ref (ad 63), .ref (ad 64), .int w_lh, .int w_mg, .int w_wd, .int w_fpi, .int w_fal, .ref (ad 65), .ref (ad 66), .ref (ad 67), .ref (ad 68), .long w_po, .long w_de])), ((ad 63), .inl (0, 4, .inl mif)), ((ad 64), .inl (3, 16, .inr (.inl gr9))), ((ad 54), .inl (0, 108, .inl fl)), ((ad 55), .inl (0, 108, .inl he)), ((ad 56), .inl (0, 108, .inl nx)), ((ad 57), .inl (0, 108, .inl mtt)), ((ad 58), .inl (0, 108, .inl fz)), ((ad 59), .inl (2, 108, .inl ic)), ((ad 60), .inl (0, 108, .inl (fun k => nI (qn k)))), ((ad 61), .inl (0, 108, .inl gp)), (its, .inl (1, 108, .inl f_i)), (nb, .inl (0, 5, .inl f_n)), (q124, .inl (0, 6, .inl (upd mdf 4 (pE4 w_mg)))), (q129, .inl (3, 4, .inr (.inl mg9)))] kc ks) : DU g M_Mm_pour Ψ w0 n 378 [(10, .int (pE10 mg9 tk w_mg)), (8, .int (pE8 f_n)), (6, .ref q129), (5, .ref q124), (4, .int tk), (3, .int wt), (2, .ref nb), (1, .ref its), (0, .ref (ad 52))] [.int s, .ref its, .ref (ad 52), .int (pE5 sh)] [((ad 52), .inr (12, [.int w_th, .ref (ad 53), .int w_pt, .ref (ad 54), .ref (ad 55), .ref (ad 56), .ref (ad 57), .ref (ad 58), .ref (ad 59), .ref (ad 60), .ref (ad 61), .int w_cl, .int w_wa, .int w_co_, .int w_fi, .int w_bu, .int w_ho, .ref (ad 62), .ref (ad 63), .ref (ad 64), .int w_lh, .int w_mg, .int w_wd, .int w_fpi, .int w_fal, .ref (ad 65), .ref (ad 66), .ref (ad 67), .ref (ad 68), .long w_po, .long w_de])), ((ad 63), .inl (0, 4, .inl mif)), ((ad 64), .inl (3, 16, .inr (.inl gr9))), ((ad 54), .inl (0, 108, .inl fl)), ((ad 55), .inl (0, 108, .inl he)), ((ad 56), .inl (0, 108, .inl nx)), ((ad 57), .inl (0, 108, .inl mtt)), ((ad 58), .inl (0, 108, .inl fz)), ((ad 59), .inl (2, 108, .inl ic)), ((ad 60), .inl (0, 108, .inl (fun k => nI (qn k)))), ((ad 61), .inl (0, 108, .inl gp)), (its, .inl (1, 108, .inl f_i)), (nb, .inl (0, 5, .inl f_n)), (q124, .inl (0, 6, .inl (upd mdf 4 (pE4 w_mg)))), (q129, .inl (3, 4, .inr (.inl mg9)))] kc ks := by
  subst hs
  refine y_callV (As := [.ref its, .int (z_bi (decide (tk < wt)))]) (rest := [.int (pE5 sh)]) (csC := [((ad 52), .inr (12, [.int w_th, .ref (ad 53), .int w_pt, .ref (ad 54), .ref (ad 55), .ref (ad 56), .ref (ad 57), .ref (ad 58), .ref (ad 59), .ref (ad 60), .ref (ad 61), .int w_cl, .int w_wa, .int w_co_, .int w_fi, .int w_bu, .int w_ho, .ref (ad 62), .ref (ad 63), .ref (ad 64), .int w_lh, .int w_mg, .int w_wd, .int w_fpi, .int w_fal, .ref (ad 65), .ref (ad 66), .ref (ad 67), .ref (ad 68), .long w_po, .long w_de])), (its, .inl (1, 108, .inl f_i)), ((ad 54), .inl (0, 108, .inl fl))]) (is := [0, 11, 3]) (q0 := 0) rfl rfl ln_Mm_297 w_im_Mm_isCold w_se_Mm_isCold ok_Mm_pour_Mm_isCold d_Mm_pour_378 (C_Mm_isCold9 g (ad 52) (ad 53) (ad 54) (ad 55) (ad 56) (ad 57) (ad 58) (ad 59) (ad 60) (ad 61) (ad 62) (ad 63) (ad 64) (ad 65) (ad 66) (ad 67) (ad 68) w_th w_pt w_cl w_wa w_co_ w_fi w_bu w_ho w_lh w_mg w_wd w_fpi w_fal w_po w_de its f_i fl (decide (tk < wt)) hv_i) rfl rfl (Nat.le_of_ble_eq_true rfl) rfl (by decide) (by omega) (by omega) (fun E cs1 hx => ?_) (fun v cs1 hx => ?_)
  · exact absurd hx.1 (by simp)
  · obtain ⟨e1, rfl⟩ := hx
    cases e1
    refine ⟨rfl, ?_⟩
    refine y_st (st2 := [.int (z_bi (icQ f_i fl w_lh (decide (tk < wt)) 108)), .int (pE5 sh)]) rfl ?_
    refine y_cs (cs2 := [((ad 52), .inr (12, [.int w_th, .ref (ad 53), .int w_pt, .ref (ad 54), .ref (ad 55), .ref (ad 56), .ref (ad 57), .ref (ad 58), .ref (ad 59), .ref (ad 60), .ref (ad 61), .int w_cl, .int w_wa, .int w_co_, .int w_fi, .int w_bu, .int w_ho, .ref (ad 62), .ref (ad 63), .ref (ad 64), .int w_lh, .int w_mg, .int w_wd, .int w_fpi, .int w_fal, .ref (ad 65), .ref (ad 66), .ref (ad 67), .ref (ad 68), .long w_po, .long w_de])), ((ad 63), .inl (0, 4, .inl mif)), ((ad 64), .inl (3, 16, .inr (.inl gr9))), ((ad 54), .inl (0, 108, .inl fl)), ((ad 55), .inl (0, 108, .inl he)), ((ad 56), .inl (0, 108, .inl nx)), ((ad 57), .inl (0, 108, .inl mtt)), ((ad 58), .inl (0, 108, .inl fz)), ((ad 59), .inl (2, 108, .inl ic)), ((ad 60), .inl (0, 108, .inl (fun k => nI (qn k)))), ((ad 61), .inl (0, 108, .inl gp)), (its, .inl (1, 108, .inl f_i)), (nb, .inl (0, 5, .inl f_n)), (q124, .inl (0, 6, .inl (upd mdf 4 (pE4 w_mg)))), (q129, .inl (3, 4, .inr (.inl mg9)))]) rfl ?_
    refine y_if_eq (tgt := 388) d_Mm_pour_381 (by decide) (fun c_381 => ?_) (fun c_381 => ?_)
    · refine y_iconst d_Mm_pour_388 (v := 0) (by decide) ?_
      refine y_lv (lv' := [(10, .int (pE10 mg9 tk w_mg)), (8, .int (pE8 f_n)), (6, .ref q129), (5, .ref q124), (4, .int tk), (3, .int wt), (2, .ref nb), (1, .ref its), (0, .ref (ad 52))]) [0, 1, 2, 3, 4, 5, 6, 7, 8] rfl ?_
      exact Jx7_pour g w_th w_pt w_cl w_wa w_co_ w_fi w_bu w_ho w_lh w_mg w_wd w_fpi w_fal w_po w_de fl he nx mtt fz ic gp f_i f_n mif mdf qn gr9 mg9 its nb q124 q129 p_n tk wt hT hch_i hg_i h0_n hp_n hv_i sh hsh _ (Eq.symm (if_neg (show ¬ (icQ f_i fl w_lh (decide (tk < wt)) 108) = true from by rw [z_bi0 c_381]; decide))) K
    · refine y_iconst d_Mm_pour_384 (v := 2) (by decide) ?_
      refine y_goto (tgt := 389) d_Mm_pour_385 (by decide) ?_
      refine y_lv (lv' := [(10, .int (pE10 mg9 tk w_mg)), (8, .int (pE8 f_n)), (6, .ref q129), (5, .ref q124), (4, .int tk), (3, .int wt), (2, .ref nb), (1, .ref its), (0, .ref (ad 52))]) [0, 1, 2, 3, 4, 5, 6, 7, 8] rfl ?_
      exact Jx7_pour g w_th w_pt w_cl w_wa w_co_ w_fi w_bu w_ho w_lh w_mg w_wd w_fpi w_fal w_po w_de fl he nx mtt fz ic gp f_i f_n mif mdf qn gr9 mg9 its nb q124 q129 p_n tk wt hT hch_i hg_i h0_n hp_n hv_i sh hsh _ (Eq.symm (if_pos (z_bi1 c_381))) K
theorem d_Mm_pour_365 : decode prog_14_method_77_code 365 = .ok (.aload_n 0, 1) := by decide +kernel
theorem d_Mm_pour_366 : decode prog_14_method_77_code 366 = .ok (.aload_n 1, 1) := by decide +kernel
theorem d_Mm_pour_367 : decode prog_14_method_77_code 367 = .ok (.iload 4, 2) := by decide +kernel
theorem d_Mm_pour_369 : decode prog_14_method_77_code 369 = .ok (.iload_n 3, 1) := by decide +kernel
theorem d_Mm_pour_370 : decode prog_14_method_77_code 370 = .ok (.if_icmp .ge 7, 3) := by decide +kernel
theorem d_Mm_pour_377 : decode prog_14_method_77_code 377 = .ok (.iconst 0, 1) := by decide +kernel
theorem d_Mm_pour_373 : decode prog_14_method_77_code 373 = .ok (.iconst 1, 1) := by decide +kernel
theorem d_Mm_pour_374 : decode prog_14_method_77_code 374 = .ok (.goto 4, 3) := by decide +kernel
set_option maxHeartbeats 4000000 in
set_option maxRecDepth 100000 in
theorem Jx5_pour (g : zG) {Ψ : zO → zW → Prop} {w0 : zW} {n kc ks : Nat} {ad : Nat → Nat} (w_th w_pt w_cl w_wa w_co_ w_fi w_bu w_ho w_lh w_mg w_wd w_fpi w_fal : Int32) (w_po w_de : Int64) (fl he nx mtt fz ic gp f_i f_n mif mdf : Nat → Int32) (qn : Nat → Nat) (gr9 mg9 : Nat → Int64) (its nb q124 q129 p_n : Nat) (tk wt : Int32) (hT : ¬ tk = 0) (hch_i : z_ch f_i) (hg_i : ¬ fa_cnt (fun k => decide (f_i k = 103)) 12 = 0) (h0_n : f_n 0 = nI p_n) (hp_n : 1 ≤ p_n ∧ p_n < 9) (hv_i : vlA f_i fl) (sh : Int32) (hsh : mdf 3 = sh) (x : Int32) (hx : x = pE5 sh) (K : ∀ (gp : Nat → Int32) (qn : Nat → Nat), DU g M_Mm_pour Ψ w0 n 461 [(11, .int (pfF f_i f_n p_n mg9 tk w_mg sh (icQ f_i fl w_lh (decide (tk < wt)) 108))), (6, .ref q129), (5, .ref q124), (0, .ref (ad 52))] [] [((ad 52), .inr (12, [.int w_th, .ref (ad 53), .int w_pt, .ref (ad 54), .ref (ad 55), .ref (ad 56), .ref (ad 57), .ref (ad 58), .ref (ad 59), .ref (ad 60), .ref (ad 61), .int w_cl, .int w_wa, .int w_co_, .int w_fi, .int w_bu, .int w_ho, .ref (ad 62), .ref (ad 63), .ref (ad 64), .int w_lh, .int w_mg, .int w_wd, .int w_fpi, .int w_fal, .ref (ad 65), .ref (ad 66), .ref (ad 67), .ref (ad 68), .long w_po, .long w_de])), ((ad 63), .inl (0, 4, .inl mif)), ((ad 64), .inl (3, 16, .inr (.inl gr9))), ((ad 54), .inl (0, 108, .inl fl)), ((ad 55), .inl (0, 108, .inl he)), ((ad 56), .inl (0, 108, .inl nx)), ((ad 57), .inl (0, 108, .inl mtt)), ((ad 58), .inl (0, 108, .inl fz)), ((ad 59), .inl (2, 108, .inl ic)), ((ad 60), .inl (0, 108, .inl (fun k => nI (qn k)))), ((ad 61), .inl (0, 108, .inl gp)), (its, .inl (1, 108, .inl f_i)), (nb, .inl (0, 5, .inl f_n)), (q124, .inl (0, 6, .inl (upd mdf 4 (pE4 w_mg)))), (q129, .inl (3, 4, .inr (.inl mg9)))] kc ks) : DU g M_Mm_pour Ψ w0 n 365 [(10, .int (pE10 mg9 tk w_mg)), (8, .int (pE8 f_n)), (6, .ref q129), (5, .ref q124), (4, .int tk), (3, .int wt), (2, .ref nb), (1, .ref its), (0, .ref (ad 52))] [.int x] [((ad 52), .inr (12, [.int w_th, .ref (ad 53), .int w_pt, .ref (ad 54), .ref (ad 55), .ref (ad 56), .ref (ad 57), .ref (ad 58), .ref (ad 59), .ref (ad 60), .ref (ad 61), .int w_cl, .int w_wa, .int w_co_, .int w_fi, .int w_bu, .int w_ho, .ref (ad 62), .ref (ad 63), .ref (ad 64), .int w_lh, .int w_mg, .int w_wd, .int w_fpi, .int w_fal, .ref (ad 65), .ref (ad 66), .ref (ad 67), .ref (ad 68), .long w_po, .long w_de])), ((ad 63), .inl (0, 4, .inl mif)), ((ad 64), .inl (3, 16, .inr (.inl gr9))), ((ad 54), .inl (0, 108, .inl fl)), ((ad 55), .inl (0, 108, .inl he)), ((ad 56), .inl (0, 108, .inl nx)), ((ad 57), .inl (0, 108, .inl mtt)), ((ad 58), .inl (0, 108, .inl fz)), ((ad 59), .inl (2, 108, .inl ic)), ((ad 60), .inl (0, 108, .inl (fun k => nI (qn k)))), ((ad 61), .inl (0, 108, .inl gp)), (its, .inl (1, 108, .inl f_i)), (nb, .inl (0, 5, .inl f_n)), (q124, .inl (0, 6, .inl (upd mdf 4 (pE4 w_mg)))), (q129, .inl (3, 4, .inr (.inl mg9)))] kc ks := by
  subst hx
  refine y_aload_n d_Mm_pour_365 rfl 8 rfl ?_
  refine y_aload_n d_Mm_pour_366 rfl 7 rfl ?_
  refine y_iload d_Mm_pour_367 4 rfl ?_
  refine y_iload_n d_Mm_pour_369 rfl 5 rfl ?_
  refine y_icmp_ge (tgt := 377) d_Mm_pour_370 (by decide) (fun c_370 => ?_) (fun c_370 => ?_)
  · refine y_iconst d_Mm_pour_377 (v := 0) (by decide) ?_
    refine y_lv (lv' := [(10, .int (pE10 mg9 tk w_mg)), (8, .int (pE8 f_n)), (6, .ref q129), (5, .ref q124), (4, .int tk), (3, .int wt), (2, .ref nb), (1, .ref its), (0, .ref (ad 52))]) [0, 1, 2, 3, 4, 5, 6, 7, 8] rfl ?_
    exact Jx6_pour g w_th w_pt w_cl w_wa w_co_ w_fi w_bu w_ho w_lh w_mg w_wd w_fpi w_fal w_po w_de fl he nx mtt fz ic gp f_i f_n mif mdf qn gr9 mg9 its nb q124 q129 p_n tk wt hT hch_i hg_i h0_n hp_n hv_i sh hsh _ ((by rw [decide_eq_false (Int32.not_lt.mpr c_370)]; rfl)) K
  · refine y_iconst d_Mm_pour_373 (v := 1) (by decide) ?_
    refine y_goto (tgt := 378) d_Mm_pour_374 (by decide) ?_
    refine y_lv (lv' := [(10, .int (pE10 mg9 tk w_mg)), (8, .int (pE8 f_n)), (6, .ref q129), (5, .ref q124), (4, .int tk), (3, .int wt), (2, .ref nb), (1, .ref its), (0, .ref (ad 52))]) [0, 1, 2, 3, 4, 5, 6, 7, 8] rfl ?_
    exact Jx6_pour g w_th w_pt w_cl w_wa w_co_ w_fi w_bu w_ho w_lh w_mg w_wd w_fpi w_fal w_po w_de fl he nx mtt fz ic gp f_i f_n mif mdf qn gr9 mg9 its nb q124 q129 p_n tk wt hT hch_i hg_i h0_n hp_n hv_i sh hsh _ ((by rw [decide_eq_true (Int32.not_le.mp c_370)]; rfl)) K
theorem d_Mm_pour_351 : decode prog_14_method_77_code 351 = .ok (.istore 10, 2) := by decide +kernel
theorem d_Mm_pour_353 : decode prog_14_method_77_code 353 = .ok (.aload 5, 2) := by decide +kernel
theorem d_Mm_pour_355 : decode prog_14_method_77_code 355 = .ok (.iconst 3, 1) := by decide +kernel
theorem d_Mm_pour_356 : decode prog_14_method_77_code 356 = .ok (.iaload, 1) := by decide +kernel
theorem d_Mm_pour_357 : decode prog_14_method_77_code 357 = .ok (.ifCond .le 7, 3) := by decide +kernel
theorem d_Mm_pour_364 : decode prog_14_method_77_code 364 = .ok (.iconst 0, 1) := by decide +kernel
theorem d_Mm_pour_360 : decode prog_14_method_77_code 360 = .ok (.iconst 1, 1) := by decide +kernel
theorem d_Mm_pour_361 : decode prog_14_method_77_code 361 = .ok (.goto 4, 3) := by decide +kernel
set_option maxHeartbeats 4000000 in
set_option maxRecDepth 100000 in
theorem Jx4_pour (g : zG) {Ψ : zO → zW → Prop} {w0 : zW} {n kc ks : Nat} {ad : Nat → Nat} (w_th w_pt w_cl w_wa w_co_ w_fi w_bu w_ho w_lh w_mg w_wd w_fpi w_fal : Int32) (w_po w_de : Int64) (fl he nx mtt fz ic gp f_i f_n mif mdf : Nat → Int32) (qn : Nat → Nat) (gr9 mg9 : Nat → Int64) (its nb q124 q129 p_n : Nat) (tk wt : Int32) (hT : ¬ tk = 0) (hch_i : z_ch f_i) (hg_i : ¬ fa_cnt (fun k => decide (f_i k = 103)) 12 = 0) (h0_n : f_n 0 = nI p_n) (hp_n : 1 ≤ p_n ∧ p_n < 9) (hv_i : vlA f_i fl) (sh : Int32) (hsh : mdf 3 = sh) (x10 : Int32) (hx10 : x10 = (pE10 mg9 tk w_mg)) (K : ∀ (gp : Nat → Int32) (qn : Nat → Nat), DU g M_Mm_pour Ψ w0 n 461 [(11, .int (pfF f_i f_n p_n mg9 tk w_mg sh (icQ f_i fl w_lh (decide (tk < wt)) 108))), (6, .ref q129), (5, .ref q124), (0, .ref (ad 52))] [] [((ad 52), .inr (12, [.int w_th, .ref (ad 53), .int w_pt, .ref (ad 54), .ref (ad 55), .ref (ad 56), .ref (ad 57), .ref (ad 58), .ref (ad 59), .ref (ad 60), .ref (ad 61), .int w_cl, .int w_wa, .int w_co_, .int w_fi, .int w_bu, .int w_ho, .ref (ad 62), .ref (ad 63), .ref (ad 64), .int w_lh, .int w_mg, .int w_wd, .int w_fpi, .int w_fal, .ref (ad 65), .ref (ad 66), .ref (ad 67), .ref (ad 68), .long w_po, .long w_de])), ((ad 63), .inl (0, 4, .inl mif)), ((ad 64), .inl (3, 16, .inr (.inl gr9))), ((ad 54), .inl (0, 108, .inl fl)), ((ad 55), .inl (0, 108, .inl he)), ((ad 56), .inl (0, 108, .inl nx)), ((ad 57), .inl (0, 108, .inl mtt)), ((ad 58), .inl (0, 108, .inl fz)), ((ad 59), .inl (2, 108, .inl ic)), ((ad 60), .inl (0, 108, .inl (fun k => nI (qn k)))), ((ad 61), .inl (0, 108, .inl gp)), (its, .inl (1, 108, .inl f_i)), (nb, .inl (0, 5, .inl f_n)), (q124, .inl (0, 6, .inl (upd mdf 4 (pE4 w_mg)))), (q129, .inl (3, 4, .inr (.inl mg9)))] kc ks) : DU g M_Mm_pour Ψ w0 n 351 [(8, .int (pE8 f_n)), (6, .ref q129), (5, .ref q124), (4, .int tk), (3, .int wt), (2, .ref nb), (1, .ref its), (0, .ref (ad 52))] [.int x10] [((ad 52), .inr (12, [.int w_th, .ref (ad 53), .int w_pt, .ref (ad 54), .ref (ad 55), .ref (ad 56), .ref (ad 57), .ref (ad 58), .ref (ad 59), .ref (ad 60), .ref (ad 61), .int w_cl, .int w_wa, .int w_co_, .int w_fi, .int w_bu, .int w_ho, .ref (ad 62), .ref (ad 63), .ref (ad 64), .int w_lh, .int w_mg, .int w_wd, .int w_fpi, .int w_fal, .ref (ad 65), .ref (ad 66), .ref (ad 67), .ref (ad 68), .long w_po, .long w_de])), ((ad 63), .inl (0, 4, .inl mif)), ((ad 64), .inl (3, 16, .inr (.inl gr9))), ((ad 54), .inl (0, 108, .inl fl)), ((ad 55), .inl (0, 108, .inl he)), ((ad 56), .inl (0, 108, .inl nx)), ((ad 57), .inl (0, 108, .inl mtt)), ((ad 58), .inl (0, 108, .inl fz)), ((ad 59), .inl (2, 108, .inl ic)), ((ad 60), .inl (0, 108, .inl (fun k => nI (qn k)))), ((ad 61), .inl (0, 108, .inl gp)), (its, .inl (1, 108, .inl f_i)), (nb, .inl (0, 5, .inl f_n)), (q124, .inl (0, 6, .inl (upd mdf 4 (pE4 w_mg)))), (q129, .inl (3, 4, .inr (.inl mg9)))] kc ks := by
  subst hx10
  refine y_istore (lv' := [(10, .int (pE10 mg9 tk w_mg)), (8, .int (pE8 f_n)), (6, .ref q129), (5, .ref q124), (4, .int tk), (3, .int wt), (2, .ref nb), (1, .ref its), (0, .ref (ad 52))]) d_Mm_pour_351 (by decide) rfl ?_
  refine y_aload d_Mm_pour_353 3 rfl ?_
  refine y_iconst d_Mm_pour_355 (v := 3) (by decide) ?_
  refine y_iald d_Mm_pour_356 (q0 := 13) rfl (fun q => q.elim (by decide) (by decide)) (v := sh) (show upd mdf 4 (pE4 w_mg) 3 = sh from (upd_ne (by decide)).trans hsh) ?_
  refine y_if_le (tgt := 364) d_Mm_pour_357 (by decide) (fun c_357 => ?_) (fun c_357 => ?_)
  · refine y_iconst d_Mm_pour_364 (v := 0) (by decide) ?_
    refine y_lv (lv' := [(10, .int (pE10 mg9 tk w_mg)), (8, .int (pE8 f_n)), (6, .ref q129), (5, .ref q124), (4, .int tk), (3, .int wt), (2, .ref nb), (1, .ref its), (0, .ref (ad 52))]) [0, 1, 2, 3, 4, 5, 6, 7, 8] rfl ?_
    exact Jx5_pour g w_th w_pt w_cl w_wa w_co_ w_fi w_bu w_ho w_lh w_mg w_wd w_fpi w_fal w_po w_de fl he nx mtt fz ic gp f_i f_n mif mdf qn gr9 mg9 its nb q124 q129 p_n tk wt hT hch_i hg_i h0_n hp_n hv_i sh hsh _ (Eq.symm (if_pos (show sh ≤ 0 from c_357))) K
  · refine y_iconst d_Mm_pour_360 (v := 1) (by decide) ?_
    refine y_goto (tgt := 365) d_Mm_pour_361 (by decide) ?_
    refine y_lv (lv' := [(10, .int (pE10 mg9 tk w_mg)), (8, .int (pE8 f_n)), (6, .ref q129), (5, .ref q124), (4, .int tk), (3, .int wt), (2, .ref nb), (1, .ref its), (0, .ref (ad 52))]) [0, 1, 2, 3, 4, 5, 6, 7, 8] rfl ?_
    exact Jx5_pour g w_th w_pt w_cl w_wa w_co_ w_fi w_bu w_ho w_lh w_mg w_wd w_fpi w_fal w_po w_de fl he nx mtt fz ic gp f_i f_n mif mdf qn gr9 mg9 its nb q124 q129 p_n tk wt hT hch_i hg_i h0_n hp_n hv_i sh hsh _ (Eq.symm (if_neg (show ¬ sh ≤ 0 from c_357))) K
theorem d_Mm_pour_292 : decode prog_14_method_77_code 292 = .ok (.istore 8, 2) := by decide +kernel
theorem d_Mm_pour_294 : decode prog_14_method_77_code 294 = .ok (.aload 6, 2) := by decide +kernel
theorem d_Mm_pour_296 : decode prog_14_method_77_code 296 = .ok (.iconst 0, 1) := by decide +kernel
theorem d_Mm_pour_297 : decode prog_14_method_77_code 297 = .ok (.laload, 1) := by decide +kernel
theorem d_Mm_pour_298 : decode prog_14_method_77_code 298 = .ok (.ldc2_w 244, 3) := by decide +kernel
theorem d_Mm_pour_301 : decode prog_14_method_77_code 301 = .ok (.lmul, 1) := by decide +kernel
theorem d_Mm_pour_302 : decode prog_14_method_77_code 302 = .ok (.iload 4, 2) := by decide +kernel
theorem d_Mm_pour_304 : decode prog_14_method_77_code 304 = .ok (.i2l, 1) := by decide +kernel
theorem d_Mm_pour_305 : decode prog_14_method_77_code 305 = .ok (.ldiv, 1) := by decide +kernel
theorem d_Mm_pour_306 : decode prog_14_method_77_code 306 = .ok (.l2i, 1) := by decide +kernel
theorem d_Mm_pour_307 : decode prog_14_method_77_code 307 = .ok (.aload 6, 2) := by decide +kernel
theorem d_Mm_pour_309 : decode prog_14_method_77_code 309 = .ok (.iconst 1, 1) := by decide +kernel
theorem d_Mm_pour_310 : decode prog_14_method_77_code 310 = .ok (.laload, 1) := by decide +kernel
theorem d_Mm_pour_311 : decode prog_14_method_77_code 311 = .ok (.ldc2_w 244, 3) := by decide +kernel
theorem d_Mm_pour_314 : decode prog_14_method_77_code 314 = .ok (.lmul, 1) := by decide +kernel
theorem d_Mm_pour_315 : decode prog_14_method_77_code 315 = .ok (.iload 4, 2) := by decide +kernel
theorem d_Mm_pour_317 : decode prog_14_method_77_code 317 = .ok (.i2l, 1) := by decide +kernel
theorem d_Mm_pour_318 : decode prog_14_method_77_code 318 = .ok (.ldiv, 1) := by decide +kernel
theorem d_Mm_pour_319 : decode prog_14_method_77_code 319 = .ok (.l2i, 1) := by decide +kernel
theorem d_Mm_pour_320 : decode prog_14_method_77_code 320 = .ok (.iconst 3, 1) := by decide +kernel
theorem d_Mm_pour_321 : decode prog_14_method_77_code 321 = .ok (.idiv, 1) := by decide +kernel
theorem d_Mm_pour_322 : decode prog_14_method_77_code 322 = .ok (.iadd, 1) := by decide +kernel
theorem d_Mm_pour_323 : decode prog_14_method_77_code 323 = .ok (.istore 9, 2) := by decide +kernel
theorem d_Mm_pour_325 : decode prog_14_method_77_code 325 = .ok (.iload 9, 2) := by decide +kernel
theorem d_Mm_pour_327 : decode prog_14_method_77_code 327 = .ok (.sipush 370, 3) := by decide +kernel
theorem d_Mm_pour_330 : decode prog_14_method_77_code 330 = .ok (.if_icmp .lt 16, 3) := by decide +kernel
theorem d_Mm_pour_346 : decode prog_14_method_77_code 346 = .ok (.iconst 1, 1) := by decide +kernel
theorem d_Mm_pour_347 : decode prog_14_method_77_code 347 = .ok (.goto 4, 3) := by decide +kernel
theorem d_Mm_pour_333 : decode prog_14_method_77_code 333 = .ok (.aload_n 0, 1) := by decide +kernel
theorem d_Mm_pour_334 : decode prog_14_method_77_code 334 = .ok (.getfield 260, 3) := by decide +kernel
theorem d_Mm_pour_337 : decode prog_14_method_77_code 337 = .ok (.iconst 1, 1) := by decide +kernel
theorem d_Mm_pour_338 : decode prog_14_method_77_code 338 = .ok (.bipush 19, 2) := by decide +kernel
theorem d_Mm_pour_340 : decode prog_14_method_77_code 340 = .ok (.invokestatic 87, 3) := by decide +kernel
theorem ok_Mm_pour_Mm_in : z_ok M_Mm_pour M_Mm_in 3 := ⟨z_mj7 (i := 190) rfl (by decide +kernel), rfl, ⟨by decide +kernel, by decide +kernel, by decide +kernel⟩, ⟨by decide, by decide⟩, z_mj1 (i := 14) rfl (by decide +kernel), rfl⟩
theorem d_Mm_pour_343 : decode prog_14_method_77_code 343 = .ok (.ifCond .eq 7, 3) := by decide +kernel
theorem d_Mm_pour_350 : decode prog_14_method_77_code 350 = .ok (.iconst 0, 1) := by decide +kernel
set_option maxHeartbeats 4000000 in
set_option maxRecDepth 100000 in
theorem Jx3_pour (g : zG) {Ψ : zO → zW → Prop} {w0 : zW} {n kc ks : Nat} {ad : Nat → Nat} (w_th w_pt w_cl w_wa w_co_ w_fi w_bu w_ho w_lh w_mg w_wd w_fpi w_fal : Int32) (w_po w_de : Int64) (fl he nx mtt fz ic gp f_i f_n mif mdf : Nat → Int32) (qn : Nat → Nat) (gr9 mg9 : Nat → Int64) (its nb q124 q129 p_n : Nat) (tk wt : Int32) (hT : ¬ tk = 0) (hch_i : z_ch f_i) (hg_i : ¬ fa_cnt (fun k => decide (f_i k = 103)) 12 = 0) (h0_n : f_n 0 = nI p_n) (hp_n : 1 ≤ p_n ∧ p_n < 9) (hv_i : vlA f_i fl) (sh : Int32) (hsh : mdf 3 = sh) (x8 : Int32) (hx8 : x8 = (pE8 f_n)) (K : ∀ (gp : Nat → Int32) (qn : Nat → Nat), DU g M_Mm_pour Ψ w0 n 461 [(11, .int (pfF f_i f_n p_n mg9 tk w_mg sh (icQ f_i fl w_lh (decide (tk < wt)) 108))), (6, .ref q129), (5, .ref q124), (0, .ref (ad 52))] [] [((ad 52), .inr (12, [.int w_th, .ref (ad 53), .int w_pt, .ref (ad 54), .ref (ad 55), .ref (ad 56), .ref (ad 57), .ref (ad 58), .ref (ad 59), .ref (ad 60), .ref (ad 61), .int w_cl, .int w_wa, .int w_co_, .int w_fi, .int w_bu, .int w_ho, .ref (ad 62), .ref (ad 63), .ref (ad 64), .int w_lh, .int w_mg, .int w_wd, .int w_fpi, .int w_fal, .ref (ad 65), .ref (ad 66), .ref (ad 67), .ref (ad 68), .long w_po, .long w_de])), ((ad 63), .inl (0, 4, .inl mif)), ((ad 64), .inl (3, 16, .inr (.inl gr9))), ((ad 54), .inl (0, 108, .inl fl)), ((ad 55), .inl (0, 108, .inl he)), ((ad 56), .inl (0, 108, .inl nx)), ((ad 57), .inl (0, 108, .inl mtt)), ((ad 58), .inl (0, 108, .inl fz)), ((ad 59), .inl (2, 108, .inl ic)), ((ad 60), .inl (0, 108, .inl (fun k => nI (qn k)))), ((ad 61), .inl (0, 108, .inl gp)), (its, .inl (1, 108, .inl f_i)), (nb, .inl (0, 5, .inl f_n)), (q124, .inl (0, 6, .inl (upd mdf 4 (pE4 w_mg)))), (q129, .inl (3, 4, .inr (.inl mg9)))] kc ks) : DU g M_Mm_pour Ψ w0 n 292 [(6, .ref q129), (5, .ref q124), (4, .int tk), (3, .int wt), (2, .ref nb), (1, .ref its), (0, .ref (ad 52))] [.int x8] [((ad 52), .inr (12, [.int w_th, .ref (ad 53), .int w_pt, .ref (ad 54), .ref (ad 55), .ref (ad 56), .ref (ad 57), .ref (ad 58), .ref (ad 59), .ref (ad 60), .ref (ad 61), .int w_cl, .int w_wa, .int w_co_, .int w_fi, .int w_bu, .int w_ho, .ref (ad 62), .ref (ad 63), .ref (ad 64), .int w_lh, .int w_mg, .int w_wd, .int w_fpi, .int w_fal, .ref (ad 65), .ref (ad 66), .ref (ad 67), .ref (ad 68), .long w_po, .long w_de])), ((ad 63), .inl (0, 4, .inl mif)), ((ad 64), .inl (3, 16, .inr (.inl gr9))), ((ad 54), .inl (0, 108, .inl fl)), ((ad 55), .inl (0, 108, .inl he)), ((ad 56), .inl (0, 108, .inl nx)), ((ad 57), .inl (0, 108, .inl mtt)), ((ad 58), .inl (0, 108, .inl fz)), ((ad 59), .inl (2, 108, .inl ic)), ((ad 60), .inl (0, 108, .inl (fun k => nI (qn k)))), ((ad 61), .inl (0, 108, .inl gp)), (its, .inl (1, 108, .inl f_i)), (nb, .inl (0, 5, .inl f_n)), (q124, .inl (0, 6, .inl (upd mdf 4 (pE4 w_mg)))), (q129, .inl (3, 4, .inr (.inl mg9)))] kc ks := by
  subst hx8
  refine y_istore (lv' := [(8, .int (pE8 f_n)), (6, .ref q129), (5, .ref q124), (4, .int tk), (3, .int wt), (2, .ref nb), (1, .ref its), (0, .ref (ad 52))]) d_Mm_pour_292 (by decide) rfl ?_
  refine y_aload d_Mm_pour_294 1 rfl ?_
  refine y_iconst d_Mm_pour_296 (v := 0) (by decide) ?_
  refine y_lald d_Mm_pour_297 (q0 := 14) rfl (fun q => q.elim (by decide) (by decide)) (v := mg9 0) rfl ?_
  refine y_ldc2 ct_Mm_244 d_Mm_pour_298 ?_
  refine y_lmul d_Mm_pour_301 (v := (mg9 0) * 10) rfl ?_
  refine y_iload d_Mm_pour_302 3 rfl ?_
  refine y_i2l d_Mm_pour_304 (v := tk.toInt64) rfl ?_
  refine y_ldiv d_Mm_pour_305 (v := ((mg9 0) * 10) / tk.toInt64) (z_l0 hT) rfl ?_
  refine y_l2i d_Mm_pour_306 (v := (((mg9 0) * 10) / tk.toInt64).toInt32) rfl ?_
  refine y_aload d_Mm_pour_307 1 rfl ?_
  refine y_iconst d_Mm_pour_309 (v := 1) (by decide) ?_
  refine y_lald d_Mm_pour_310 (q0 := 14) rfl (fun q => q.elim (by decide) (by decide)) (v := mg9 1) rfl ?_
  refine y_ldc2 ct_Mm_244 d_Mm_pour_311 ?_
  refine y_lmul d_Mm_pour_314 (v := (mg9 1) * 10) rfl ?_
  refine y_iload d_Mm_pour_315 3 rfl ?_
  refine y_i2l d_Mm_pour_317 (v := tk.toInt64) rfl ?_
  refine y_ldiv d_Mm_pour_318 (v := ((mg9 1) * 10) / tk.toInt64) (z_l0 hT) rfl ?_
  refine y_l2i d_Mm_pour_319 (v := (((mg9 1) * 10) / tk.toInt64).toInt32) rfl ?_
  refine y_iconst d_Mm_pour_320 (v := 3) (by decide) ?_
  refine y_idiv d_Mm_pour_321 (v := ((((mg9 1) * 10) / tk.toInt64).toInt32) / 3) (by decide) rfl ?_
  refine y_iadd d_Mm_pour_322 (v := pE9 mg9 tk) rfl ?_
  refine y_istore (lv' := [(9, .int (pE9 mg9 tk)), (8, .int (pE8 f_n)), (6, .ref q129), (5, .ref q124), (4, .int tk), (3, .int wt), (2, .ref nb), (1, .ref its), (0, .ref (ad 52))]) d_Mm_pour_323 (by decide) rfl ?_
  refine y_iload d_Mm_pour_325 0 rfl ?_
  refine y_sipush d_Mm_pour_327 (v := 370) (by decide) ?_
  refine y_icmp_lt (tgt := 346) d_Mm_pour_330 (by decide) (fun c_330 => ?_) (fun c_330 => ?_)
  · refine y_iconst d_Mm_pour_346 (v := 1) (by decide) ?_
    refine y_goto (tgt := 351) d_Mm_pour_347 (by decide) ?_
    refine y_lv (lv' := [(8, .int (pE8 f_n)), (6, .ref q129), (5, .ref q124), (4, .int tk), (3, .int wt), (2, .ref nb), (1, .ref its), (0, .ref (ad 52))]) [1, 2, 3, 4, 5, 6, 7, 8] rfl ?_
    exact Jx4_pour g w_th w_pt w_cl w_wa w_co_ w_fi w_bu w_ho w_lh w_mg w_wd w_fpi w_fal w_po w_de fl he nx mtt fz ic gp f_i f_n mif mdf qn gr9 mg9 its nb q124 q129 p_n tk wt hT hch_i hg_i h0_n hp_n hv_i sh hsh _ (by first | exact Eq.symm (if_pos (Or.inl c_330)) | exact Eq.symm (if_pos (Or.inr (z_b0n c_343)))) K
  · refine y_aload_n d_Mm_pour_333 rfl 8 rfl ?_
    refine y_get fs_Mm_260 d_Mm_pour_334 (q0 := 0) rfl rfl ?_
    refine y_iconst d_Mm_pour_337 (v := 1) (by decide) ?_
    refine y_bipush d_Mm_pour_338 (v := 19) (by decide) ?_
    refine y_callS (As := [.int w_mg, .int 1, .int 19]) (rest := []) (csC := []) (is := []) ln_Mm_87 w_st_Mm_in ok_Mm_pour_Mm_in d_Mm_pour_340 (C_Mm_in g w_mg 1 19) rfl rfl (Nat.le_of_ble_eq_true rfl) rfl (by decide) (by omega) (by omega) (fun E cs1 hx => ?_) (fun v cs1 hx => ?_)
    · exact absurd hx.1 (by simp)
    · obtain ⟨e1, rfl⟩ := hx
      cases e1
      refine ⟨rfl, ?_⟩
      refine y_st (st2 := [.int (if 1 ≤ w_mg ∧ w_mg ≤ 19 then 1 else 0)]) rfl ?_
      refine y_cs (cs2 := [((ad 52), .inr (12, [.int w_th, .ref (ad 53), .int w_pt, .ref (ad 54), .ref (ad 55), .ref (ad 56), .ref (ad 57), .ref (ad 58), .ref (ad 59), .ref (ad 60), .ref (ad 61), .int w_cl, .int w_wa, .int w_co_, .int w_fi, .int w_bu, .int w_ho, .ref (ad 62), .ref (ad 63), .ref (ad 64), .int w_lh, .int w_mg, .int w_wd, .int w_fpi, .int w_fal, .ref (ad 65), .ref (ad 66), .ref (ad 67), .ref (ad 68), .long w_po, .long w_de])), ((ad 63), .inl (0, 4, .inl mif)), ((ad 64), .inl (3, 16, .inr (.inl gr9))), ((ad 54), .inl (0, 108, .inl fl)), ((ad 55), .inl (0, 108, .inl he)), ((ad 56), .inl (0, 108, .inl nx)), ((ad 57), .inl (0, 108, .inl mtt)), ((ad 58), .inl (0, 108, .inl fz)), ((ad 59), .inl (2, 108, .inl ic)), ((ad 60), .inl (0, 108, .inl (fun k => nI (qn k)))), ((ad 61), .inl (0, 108, .inl gp)), (its, .inl (1, 108, .inl f_i)), (nb, .inl (0, 5, .inl f_n)), (q124, .inl (0, 6, .inl (upd mdf 4 (pE4 w_mg)))), (q129, .inl (3, 4, .inr (.inl mg9)))]) rfl ?_
      refine y_if_eq (tgt := 350) d_Mm_pour_343 (by decide) (fun c_343 => ?_) (fun c_343 => ?_)
      · refine y_iconst d_Mm_pour_350 (v := 0) (by decide) ?_
        refine y_lv (lv' := [(8, .int (pE8 f_n)), (6, .ref q129), (5, .ref q124), (4, .int tk), (3, .int wt), (2, .ref nb), (1, .ref its), (0, .ref (ad 52))]) [1, 2, 3, 4, 5, 6, 7, 8] rfl ?_
        exact Jx4_pour g w_th w_pt w_cl w_wa w_co_ w_fi w_bu w_ho w_lh w_mg w_wd w_fpi w_fal w_po w_de fl he nx mtt fz ic gp f_i f_n mif mdf qn gr9 mg9 its nb q124 q129 p_n tk wt hT hch_i hg_i h0_n hp_n hv_i sh hsh _ (Eq.symm (if_neg (fun q => q.elim c_330 (fun e => absurd c_343 (by rw [if_pos e]; decide))))) K
      · refine y_iconst d_Mm_pour_346 (v := 1) (by decide) ?_
        refine y_goto (tgt := 351) d_Mm_pour_347 (by decide) ?_
        refine y_lv (lv' := [(8, .int (pE8 f_n)), (6, .ref q129), (5, .ref q124), (4, .int tk), (3, .int wt), (2, .ref nb), (1, .ref its), (0, .ref (ad 52))]) [1, 2, 3, 4, 5, 6, 7, 8] rfl ?_
        exact Jx4_pour g w_th w_pt w_cl w_wa w_co_ w_fi w_bu w_ho w_lh w_mg w_wd w_fpi w_fal w_po w_de fl he nx mtt fz ic gp f_i f_n mif mdf qn gr9 mg9 its nb q124 q129 p_n tk wt hT hch_i hg_i h0_n hp_n hv_i sh hsh _ (by first | exact Eq.symm (if_pos (Or.inl c_330)) | exact Eq.symm (if_pos (Or.inr (z_b0n c_343)))) K
theorem d_Mm_pour_262 : decode prog_14_method_77_code 262 = .ok (.iastore, 1) := by decide +kernel
theorem d_Mm_pour_263 : decode prog_14_method_77_code 263 = .ok (.aload_n 2, 1) := by decide +kernel
theorem d_Mm_pour_264 : decode prog_14_method_77_code 264 = .ok (.iconst 2, 1) := by decide +kernel
theorem d_Mm_pour_265 : decode prog_14_method_77_code 265 = .ok (.iaload, 1) := by decide +kernel
theorem d_Mm_pour_266 : decode prog_14_method_77_code 266 = .ok (.bipush 80, 2) := by decide +kernel
theorem d_Mm_pour_268 : decode prog_14_method_77_code 268 = .ok (.if_icmp .ge 11, 3) := by decide +kernel
theorem d_Mm_pour_279 : decode prog_14_method_77_code 279 = .ok (.aload_n 2, 1) := by decide +kernel
theorem d_Mm_pour_280 : decode prog_14_method_77_code 280 = .ok (.iconst 4, 1) := by decide +kernel
theorem d_Mm_pour_281 : decode prog_14_method_77_code 281 = .ok (.iaload, 1) := by decide +kernel
theorem d_Mm_pour_282 : decode prog_14_method_77_code 282 = .ok (.bipush 60, 2) := by decide +kernel
theorem d_Mm_pour_284 : decode prog_14_method_77_code 284 = .ok (.if_icmp .le 7, 3) := by decide +kernel
theorem d_Mm_pour_291 : decode prog_14_method_77_code 291 = .ok (.iconst 0, 1) := by decide +kernel
theorem d_Mm_pour_287 : decode prog_14_method_77_code 287 = .ok (.iconst 1, 1) := by decide +kernel
theorem d_Mm_pour_288 : decode prog_14_method_77_code 288 = .ok (.goto 4, 3) := by decide +kernel
theorem d_Mm_pour_271 : decode prog_14_method_77_code 271 = .ok (.aload_n 2, 1) := by decide +kernel
theorem d_Mm_pour_272 : decode prog_14_method_77_code 272 = .ok (.iconst 3, 1) := by decide +kernel
theorem d_Mm_pour_273 : decode prog_14_method_77_code 273 = .ok (.iaload, 1) := by decide +kernel
theorem d_Mm_pour_274 : decode prog_14_method_77_code 274 = .ok (.bipush 40, 2) := by decide +kernel
theorem d_Mm_pour_276 : decode prog_14_method_77_code 276 = .ok (.if_icmp .gt 11, 3) := by decide +kernel
set_option maxHeartbeats 4000000 in
set_option maxRecDepth 100000 in
theorem Jx2_pour (g : zG) {Ψ : zO → zW → Prop} {w0 : zW} {n kc ks : Nat} {ad : Nat → Nat} (w_th w_pt w_cl w_wa w_co_ w_fi w_bu w_ho w_lh w_mg w_wd w_fpi w_fal : Int32) (w_po w_de : Int64) (fl he nx mtt fz ic gp f_i f_n mif mdf : Nat → Int32) (qn : Nat → Nat) (gr9 mg9 : Nat → Int64) (its nb q124 q129 p_n : Nat) (tk wt : Int32) (hT : ¬ tk = 0) (hch_i : z_ch f_i) (hg_i : ¬ fa_cnt (fun k => decide (f_i k = 103)) 12 = 0) (h0_n : f_n 0 = nI p_n) (hp_n : 1 ≤ p_n ∧ p_n < 9) (hv_i : vlA f_i fl) (sh : Int32) (hsh : mdf 3 = sh) (x4 : Int32) (hx4 : x4 = (pE4 w_mg)) (K : ∀ (gp : Nat → Int32) (qn : Nat → Nat), DU g M_Mm_pour Ψ w0 n 461 [(11, .int (pfF f_i f_n p_n mg9 tk w_mg sh (icQ f_i fl w_lh (decide (tk < wt)) 108))), (6, .ref q129), (5, .ref q124), (0, .ref (ad 52))] [] [((ad 52), .inr (12, [.int w_th, .ref (ad 53), .int w_pt, .ref (ad 54), .ref (ad 55), .ref (ad 56), .ref (ad 57), .ref (ad 58), .ref (ad 59), .ref (ad 60), .ref (ad 61), .int w_cl, .int w_wa, .int w_co_, .int w_fi, .int w_bu, .int w_ho, .ref (ad 62), .ref (ad 63), .ref (ad 64), .int w_lh, .int w_mg, .int w_wd, .int w_fpi, .int w_fal, .ref (ad 65), .ref (ad 66), .ref (ad 67), .ref (ad 68), .long w_po, .long w_de])), ((ad 63), .inl (0, 4, .inl mif)), ((ad 64), .inl (3, 16, .inr (.inl gr9))), ((ad 54), .inl (0, 108, .inl fl)), ((ad 55), .inl (0, 108, .inl he)), ((ad 56), .inl (0, 108, .inl nx)), ((ad 57), .inl (0, 108, .inl mtt)), ((ad 58), .inl (0, 108, .inl fz)), ((ad 59), .inl (2, 108, .inl ic)), ((ad 60), .inl (0, 108, .inl (fun k => nI (qn k)))), ((ad 61), .inl (0, 108, .inl gp)), (its, .inl (1, 108, .inl f_i)), (nb, .inl (0, 5, .inl f_n)), (q124, .inl (0, 6, .inl (upd mdf 4 (pE4 w_mg)))), (q129, .inl (3, 4, .inr (.inl mg9)))] kc ks) : DU g M_Mm_pour Ψ w0 n 262 [(6, .ref q129), (5, .ref q124), (4, .int tk), (3, .int wt), (2, .ref nb), (1, .ref its), (0, .ref (ad 52))] [.int x4, .int 4, .ref q124] [((ad 52), .inr (12, [.int w_th, .ref (ad 53), .int w_pt, .ref (ad 54), .ref (ad 55), .ref (ad 56), .ref (ad 57), .ref (ad 58), .ref (ad 59), .ref (ad 60), .ref (ad 61), .int w_cl, .int w_wa, .int w_co_, .int w_fi, .int w_bu, .int w_ho, .ref (ad 62), .ref (ad 63), .ref (ad 64), .int w_lh, .int w_mg, .int w_wd, .int w_fpi, .int w_fal, .ref (ad 65), .ref (ad 66), .ref (ad 67), .ref (ad 68), .long w_po, .long w_de])), ((ad 63), .inl (0, 4, .inl mif)), ((ad 64), .inl (3, 16, .inr (.inl gr9))), ((ad 54), .inl (0, 108, .inl fl)), ((ad 55), .inl (0, 108, .inl he)), ((ad 56), .inl (0, 108, .inl nx)), ((ad 57), .inl (0, 108, .inl mtt)), ((ad 58), .inl (0, 108, .inl fz)), ((ad 59), .inl (2, 108, .inl ic)), ((ad 60), .inl (0, 108, .inl (fun k => nI (qn k)))), ((ad 61), .inl (0, 108, .inl gp)), (its, .inl (1, 108, .inl f_i)), (nb, .inl (0, 5, .inl f_n)), (q124, .inl (0, 6, .inl mdf)), (q129, .inl (3, 4, .inr (.inl mg9)))] kc ks := by
  subst hx4
  refine y_iast d_Mm_pour_262 (q0 := 13) rfl (fun q => q.elim (by decide) (by decide)) (f' := upd mdf 4 (pE4 w_mg)) rfl (cs' := [((ad 52), .inr (12, [.int w_th, .ref (ad 53), .int w_pt, .ref (ad 54), .ref (ad 55), .ref (ad 56), .ref (ad 57), .ref (ad 58), .ref (ad 59), .ref (ad 60), .ref (ad 61), .int w_cl, .int w_wa, .int w_co_, .int w_fi, .int w_bu, .int w_ho, .ref (ad 62), .ref (ad 63), .ref (ad 64), .int w_lh, .int w_mg, .int w_wd, .int w_fpi, .int w_fal, .ref (ad 65), .ref (ad 66), .ref (ad 67), .ref (ad 68), .long w_po, .long w_de])), ((ad 63), .inl (0, 4, .inl mif)), ((ad 64), .inl (3, 16, .inr (.inl gr9))), ((ad 54), .inl (0, 108, .inl fl)), ((ad 55), .inl (0, 108, .inl he)), ((ad 56), .inl (0, 108, .inl nx)), ((ad 57), .inl (0, 108, .inl mtt)), ((ad 58), .inl (0, 108, .inl fz)), ((ad 59), .inl (2, 108, .inl ic)), ((ad 60), .inl (0, 108, .inl (fun k => nI (qn k)))), ((ad 61), .inl (0, 108, .inl gp)), (its, .inl (1, 108, .inl f_i)), (nb, .inl (0, 5, .inl f_n)), (q124, .inl (0, 6, .inl (upd mdf 4 (pE4 w_mg)))), (q129, .inl (3, 4, .inr (.inl mg9)))]) rfl ?_
  refine y_aload_n d_Mm_pour_263 rfl 4 rfl ?_
  refine y_iconst d_Mm_pour_264 (v := 2) (by decide) ?_
  refine y_iald d_Mm_pour_265 (q0 := 12) rfl (fun q => q.elim (by decide) (by decide)) (v := f_n 2) rfl ?_
  refine y_bipush d_Mm_pour_266 (v := 80) (by decide) ?_
  refine y_icmp_ge (tgt := 279) d_Mm_pour_268 (by decide) (fun c_268 => ?_) (fun c_268 => ?_)
  · refine y_aload_n d_Mm_pour_279 rfl 4 rfl ?_
    refine y_iconst d_Mm_pour_280 (v := 4) (by decide) ?_
    refine y_iald d_Mm_pour_281 (q0 := 12) rfl (fun q => q.elim (by decide) (by decide)) (v := f_n 4) rfl ?_
    refine y_bipush d_Mm_pour_282 (v := 60) (by decide) ?_
    refine y_icmp_le (tgt := 291) d_Mm_pour_284 (by decide) (fun c_284 => ?_) (fun c_284 => ?_)
    · refine y_iconst d_Mm_pour_291 (v := 0) (by decide) ?_
      refine y_lv (lv' := [(6, .ref q129), (5, .ref q124), (4, .int tk), (3, .int wt), (2, .ref nb), (1, .ref its), (0, .ref (ad 52))]) [0, 1, 2, 3, 4, 5, 6] rfl ?_
      exact Jx3_pour g w_th w_pt w_cl w_wa w_co_ w_fi w_bu w_ho w_lh w_mg w_wd w_fpi w_fal w_po w_de fl he nx mtt fz ic gp f_i f_n mif mdf qn gr9 mg9 its nb q124 q129 p_n tk wt hT hch_i hg_i h0_n hp_n hv_i sh hsh _ (Eq.symm (if_neg (by first | exact (fun q => q.elim (fun e => absurd e.1 (Int32.not_lt.mpr c_268)) (fun e => absurd c_284 (Int32.not_le.mpr e))) | exact (fun q => q.elim (fun e => c_276 e.2) (fun e => absurd c_284 (Int32.not_le.mpr e)))))) K
    · refine y_iconst d_Mm_pour_287 (v := 1) (by decide) ?_
      refine y_goto (tgt := 292) d_Mm_pour_288 (by decide) ?_
      refine y_lv (lv' := [(6, .ref q129), (5, .ref q124), (4, .int tk), (3, .int wt), (2, .ref nb), (1, .ref its), (0, .ref (ad 52))]) [0, 1, 2, 3, 4, 5, 6] rfl ?_
      exact Jx3_pour g w_th w_pt w_cl w_wa w_co_ w_fi w_bu w_ho w_lh w_mg w_wd w_fpi w_fal w_po w_de fl he nx mtt fz ic gp f_i f_n mif mdf qn gr9 mg9 its nb q124 q129 p_n tk wt hT hch_i hg_i h0_n hp_n hv_i sh hsh _ (by first | exact Eq.symm (if_pos (Or.inl (And.intro (Int32.not_le.mp c_268) c_276))) | exact Eq.symm (if_pos (Or.inr (Int32.not_le.mp c_284)))) K
  · refine y_aload_n d_Mm_pour_271 rfl 4 rfl ?_
    refine y_iconst d_Mm_pour_272 (v := 3) (by decide) ?_
    refine y_iald d_Mm_pour_273 (q0 := 12) rfl (fun q => q.elim (by decide) (by decide)) (v := f_n 3) rfl ?_
    refine y_bipush d_Mm_pour_274 (v := 40) (by decide) ?_
    refine y_icmp_gt (tgt := 287) d_Mm_pour_276 (by decide) (fun c_276 => ?_) (fun c_276 => ?_)
    · refine y_iconst d_Mm_pour_287 (v := 1) (by decide) ?_
      refine y_goto (tgt := 292) d_Mm_pour_288 (by decide) ?_
      refine y_lv (lv' := [(6, .ref q129), (5, .ref q124), (4, .int tk), (3, .int wt), (2, .ref nb), (1, .ref its), (0, .ref (ad 52))]) [0, 1, 2, 3, 4, 5, 6] rfl ?_
      exact Jx3_pour g w_th w_pt w_cl w_wa w_co_ w_fi w_bu w_ho w_lh w_mg w_wd w_fpi w_fal w_po w_de fl he nx mtt fz ic gp f_i f_n mif mdf qn gr9 mg9 its nb q124 q129 p_n tk wt hT hch_i hg_i h0_n hp_n hv_i sh hsh _ (by first | exact Eq.symm (if_pos (Or.inl (And.intro (Int32.not_le.mp c_268) c_276))) | exact Eq.symm (if_pos (Or.inr (Int32.not_le.mp c_284)))) K
    · refine y_aload_n d_Mm_pour_279 rfl 4 rfl ?_
      refine y_iconst d_Mm_pour_280 (v := 4) (by decide) ?_
      refine y_iald d_Mm_pour_281 (q0 := 12) rfl (fun q => q.elim (by decide) (by decide)) (v := f_n 4) rfl ?_
      refine y_bipush d_Mm_pour_282 (v := 60) (by decide) ?_
      refine y_icmp_le (tgt := 291) d_Mm_pour_284 (by decide) (fun c_284 => ?_) (fun c_284 => ?_)
      · refine y_iconst d_Mm_pour_291 (v := 0) (by decide) ?_
        refine y_lv (lv' := [(6, .ref q129), (5, .ref q124), (4, .int tk), (3, .int wt), (2, .ref nb), (1, .ref its), (0, .ref (ad 52))]) [0, 1, 2, 3, 4, 5, 6] rfl ?_
        exact Jx3_pour g w_th w_pt w_cl w_wa w_co_ w_fi w_bu w_ho w_lh w_mg w_wd w_fpi w_fal w_po w_de fl he nx mtt fz ic gp f_i f_n mif mdf qn gr9 mg9 its nb q124 q129 p_n tk wt hT hch_i hg_i h0_n hp_n hv_i sh hsh _ (Eq.symm (if_neg (by first | exact (fun q => q.elim (fun e => absurd e.1 (Int32.not_lt.mpr c_268)) (fun e => absurd c_284 (Int32.not_le.mpr e))) | exact (fun q => q.elim (fun e => c_276 e.2) (fun e => absurd c_284 (Int32.not_le.mpr e)))))) K
      · refine y_iconst d_Mm_pour_287 (v := 1) (by decide) ?_
        refine y_goto (tgt := 292) d_Mm_pour_288 (by decide) ?_
        refine y_lv (lv' := [(6, .ref q129), (5, .ref q124), (4, .int tk), (3, .int wt), (2, .ref nb), (1, .ref its), (0, .ref (ad 52))]) [0, 1, 2, 3, 4, 5, 6] rfl ?_
        exact Jx3_pour g w_th w_pt w_cl w_wa w_co_ w_fi w_bu w_ho w_lh w_mg w_wd w_fpi w_fal w_po w_de fl he nx mtt fz ic gp f_i f_n mif mdf qn gr9 mg9 its nb q124 q129 p_n tk wt hT hch_i hg_i h0_n hp_n hv_i sh hsh _ (by first | exact Eq.symm (if_pos (Or.inl (And.intro (Int32.not_le.mp c_268) c_276))) | exact Eq.symm (if_pos (Or.inr (Int32.not_le.mp c_284)))) K
theorem d_Mm_pour_245 : decode prog_14_method_77_code 245 = .ok (.aload 5, 2) := by decide +kernel
theorem d_Mm_pour_247 : decode prog_14_method_77_code 247 = .ok (.iconst 4, 1) := by decide +kernel
theorem d_Mm_pour_248 : decode prog_14_method_77_code 248 = .ok (.aload_n 0, 1) := by decide +kernel
theorem d_Mm_pour_249 : decode prog_14_method_77_code 249 = .ok (.getfield 260, 3) := by decide +kernel
theorem d_Mm_pour_252 : decode prog_14_method_77_code 252 = .ok (.bipush 20, 2) := by decide +kernel
theorem d_Mm_pour_254 : decode prog_14_method_77_code 254 = .ok (.if_icmp .lt 7, 3) := by decide +kernel
theorem d_Mm_pour_261 : decode prog_14_method_77_code 261 = .ok (.iconst 0, 1) := by decide +kernel
theorem d_Mm_pour_257 : decode prog_14_method_77_code 257 = .ok (.iconst 1, 1) := by decide +kernel
theorem d_Mm_pour_258 : decode prog_14_method_77_code 258 = .ok (.goto 4, 3) := by decide +kernel
set_option maxHeartbeats 4000000 in
set_option maxRecDepth 100000 in
theorem Jx1_pour (g : zG) {Ψ : zO → zW → Prop} {w0 : zW} {n kc ks : Nat} {ad : Nat → Nat} (w_th w_pt w_cl w_wa w_co_ w_fi w_bu w_ho w_lh w_mg w_wd w_fpi w_fal : Int32) (w_po w_de : Int64) (fl he nx mtt fz ic gp f_i f_n mif mdf : Nat → Int32) (qn : Nat → Nat) (gr9 mg9 : Nat → Int64) (its nb q124 q129 p_n : Nat) (tk wt : Int32) (hT : ¬ tk = 0) (hch_i : z_ch f_i) (hg_i : ¬ fa_cnt (fun k => decide (f_i k = 103)) 12 = 0) (h0_n : f_n 0 = nI p_n) (hp_n : 1 ≤ p_n ∧ p_n < 9) (hv_i : vlA f_i fl) (sh : Int32) (hsh : mdf 3 = sh) (K : ∀ (gp : Nat → Int32) (qn : Nat → Nat), DU g M_Mm_pour Ψ w0 n 461 [(11, .int (pfF f_i f_n p_n mg9 tk w_mg sh (icQ f_i fl w_lh (decide (tk < wt)) 108))), (6, .ref q129), (5, .ref q124), (0, .ref (ad 52))] [] [((ad 52), .inr (12, [.int w_th, .ref (ad 53), .int w_pt, .ref (ad 54), .ref (ad 55), .ref (ad 56), .ref (ad 57), .ref (ad 58), .ref (ad 59), .ref (ad 60), .ref (ad 61), .int w_cl, .int w_wa, .int w_co_, .int w_fi, .int w_bu, .int w_ho, .ref (ad 62), .ref (ad 63), .ref (ad 64), .int w_lh, .int w_mg, .int w_wd, .int w_fpi, .int w_fal, .ref (ad 65), .ref (ad 66), .ref (ad 67), .ref (ad 68), .long w_po, .long w_de])), ((ad 63), .inl (0, 4, .inl mif)), ((ad 64), .inl (3, 16, .inr (.inl gr9))), ((ad 54), .inl (0, 108, .inl fl)), ((ad 55), .inl (0, 108, .inl he)), ((ad 56), .inl (0, 108, .inl nx)), ((ad 57), .inl (0, 108, .inl mtt)), ((ad 58), .inl (0, 108, .inl fz)), ((ad 59), .inl (2, 108, .inl ic)), ((ad 60), .inl (0, 108, .inl (fun k => nI (qn k)))), ((ad 61), .inl (0, 108, .inl gp)), (its, .inl (1, 108, .inl f_i)), (nb, .inl (0, 5, .inl f_n)), (q124, .inl (0, 6, .inl (upd mdf 4 (pE4 w_mg)))), (q129, .inl (3, 4, .inr (.inl mg9)))] kc ks) : DU g M_Mm_pour Ψ w0 n 245 [(6, .ref q129), (5, .ref q124), (4, .int tk), (3, .int wt), (2, .ref nb), (1, .ref its), (0, .ref (ad 52))] [] [((ad 52), .inr (12, [.int w_th, .ref (ad 53), .int w_pt, .ref (ad 54), .ref (ad 55), .ref (ad 56), .ref (ad 57), .ref (ad 58), .ref (ad 59), .ref (ad 60), .ref (ad 61), .int w_cl, .int w_wa, .int w_co_, .int w_fi, .int w_bu, .int w_ho, .ref (ad 62), .ref (ad 63), .ref (ad 64), .int w_lh, .int w_mg, .int w_wd, .int w_fpi, .int w_fal, .ref (ad 65), .ref (ad 66), .ref (ad 67), .ref (ad 68), .long w_po, .long w_de])), ((ad 63), .inl (0, 4, .inl mif)), ((ad 64), .inl (3, 16, .inr (.inl gr9))), ((ad 54), .inl (0, 108, .inl fl)), ((ad 55), .inl (0, 108, .inl he)), ((ad 56), .inl (0, 108, .inl nx)), ((ad 57), .inl (0, 108, .inl mtt)), ((ad 58), .inl (0, 108, .inl fz)), ((ad 59), .inl (2, 108, .inl ic)), ((ad 60), .inl (0, 108, .inl (fun k => nI (qn k)))), ((ad 61), .inl (0, 108, .inl gp)), (its, .inl (1, 108, .inl f_i)), (nb, .inl (0, 5, .inl f_n)), (q124, .inl (0, 6, .inl mdf)), (q129, .inl (3, 4, .inr (.inl mg9)))] kc ks := by
  refine y_aload d_Mm_pour_245 1 rfl ?_
  refine y_iconst d_Mm_pour_247 (v := 4) (by decide) ?_
  refine y_aload_n d_Mm_pour_248 rfl 6 rfl ?_
  refine y_get fs_Mm_260 d_Mm_pour_249 (q0 := 0) rfl rfl ?_
  refine y_bipush d_Mm_pour_252 (v := 20) (by decide) ?_
  refine y_icmp_lt (tgt := 261) d_Mm_pour_254 (by decide) (fun c_254 => ?_) (fun c_254 => ?_)
  · refine y_iconst d_Mm_pour_261 (v := 0) (by decide) ?_
    refine y_lv (lv' := [(6, .ref q129), (5, .ref q124), (4, .int tk), (3, .int wt), (2, .ref nb), (1, .ref its), (0, .ref (ad 52))]) [0, 1, 2, 3, 4, 5, 6] rfl ?_
    exact Jx2_pour g w_th w_pt w_cl w_wa w_co_ w_fi w_bu w_ho w_lh w_mg w_wd w_fpi w_fal w_po w_de fl he nx mtt fz ic gp f_i f_n mif mdf qn gr9 mg9 its nb q124 q129 p_n tk wt hT hch_i hg_i h0_n hp_n hv_i sh hsh _ (Eq.symm (if_pos c_254)) K
  · refine y_iconst d_Mm_pour_257 (v := 1) (by decide) ?_
    refine y_goto (tgt := 262) d_Mm_pour_258 (by decide) ?_
    refine y_lv (lv' := [(6, .ref q129), (5, .ref q124), (4, .int tk), (3, .int wt), (2, .ref nb), (1, .ref its), (0, .ref (ad 52))]) [0, 1, 2, 3, 4, 5, 6] rfl ?_
    exact Jx2_pour g w_th w_pt w_cl w_wa w_co_ w_fi w_bu w_ho w_lh w_mg w_wd w_fpi w_fal w_po w_de fl he nx mtt fz ic gp f_i f_n mif mdf qn gr9 mg9 its nb q124 q129 p_n tk wt hT hch_i hg_i h0_n hp_n hv_i sh hsh _ (Eq.symm (if_neg c_254)) K
theorem d_Mm_pour_20 : decode prog_14_method_77_code 20 = .ok (.aload_n 0, 1) := by decide +kernel
theorem d_Mm_pour_21 : decode prog_14_method_77_code 21 = .ok (.aload_n 0, 1) := by decide +kernel
theorem d_Mm_pour_22 : decode prog_14_method_77_code 22 = .ok (.getfield 62, 3) := by decide +kernel
theorem d_Mm_pour_25 : decode prog_14_method_77_code 25 = .ok (.iconst 1, 1) := by decide +kernel
theorem d_Mm_pour_26 : decode prog_14_method_77_code 26 = .ok (.iaload, 1) := by decide +kernel
theorem d_Mm_pour_27 : decode prog_14_method_77_code 27 = .ok (.ifCond .eq 13, 3) := by decide +kernel
theorem d_Mm_pour_40 : decode prog_14_method_77_code 40 = .ok (.iconst 1, 1) := by decide +kernel
theorem d_Mm_pour_41 : decode prog_14_method_77_code 41 = .ok (.goto 4, 3) := by decide +kernel
theorem d_Mm_pour_45 : decode prog_14_method_77_code 45 = .ok (.iconst 2, 1) := by decide +kernel
theorem d_Mm_pour_46 : decode prog_14_method_77_code 46 = .ok (.invokevirtual 103, 3) := by decide +kernel
theorem d_Mm_pour_49 : decode prog_14_method_77_code 49 = .ok (.ifCond .ne 28, 3) := by decide +kernel
theorem d_Mm_pour_30 : decode prog_14_method_77_code 30 = .ok (.aload_n 0, 1) := by decide +kernel
theorem d_Mm_pour_31 : decode prog_14_method_77_code 31 = .ok (.getfield 257, 3) := by decide +kernel
theorem d_Mm_pour_34 : decode prog_14_method_77_code 34 = .ok (.sipush 1250, 3) := by decide +kernel
theorem d_Mm_pour_37 : decode prog_14_method_77_code 37 = .ok (.if_icmp .ge 7, 3) := by decide +kernel
theorem d_Mm_pour_44 : decode prog_14_method_77_code 44 = .ok (.iconst 0, 1) := by decide +kernel
theorem d_Mm_pour_52 : decode prog_14_method_77_code 52 = .ok (.aload_n 0, 1) := by decide +kernel
theorem d_Mm_pour_53 : decode prog_14_method_77_code 53 = .ok (.aload_n 0, 1) := by decide +kernel
theorem d_Mm_pour_54 : decode prog_14_method_77_code 54 = .ok (.getfield 78, 3) := by decide +kernel
theorem d_Mm_pour_57 : decode prog_14_method_77_code 57 = .ok (.invokevirtual 208, 3) := by decide +kernel
theorem ok_Mm_pour_AL_size : z_ok M_Mm_pour M_AL_size 0 := ⟨z_mj2 (i := 172) rfl (by decide +kernel), rfl, ⟨by decide +kernel, by decide +kernel, by decide +kernel⟩, ⟨by decide, by decide⟩, z_mj1 (i := 13) rfl (by decide +kernel), rfl⟩
theorem d_Mm_pour_60 : decode prog_14_method_77_code 60 = .ok (.bipush 30, 2) := by decide +kernel
theorem d_Mm_pour_62 : decode prog_14_method_77_code 62 = .ok (.if_icmp .ne 7, 3) := by decide +kernel
theorem d_Mm_pour_65 : decode prog_14_method_77_code 65 = .ok (.iconst 1, 1) := by decide +kernel
theorem d_Mm_pour_66 : decode prog_14_method_77_code 66 = .ok (.goto 4, 3) := by decide +kernel
theorem d_Mm_pour_70 : decode prog_14_method_77_code 70 = .ok (.iconst 3, 1) := by decide +kernel
theorem d_Mm_pour_71 : decode prog_14_method_77_code 71 = .ok (.invokevirtual 103, 3) := by decide +kernel
theorem d_Mm_pour_74 : decode prog_14_method_77_code 74 = .ok (.ifCond .eq 5, 3) := by decide +kernel
theorem d_Mm_pour_69 : decode prog_14_method_77_code 69 = .ok (.iconst 0, 1) := by decide +kernel
theorem d_Mm_pour_79 : decode prog_14_method_77_code 79 = .ok (.aload_n 0, 1) := by decide +kernel
theorem d_Mm_pour_80 : decode prog_14_method_77_code 80 = .ok (.getfield 72, 3) := by decide +kernel
theorem d_Mm_pour_83 : decode prog_14_method_77_code 83 = .ok (.iconst 0, 1) := by decide +kernel
theorem d_Mm_pour_84 : decode prog_14_method_77_code 84 = .ok (.invokevirtual 229, 3) := by decide +kernel
theorem ok_Mm_pour_AL_remove : z_ok M_Mm_pour M_AL_remove 1 := ⟨z_mj6 (i := 122) rfl (by decide +kernel), rfl, ⟨by decide +kernel, by decide +kernel, by decide +kernel⟩, ⟨by decide, by decide⟩, z_mj1 (i := 13) rfl (by decide +kernel), rfl⟩
theorem d_Mm_pour_87 : decode prog_14_method_77_code 87 = .ok (.checkcast 292, 3) := by decide +kernel
theorem lk_Mm_292 : Cond.classLink "IronpourModel" 292 (z_an 1) ∈ z_gw := z_mj9 (i := 1) rfl (by decide +kernel)
theorem d_Mm_pour_90 : decode prog_14_method_77_code 90 = .ok (.astore_n 1, 1) := by decide +kernel
theorem d_Mm_pour_91 : decode prog_14_method_77_code 91 = .ok (.aload_n 0, 1) := by decide +kernel
theorem d_Mm_pour_92 : decode prog_14_method_77_code 92 = .ok (.getfield 75, 3) := by decide +kernel
theorem d_Mm_pour_95 : decode prog_14_method_77_code 95 = .ok (.iconst 0, 1) := by decide +kernel
theorem d_Mm_pour_96 : decode prog_14_method_77_code 96 = .ok (.invokevirtual 229, 3) := by decide +kernel
theorem d_Mm_pour_99 : decode prog_14_method_77_code 99 = .ok (.checkcast 215, 3) := by decide +kernel
theorem d_Mm_pour_102 : decode prog_14_method_77_code 102 = .ok (.astore_n 2, 1) := by decide +kernel
theorem d_Mm_pour_103 : decode prog_14_method_77_code 103 = .ok (.iconst 2, 1) := by decide +kernel
theorem d_Mm_pour_104 : decode prog_14_method_77_code 104 = .ok (.aload_n 1, 1) := by decide +kernel
theorem d_Mm_pour_105 : decode prog_14_method_77_code 105 = .ok (.invokestatic 134, 3) := by decide +kernel
theorem ok_Mm_pour_Mm_cellsIn : z_ok M_Mm_pour M_Mm_cellsIn 1 := ⟨z_mj8 (i := 7) rfl (by decide +kernel), rfl, ⟨by decide +kernel, by decide +kernel, by decide +kernel⟩, ⟨by decide, by decide⟩, z_mj1 (i := 14) rfl (by decide +kernel), rfl⟩
theorem d_Mm_pour_108 : decode prog_14_method_77_code 108 = .ok (.imul, 1) := by decide +kernel
theorem d_Mm_pour_109 : decode prog_14_method_77_code 109 = .ok (.istore_n 3, 1) := by decide +kernel
theorem d_Mm_pour_110 : decode prog_14_method_77_code 110 = .ok (.iload_n 3, 1) := by decide +kernel
theorem d_Mm_pour_111 : decode prog_14_method_77_code 111 = .ok (.aload_n 0, 1) := by decide +kernel
theorem d_Mm_pour_112 : decode prog_14_method_77_code 112 = .ok (.getfield 62, 3) := by decide +kernel
theorem d_Mm_pour_115 : decode prog_14_method_77_code 115 = .ok (.iconst 1, 1) := by decide +kernel
theorem d_Mm_pour_116 : decode prog_14_method_77_code 116 = .ok (.iaload, 1) := by decide +kernel
theorem d_Mm_pour_117 : decode prog_14_method_77_code 117 = .ok (.invokestatic 182, 3) := by decide +kernel
theorem d_Mm_pour_120 : decode prog_14_method_77_code 120 = .ok (.istore 4, 2) := by decide +kernel
theorem d_Mm_pour_122 : decode prog_14_method_77_code 122 = .ok (.bipush 6, 2) := by decide +kernel
theorem d_Mm_pour_124 : decode prog_14_method_77_code 124 = .ok (.newarray .int, 2) := by decide +kernel
theorem d_Mm_pour_126 : decode prog_14_method_77_code 126 = .ok (.astore 5, 2) := by decide +kernel
theorem d_Mm_pour_128 : decode prog_14_method_77_code 128 = .ok (.iconst 4, 1) := by decide +kernel
theorem d_Mm_pour_129 : decode prog_14_method_77_code 129 = .ok (.newarray .long, 2) := by decide +kernel
theorem d_Mm_pour_131 : decode prog_14_method_77_code 131 = .ok (.astore 6, 2) := by decide +kernel
theorem d_Mm_pour_133 : decode prog_14_method_77_code 133 = .ok (.aload_n 0, 1) := by decide +kernel
theorem d_Mm_pour_134 : decode prog_14_method_77_code 134 = .ok (.getfield 62, 3) := by decide +kernel
theorem d_Mm_pour_137 : decode prog_14_method_77_code 137 = .ok (.iconst 1, 1) := by decide +kernel
theorem d_Mm_pour_138 : decode prog_14_method_77_code 138 = .ok (.iaload, 1) := by decide +kernel
theorem d_Mm_pour_139 : decode prog_14_method_77_code 139 = .ok (.istore 7, 2) := by decide +kernel
theorem d_Mm_pour_141 : decode prog_14_method_77_code 141 = .ok (.iconst 0, 1) := by decide +kernel
theorem d_Mm_pour_142 : decode prog_14_method_77_code 142 = .ok (.istore 8, 2) := by decide +kernel
theorem d_Mm_pour_195 : decode prog_14_method_77_code 195 = .ok (.aload_n 0, 1) := by decide +kernel
theorem d_Mm_pour_196 : decode prog_14_method_77_code 196 = .ok (.getfield 62, 3) := by decide +kernel
theorem d_Mm_pour_199 : decode prog_14_method_77_code 199 = .ok (.iconst 1, 1) := by decide +kernel
theorem d_Mm_pour_200 : decode prog_14_method_77_code 200 = .ok (.dup2, 1) := by decide +kernel
theorem d_Mm_pour_201 : decode prog_14_method_77_code 201 = .ok (.iaload, 1) := by decide +kernel
theorem d_Mm_pour_202 : decode prog_14_method_77_code 202 = .ok (.iload 4, 2) := by decide +kernel
theorem d_Mm_pour_204 : decode prog_14_method_77_code 204 = .ok (.isub, 1) := by decide +kernel
theorem d_Mm_pour_205 : decode prog_14_method_77_code 205 = .ok (.iastore, 1) := by decide +kernel
theorem d_Mm_pour_206 : decode prog_14_method_77_code 206 = .ok (.aload_n 0, 1) := by decide +kernel
theorem d_Mm_pour_207 : decode prog_14_method_77_code 207 = .ok (.dup, 1) := by decide +kernel
theorem d_Mm_pour_208 : decode prog_14_method_77_code 208 = .ok (.getfield 293, 3) := by decide +kernel
theorem d_Mm_pour_211 : decode prog_14_method_77_code 211 = .ok (.iload 4, 2) := by decide +kernel
theorem d_Mm_pour_213 : decode prog_14_method_77_code 213 = .ok (.i2l, 1) := by decide +kernel
theorem d_Mm_pour_214 : decode prog_14_method_77_code 214 = .ok (.ladd, 1) := by decide +kernel
theorem d_Mm_pour_215 : decode prog_14_method_77_code 215 = .ok (.putfield 293, 3) := by decide +kernel
theorem fp_Mm_293 : z_fp "IronpourModel" 293 12 29 false .long := ⟨R_Mm, "IronpourModel", F_Mm, 31, t_Mm, rfl, u_Mm, by decide, t_Mm_ok, n_Mm, rfl, rfl, Or.inl ⟨z_mj7 (i := 112) rfl (by decide +kernel), Or.inl rfl, fun h => nomatch h⟩⟩
theorem d_Mm_pour_218 : decode prog_14_method_77_code 218 = .ok (.aload 5, 2) := by decide +kernel
theorem d_Mm_pour_220 : decode prog_14_method_77_code 220 = .ok (.iconst 0, 1) := by decide +kernel
theorem d_Mm_pour_221 : decode prog_14_method_77_code 221 = .ok (.iload 4, 2) := by decide +kernel
theorem d_Mm_pour_223 : decode prog_14_method_77_code 223 = .ok (.iastore, 1) := by decide +kernel
theorem d_Mm_pour_224 : decode prog_14_method_77_code 224 = .ok (.aload 5, 2) := by decide +kernel
theorem d_Mm_pour_226 : decode prog_14_method_77_code 226 = .ok (.iconst 1, 1) := by decide +kernel
theorem d_Mm_pour_227 : decode prog_14_method_77_code 227 = .ok (.aload_n 0, 1) := by decide +kernel
theorem d_Mm_pour_228 : decode prog_14_method_77_code 228 = .ok (.getfield 260, 3) := by decide +kernel
theorem d_Mm_pour_231 : decode prog_14_method_77_code 231 = .ok (.iastore, 1) := by decide +kernel
theorem d_Mm_pour_232 : decode prog_14_method_77_code 232 = .ok (.aload 5, 2) := by decide +kernel
theorem d_Mm_pour_234 : decode prog_14_method_77_code 234 = .ok (.iconst 3, 1) := by decide +kernel
theorem d_Mm_pour_235 : decode prog_14_method_77_code 235 = .ok (.aload_n 0, 1) := by decide +kernel
theorem d_Mm_pour_236 : decode prog_14_method_77_code 236 = .ok (.aload_n 1, 1) := by decide +kernel
theorem d_Mm_pour_237 : decode prog_14_method_77_code 237 = .ok (.aload_n 0, 1) := by decide +kernel
theorem d_Mm_pour_238 : decode prog_14_method_77_code 238 = .ok (.getfield 257, 3) := by decide +kernel
theorem d_Mm_pour_241 : decode prog_14_method_77_code 241 = .ok (.invokevirtual 173, 3) := by decide +kernel
theorem ok_Mm_pour_Mm_shrunkOf : z_ok M_Mm_pour M_Mm_shrunkOf 2 := ⟨z_mj8 (i := 76) rfl (by decide +kernel), rfl, ⟨by decide +kernel, by decide +kernel, by decide +kernel⟩, ⟨by decide, by decide⟩, z_mj1 (i := 14) rfl (by decide +kernel), rfl⟩
theorem d_Mm_pour_244 : decode prog_14_method_77_code 244 = .ok (.iastore, 1) := by decide +kernel
theorem d_Mm_pour_461 : decode prog_14_method_77_code 461 = .ok (.aload 5, 2) := by decide +kernel
theorem d_Mm_pour_463 : decode prog_14_method_77_code 463 = .ok (.iconst 2, 1) := by decide +kernel
theorem d_Mm_pour_464 : decode prog_14_method_77_code 464 = .ok (.iload 11, 2) := by decide +kernel
theorem d_Mm_pour_466 : decode prog_14_method_77_code 466 = .ok (.iastore, 1) := by decide +kernel
theorem d_Mm_pour_467 : decode prog_14_method_77_code 467 = .ok (.aload_n 0, 1) := by decide +kernel
theorem d_Mm_pour_468 : decode prog_14_method_77_code 468 = .ok (.getfield 78, 3) := by decide +kernel
theorem d_Mm_pour_471 : decode prog_14_method_77_code 471 = .ok (.aload 5, 2) := by decide +kernel
theorem d_Mm_pour_473 : decode prog_14_method_77_code 473 = .ok (.invokevirtual 219, 3) := by decide +kernel
theorem ok_Mm_pour_AL_add_0 : z_ok M_Mm_pour M_AL_add_0 1 := ⟨z_mj6 (i := 34) rfl (by decide +kernel), rfl, ⟨by decide +kernel, by decide +kernel, by decide +kernel⟩, ⟨by decide, by decide⟩, z_mj1 (i := 13) rfl (by decide +kernel), rfl⟩
theorem d_Mm_pour_476 : decode prog_14_method_77_code 476 = .ok (.pop, 1) := by decide +kernel
theorem d_Mm_pour_477 : decode prog_14_method_77_code 477 = .ok (.aload_n 0, 1) := by decide +kernel
theorem d_Mm_pour_478 : decode prog_14_method_77_code 478 = .ok (.getfield 81, 3) := by decide +kernel
theorem d_Mm_pour_481 : decode prog_14_method_77_code 481 = .ok (.aload 6, 2) := by decide +kernel
theorem d_Mm_pour_483 : decode prog_14_method_77_code 483 = .ok (.invokevirtual 219, 3) := by decide +kernel
theorem d_Mm_pour_486 : decode prog_14_method_77_code 486 = .ok (.pop, 1) := by decide +kernel
theorem d_Mm_pour_487 : decode prog_14_method_77_code 487 = .ok (.aload_n 0, 1) := by decide +kernel
theorem d_Mm_pour_488 : decode prog_14_method_77_code 488 = .ok (.getfield 78, 3) := by decide +kernel
theorem d_Mm_pour_491 : decode prog_14_method_77_code 491 = .ok (.invokevirtual 208, 3) := by decide +kernel
theorem d_Mm_pour_494 : decode prog_14_method_77_code 494 = .ok (.iconst 1, 1) := by decide +kernel
theorem d_Mm_pour_495 : decode prog_14_method_77_code 495 = .ok (.isub, 1) := by decide +kernel
theorem d_Mm_pour_496 : decode prog_14_method_77_code 496 = .ok (.ireturn, 1) := by decide +kernel
