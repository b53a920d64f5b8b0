theorem tl1n {a : Nat} : nI a + (if (1 : Int32) = 0 then 0 else 1) = nI (a + 1) := by
  rw [if_neg (by decide)]
  exact nI_add _ 1
theorem tl0n {a : Nat} : nI a + (if (0 : Int32) = 0 then 0 else 1) = nI a := by
  rw [if_pos rfl]
  exact nI_add _ 0
def hsv (A2 A3 : Nat → Int32) (r h0 x y : Int32) : Nat → Int32
  | 0 => h0
  | s + 1 => if hsv A2 A3 r h0 x y s = 0 then (if inV A2 (x + rtI (nI s)) (y + dnI (nI s)) = 1 then (if inV A3 (x + rtI (nI s)) (y + dnI (nI s)) < r then 0 else 1) else 0) else 1
section
variable {A2 A3 : Nat → Int32} {r h0 x y : Int32} {s : Nat}
theorem hs_1 (h : ¬ hsv A2 A3 r h0 x y s = 0) : hsv A2 A3 r h0 x y (s + 1) = 1 := if_neg h
theorem hs_2 (h : hsv A2 A3 r h0 x y s = 0) (h2 : ¬ inV A2 (x + rtI (nI s)) (y + dnI (nI s)) = 1) : hsv A2 A3 r h0 x y (s + 1) = 0 := (if_pos h).trans (if_neg h2)
theorem hs_3 (h : hsv A2 A3 r h0 x y s = 0) (h2 : inV A2 (x + rtI (nI s)) (y + dnI (nI s)) = 1) (h3 : inV A3 (x + rtI (nI s)) (y + dnI (nI s)) < r) : hsv A2 A3 r h0 x y (s + 1) = 0 := (if_pos h).trans ((if_pos h2).trans (if_pos h3))
theorem hs_4 (h : hsv A2 A3 r h0 x y s = 0) (h2 : inV A2 (x + rtI (nI s)) (y + dnI (nI s)) = 1) (h3 : ¬ inV A3 (x + rtI (nI s)) (y + dnI (nI s)) < r) : hsv A2 A3 r h0 x y (s + 1) = 1 := (if_pos h).trans ((if_pos h2).trans (if_neg h3))
theorem hs_up (h : ¬ hsv A2 A3 r h0 x y s = 0) : ∀ k, ¬ hsv A2 A3 r h0 x y (s + k) = 0
  | 0 => h
  | k + 1 => by
    show ¬ hsv A2 A3 r h0 x y (s + k + 1) = 0
    rw [hs_1 (hs_up h k)]
    decide
end
theorem hs_r {A2 A3 : Nat → Int32} {r x y : Int32} : ¬ hsv A2 A3 r 1 x y 4 = 0 := by
  have h := hs_up (A2 := A2) (A3 := A3) (r := r) (h0 := 1) (x := x) (y := y) (s := 0) (show ¬ (1 : Int32) = 0 by decide) 4
  exact h
theorem hs_n {P A2 A3 : Nat → Int32} {h h0 : Int32} {x y : Nat} (hx : x < 12) (hy : y < 9) (e2 : ∀ c, c < 108 → A2 c = fdO P h c) (e3 : ∀ c, c < 108 → A3 c = frO P h c) (hf : ¬ fdO P h (12 * y + x) = 0) (hk : ¬ P (12 * y + x) = 114) : ¬ hsv A2 A3 (frO P h (12 * y + x)) h0 (nI x) (nI y) 4 = 0 := by
  have ok := fdO_ok P h
  rcases ok.2.2.2.1 _ (by omega) hf with q | ⟨s, hs, o, ho, h1, h2⟩
  · exact absurd q hk
  · have h8 := bs_lt (by omega) ho
    have i2 : inV A2 (nI x + rtI (nI s)) (nI y + dnI (nI s)) = 1 := by
      rw [in_nb e2 hx hy hs, ho]
      exact (ok.1 o h8).resolve_left h1
    have i3 : ¬ inV A3 (nI x + rtI (nI s)) (nI y + dnI (nI s)) < frO P h (12 * y + x) := by
      rw [in_nb e3 hx hy hs, ho]
      exact h2
    have h9 : ¬ hsv A2 A3 (frO P h (12 * y + x)) h0 (nI x) (nI y) (s + 1) = 0 := by
      by_cases z : hsv A2 A3 (frO P h (12 * y + x)) h0 (nI x) (nI y) s = 0
      · rw [hs_4 z i2 i3]; decide
      · rw [hs_1 z]; decide
    have h7 := hs_up h9 (3 - s)
    rw [show s + 1 + (3 - s) = 4 by omega] at h7
    exact h7
theorem frO_k {P : Nat → Int32} {h : Int32} (hh : 1250 ≤ h ∧ h < 1450) : Zv (fiO P) (frO P h) := frO_ok (fun k hk q => (fi_v (P := P) hk).resolve_left (fun e => q (by rw [e]; decide))) hh.1 hh.2
theorem hh_w {h : Int32} (hh : 1250 ≤ h ∧ h < 1450) : 1200 ≤ h ∧ h ≤ 1500 := ⟨Int32.le_trans (by decide) hh.1, Int32.le_trans (Int32.le_of_lt hh.2) (by decide)⟩
def cC (ce fed : Nat → Int32) (c : Nat) : Nat := fa_cnt (fun k => decide (ce k = 99 ∧ ¬ fed k = 0)) c
def cF (ce fi : Nat → Int32) (c : Nat) : Nat := fa_cnt (fun k => decide (ce k = 99 ∧ ¬ fi k < 0)) c
theorem cn_y {p : Nat → Bool} {y x : Nat} (h : p (12 * y + x) = true) : fa_cnt p (12 * y + x) + 1 = fa_cnt p (12 * y + (x + 1)) := (fa_cnt_yes h).symm
theorem cn_n {p : Nat → Bool} {y x : Nat} (h : p (12 * y + x) = false) : fa_cnt p (12 * y + x) = fa_cnt p (12 * y + (x + 1)) := (fa_cnt_no h).symm
abbrev M_Lw_isFedRight : zM := (⟨"IronpourLaw", "isFedRight", "(LIronpour;I)Z"⟩, method_19_code, 19, (Option.some FieldType.boolean), 14, 351, [])
theorem d_Lw_isFedRight_207 : decode method_19_code 207 = .ok (.iload 16, 2) := zo_21 (d := 16) (zd_b zq_method_19_code_6 15 rfl rfl rfl) (zd_b zq_method_19_code_6 16 rfl rfl rfl)
theorem d_Lw_isFedRight_209 : decode method_19_code 209 = .ok (.iconst 4, 1) := zo_7 (zd_b zq_method_19_code_6 17 rfl rfl rfl)
theorem d_Lw_isFedRight_210 : decode method_19_code 210 = .ok (.if_icmp .ge 68, 3) := zo_162 (d := 0) (e := 68) (zd_b zq_method_19_code_6 18 rfl rfl rfl) (zd_b zq_method_19_code_6 19 rfl rfl rfl) (zd_b zq_method_19_code_6 20 rfl rfl rfl) (by decide +kernel)
theorem d_Lw_isFedRight_213 : decode method_19_code 213 = .ok (.iload 10, 2) := zo_21 (d := 10) (zd_b zq_method_19_code_6 21 rfl rfl rfl) (zd_b zq_method_19_code_6 22 rfl rfl rfl)
theorem d_Lw_isFedRight_215 : decode method_19_code 215 = .ok (.iload 16, 2) := zo_21 (d := 16) (zd_b zq_method_19_code_6 23 rfl rfl rfl) (zd_b zq_method_19_code_6 24 rfl rfl rfl)
theorem d_Lw_isFedRight_217 : decode method_19_code 217 = .ok (.invokestatic 208, 3) := zo_184 (d := 0) (e := 208) (zd_b zq_method_19_code_6 25 rfl rfl rfl) (zd_b zq_method_19_code_6 26 rfl rfl rfl) (zd_b zq_method_19_code_6 27 rfl rfl rfl)
theorem ok_Lw_isFedRight_Lw_right : z_ok M_Lw_isFedRight M_Lw_right 1 := ⟨z_mj6 (i := 167) rfl (by decide +kernel), rfl, ⟨by decide +kernel, by decide +kernel, by decide +kernel⟩, ⟨by decide, by decide⟩, z_mj1 (i := 0) rfl (by decide +kernel), rfl⟩
theorem d_Lw_isFedRight_220 : decode method_19_code 220 = .ok (.iadd, 1) := zo_96 (zd_b zq_method_19_code_6 28 rfl rfl rfl)
theorem d_Lw_isFedRight_221 : decode method_19_code 221 = .ok (.istore 17, 2) := zo_54 (d := 17) (zd_b zq_method_19_code_6 29 rfl rfl rfl) (zd_b zq_method_19_code_6 30 rfl rfl rfl)
theorem d_Lw_isFedRight_223 : decode method_19_code 223 = .ok (.iload 9, 2) := zo_21 (d := 9) (zd_b zq_method_19_code_6 31 rfl rfl rfl) (zd_b zq_method_19_code_7 0 rfl rfl rfl)
theorem d_Lw_isFedRight_225 : decode method_19_code 225 = .ok (.iload 16, 2) := zo_21 (d := 16) (zd_b zq_method_19_code_7 1 rfl rfl rfl) (zd_b zq_method_19_code_7 2 rfl rfl rfl)
theorem d_Lw_isFedRight_227 : decode method_19_code 227 = .ok (.invokestatic 211, 3) := zo_184 (d := 0) (e := 211) (zd_b zq_method_19_code_7 3 rfl rfl rfl) (zd_b zq_method_19_code_7 4 rfl rfl rfl) (zd_b zq_method_19_code_7 5 rfl rfl rfl)
theorem ok_Lw_isFedRight_Lw_down : z_ok M_Lw_isFedRight M_Lw_down 1 := ⟨z_mj6 (i := 170) rfl (by decide +kernel), rfl, ⟨by decide +kernel, by decide +kernel, by decide +kernel⟩, ⟨by decide, by decide⟩, z_mj1 (i := 0) rfl (by decide +kernel), rfl⟩
theorem d_Lw_isFedRight_230 : decode method_19_code 230 = .ok (.iadd, 1) := zo_96 (zd_b zq_method_19_code_7 6 rfl rfl rfl)
theorem d_Lw_isFedRight_231 : decode method_19_code 231 = .ok (.istore 18, 2) := zo_54 (d := 18) (zd_b zq_method_19_code_7 7 rfl rfl rfl) (zd_b zq_method_19_code_7 8 rfl rfl rfl)
theorem d_Lw_isFedRight_233 : decode method_19_code 233 = .ok (.iload 15, 2) := zo_21 (d := 15) (zd_b zq_method_19_code_7 9 rfl rfl rfl) (zd_b zq_method_19_code_7 10 rfl rfl rfl)
theorem d_Lw_isFedRight_235 : decode method_19_code 235 = .ok (.ifCond .ne 30, 3) := zo_154 (d := 0) (e := 30) (zd_b zq_method_19_code_7 11 rfl rfl rfl) (zd_b zq_method_19_code_7 12 rfl rfl rfl) (zd_b zq_method_19_code_7 13 rfl rfl rfl) (by decide +kernel)
theorem d_Lw_isFedRight_265 : decode method_19_code 265 = .ok (.iconst 1, 1) := zo_4 (zd_b zq_method_19_code_8 9 rfl rfl rfl)
theorem d_Lw_isFedRight_266 : decode method_19_code 266 = .ok (.goto 4, 3) := zo_167 (d := 0) (e := 4) (zd_b zq_method_19_code_8 10 rfl rfl rfl) (zd_b zq_method_19_code_8 11 rfl rfl rfl) (zd_b zq_method_19_code_8 12 rfl rfl rfl) (by decide +kernel)
theorem d_Lw_isFedRight_270 : decode method_19_code 270 = .ok (.istore 15, 2) := zo_54 (d := 15) (zd_b zq_method_19_code_8 14 rfl rfl rfl) (zd_b zq_method_19_code_8 15 rfl rfl rfl)
theorem d_Lw_isFedRight_272 : decode method_19_code 272 = .ok (.iinc 16 1, 3) := by decide +kernel
theorem d_Lw_isFedRight_275 : decode method_19_code 275 = .ok (.goto (-68), 3) := zo_167 (d := 255) (e := 188) (zd_b zq_method_19_code_8 19 rfl rfl rfl) (zd_b zq_method_19_code_8 20 rfl rfl rfl) (zd_b zq_method_19_code_8 21 rfl rfl rfl) (by decide +kernel)
theorem d_Lw_isFedRight_238 : decode method_19_code 238 = .ok (.aload 7, 2) := zo_25 (d := 7) (zd_b zq_method_19_code_7 14 rfl rfl rfl) (zd_b zq_method_19_code_7 15 rfl rfl rfl)
theorem d_Lw_isFedRight_240 : decode method_19_code 240 = .ok (.iload 17, 2) := zo_21 (d := 17) (zd_b zq_method_19_code_7 16 rfl rfl rfl) (zd_b zq_method_19_code_7 17 rfl rfl rfl)
theorem d_Lw_isFedRight_242 : decode method_19_code 242 = .ok (.iload 18, 2) := zo_21 (d := 18) (zd_b zq_method_19_code_7 18 rfl rfl rfl) (zd_b zq_method_19_code_7 19 rfl rfl rfl)
theorem d_Lw_isFedRight_244 : decode method_19_code 244 = .ok (.invokestatic 205, 3) := zo_184 (d := 0) (e := 205) (zd_b zq_method_19_code_7 20 rfl rfl rfl) (zd_b zq_method_19_code_7 21 rfl rfl rfl) (zd_b zq_method_19_code_7 22 rfl rfl rfl)
theorem ok_Lw_isFedRight_Lw_in : z_ok M_Lw_isFedRight M_Lw_in 3 := ⟨z_mj6 (i := 164) rfl (by decide +kernel), rfl, ⟨by decide +kernel, by decide +kernel, by decide +kernel⟩, ⟨by decide, by decide⟩, z_mj1 (i := 0) rfl (by decide +kernel), rfl⟩
theorem d_Lw_isFedRight_247 : decode method_19_code 247 = .ok (.iconst 1, 1) := zo_4 (zd_b zq_method_19_code_7 23 rfl rfl rfl)
theorem d_Lw_isFedRight_248 : decode method_19_code 248 = .ok (.if_icmp .ne 21, 3) := zo_160 (d := 0) (e := 21) (zd_b zq_method_19_code_7 24 rfl rfl rfl) (zd_b zq_method_19_code_7 25 rfl rfl rfl) (zd_b zq_method_19_code_7 26 rfl rfl rfl) (by decide +kernel)
theorem d_Lw_isFedRight_269 : decode method_19_code 269 = .ok (.iconst 0, 1) := zo_3 (zd_b zq_method_19_code_8 13 rfl rfl rfl)
theorem d_Lw_isFedRight_251 : decode method_19_code 251 = .ok (.aload 8, 2) := zo_25 (d := 8) (zd_b zq_method_19_code_7 27 rfl rfl rfl) (zd_b zq_method_19_code_7 28 rfl rfl rfl)
theorem d_Lw_isFedRight_253 : decode method_19_code 253 = .ok (.iload 17, 2) := zo_21 (d := 17) (zd_b zq_method_19_code_7 29 rfl rfl rfl) (zd_b zq_method_19_code_7 30 rfl rfl rfl)
theorem d_Lw_isFedRight_255 : decode method_19_code 255 = .ok (.iload 18, 2) := zo_21 (d := 18) (zd_b zq_method_19_code_7 31 rfl rfl rfl) (zd_b zq_method_19_code_8 0 rfl rfl rfl)
theorem d_Lw_isFedRight_257 : decode method_19_code 257 = .ok (.invokestatic 205, 3) := zo_184 (d := 0) (e := 205) (zd_b zq_method_19_code_8 1 rfl rfl rfl) (zd_b zq_method_19_code_8 2 rfl rfl rfl) (zd_b zq_method_19_code_8 3 rfl rfl rfl)
theorem d_Lw_isFedRight_260 : decode method_19_code 260 = .ok (.iload 14, 2) := zo_21 (d := 14) (zd_b zq_method_19_code_8 4 rfl rfl rfl) (zd_b zq_method_19_code_8 5 rfl rfl rfl)
theorem d_Lw_isFedRight_262 : decode method_19_code 262 = .ok (.if_icmp .lt 7, 3) := zo_161 (d := 0) (e := 7) (zd_b zq_method_19_code_8 6 rfl rfl rfl) (zd_b zq_method_19_code_8 7 rfl rfl rfl) (zd_b zq_method_19_code_8 8 rfl rfl rfl) (by decide +kernel)
set_option maxHeartbeats 4000000 in
set_option maxRecDepth 100000 in
theorem H_side (g : zG) {ad : Nat → Nat} {t0 : zTT} {u : zNN} {f : Nat → Int32} {p : Nat} {w9 : zW} (hW : Wd g ad t0 u f p w9) {q1 q2 q3 : Nat} {A1 A2 A3 : Nat → Int32} {h : Int32} (hh : 1250 ≤ h ∧ h < 1450) (n1 : z_nf ad q1) (h1 : w9 q1 = some (.inl (0, 108, .inl A1))) (n2 : z_nf ad q2) (h2 : w9 q2 = some (.inl (0, 108, .inl A2))) (n3 : z_nf ad q3) (h3 : w9 q3 = some (.inl (0, 108, .inl A3))) (e1 : ∀ c, c < 108 → A1 c = fiO f c) (e2 : ∀ c, c < 108 → A2 c = fdO f h c) (e3 : ∀ c, c < 108 → A3 c = frO f h c) {x y a b e : Nat} {k b1 b2 r h0 : Int32} {kc ks : Nat} (K : DU g M_Lw_isFedRight (fun o w1 => o = .inl (some (.int 1)) ∧ Wd g ad t0 u f p w1) w9 3 278 [(16, .int (nI 4)), (15, .int (hsv A2 A3 r h0 (nI x) (nI y) 4)), (14, .int r), (13, .int b2), (12, .int b1), (11, .int k), (10, .int (nI x)), (9, .int (nI y)), (8, .ref q3), (7, .ref q2), (6, .ref q1), (5, .int (nI e)), (4, .int (nI b)), (3, .int (nI a)), (2, .int 1), (1, .int h), (0, .ref (ad 0))] [] [(q1, .inl (0, 108, .inl A1)), (q2, .inl (0, 108, .inl A2)), (q3, .inl (0, 108, .inl A3))] (kc) (ks)) : ∀ (d s : Nat), s ≤ 4 → 4 < s + d → DU g M_Lw_isFedRight (fun o w1 => o = .inl (some (.int 1)) ∧ Wd g ad t0 u f p w1) w9 3 207 [(16, .int (nI s)), (15, .int (hsv A2 A3 r h0 (nI x) (nI y) s)), (14, .int r), (13, .int b2), (12, .int b1), (11, .int k), (10, .int (nI x)), (9, .int (nI y)), (8, .ref q3), (7, .ref q2), (6, .ref q1), (5, .int (nI e)), (4, .int (nI b)), (3, .int (nI a)), (2, .int 1), (1, .int h), (0, .ref (ad 0))] [] [(q1, .inl (0, 108, .inl A1)), (q2, .inl (0, 108, .inl A2)), (q3, .inl (0, 108, .inl A3))] (kc) (ks) := by
  intro d
  induction d with
  | zero => intro s k1 k2; exact absurd k2 (by omega)
  | succ d ih =>
    intro s k1 k2
    refine y_iload d_Lw_isFedRight_207 0 rfl ?_
    refine y_iconst d_Lw_isFedRight_209 (v := 4) (by decide) ?_
    refine y_icmp_ge (tgt := 278) d_Lw_isFedRight_210 (by decide) (fun c_210 => ?_) (fun c_210 => ?_)
    · have hn := z_le (a := 4) (b := s) (by omega) (by omega) c_210
      obtain rfl : s = 4 := by omega
      exact K
    · have hn := z_nle (a := 4) (b := s) (by omega) (by omega) c_210
      refine y_iload d_Lw_isFedRight_213 6 rfl ?_
      refine y_iload d_Lw_isFedRight_215 0 rfl ?_
      refine y_callS (As := [.int (nI s)]) (rest := [.int (nI x)]) (csC := []) (is := []) ln_Lw_208 w_st_Lw_right ok_Lw_isFedRight_Lw_right d_Lw_isFedRight_217 (C_Lw_right g (nI s)) rfl rfl (Nat.le_of_ble_eq_true rfl) rfl (by decide) (by omega) (by omega) (fun E cs1 hx => ?_) (fun v cs1 hx => ?_)
      · exact absurd hx.1 (by simp)
      · obtain ⟨e1, rfl⟩ := hx
        cases e1
        refine ⟨rfl, ?_⟩
        refine y_st (st2 := [.int (rtI (nI s)), .int (nI x)]) rfl ?_
        refine y_cs (cs2 := [(q1, .inl (0, 108, .inl A1)), (q2, .inl (0, 108, .inl A2)), (q3, .inl (0, 108, .inl A3))]) rfl ?_
        refine y_iadd d_Lw_isFedRight_220 (v := nI x + rtI (nI s)) rfl ?_
        refine y_istore (lv' := [(17, .int (nI x + rtI (nI s))), (16, .int (nI s)), (15, .int (hsv A2 A3 r h0 (nI x) (nI y) s)), (14, .int r), (13, .int b2), (12, .int b1), (11, .int k), (10, .int (nI x)), (9, .int (nI y)), (8, .ref q3), (7, .ref q2), (6, .ref q1), (5, .int (nI e)), (4, .int (nI b)), (3, .int (nI a)), (2, .int 1), (1, .int h), (0, .ref (ad 0))]) d_Lw_isFedRight_221 (by decide) rfl ?_
        refine y_iload d_Lw_isFedRight_223 8 rfl ?_
        refine y_iload d_Lw_isFedRight_225 1 rfl ?_
        refine y_callS (As := [.int (nI s)]) (rest := [.int (nI y)]) (csC := []) (is := []) ln_Lw_211 w_st_Lw_down ok_Lw_isFedRight_Lw_down d_Lw_isFedRight_227 (C_Lw_down g (nI s)) rfl rfl (Nat.le_of_ble_eq_true rfl) rfl (by decide) (by omega) (by omega) (fun E cs1 hx => ?_) (fun v cs1 hx => ?_)
        · exact absurd hx.1 (by simp)
        · obtain ⟨e1, rfl⟩ := hx
          cases e1
          refine ⟨rfl, ?_⟩
          refine y_st (st2 := [.int (dnI (nI s)), .int (nI y)]) rfl ?_
          refine y_cs (cs2 := [(q1, .inl (0, 108, .inl A1)), (q2, .inl (0, 108, .inl A2)), (q3, .inl (0, 108, .inl A3))]) rfl ?_
          refine y_iadd d_Lw_isFedRight_230 (v := nI y + dnI (nI s)) rfl ?_
          refine y_istore (lv' := [(18, .int (nI y + dnI (nI s))), (17, .int (nI x + rtI (nI s))), (16, .int (nI s)), (15, .int (hsv A2 A3 r h0 (nI x) (nI y) s)), (14, .int r), (13, .int b2), (12, .int b1), (11, .int k), (10, .int (nI x)), (9, .int (nI y)), (8, .ref q3), (7, .ref q2), (6, .ref q1), (5, .int (nI e)), (4, .int (nI b)), (3, .int (nI a)), (2, .int 1), (1, .int h), (0, .ref (ad 0))]) d_Lw_isFedRight_231 (by decide) rfl ?_
          refine y_iload d_Lw_isFedRight_233 3 rfl ?_
          refine y_if_ne (tgt := 265) d_Lw_isFedRight_235 (by decide) (fun c_235 => ?_) (fun c_235 => ?_)
          · refine y_iconst d_Lw_isFedRight_265 (v := 1) (by decide) ?_
            refine y_goto (tgt := 270) d_Lw_isFedRight_266 (by decide) ?_
            refine y_istore (lv' := [(15, .int 1), (18, .int (nI y + dnI (nI s))), (17, .int (nI x + rtI (nI s))), (16, .int (nI s)), (14, .int r), (13, .int b2), (12, .int b1), (11, .int k), (10, .int (nI x)), (9, .int (nI y)), (8, .ref q3), (7, .ref q2), (6, .ref q1), (5, .int (nI e)), (4, .int (nI b)), (3, .int (nI a)), (2, .int 1), (1, .int h), (0, .ref (ad 0))]) d_Lw_isFedRight_270 (by decide) rfl ?_
            refine y_iinc (lv' := [(16, .int (nI (s + 1))), (15, .int 1), (18, .int (nI y + dnI (nI s))), (17, .int (nI x + rtI (nI s))), (14, .int r), (13, .int b2), (12, .int b1), (11, .int k), (10, .int (nI x)), (9, .int (nI y)), (8, .ref q3), (7, .ref q2), (6, .ref q1), (5, .int (nI e)), (4, .int (nI b)), (3, .int (nI a)), (2, .int 1), (1, .int h), (0, .ref (ad 0))]) (v := nI (s + 1)) d_Lw_isFedRight_272 (j := 3) rfl (nI_add _ _) (by decide) rfl ?_
            refine y_goto (tgt := 207) d_Lw_isFedRight_275 (by decide) ?_
            refine y_lv (lv' := [(16, .int (nI (s + 1))), (15, .int 1), (14, .int r), (13, .int b2), (12, .int b1), (11, .int k), (10, .int (nI x)), (9, .int (nI y)), (8, .ref q3), (7, .ref q2), (6, .ref q1), (5, .int (nI e)), (4, .int (nI b)), (3, .int (nI a)), (2, .int 1), (1, .int h), (0, .ref (ad 0))]) [0, 1, 4, 5, 6, 7, 8, 9, 10, 11, 12, 13, 14, 15, 16, 17, 18] rfl ?_
            refine y_lv (lv' := [(16, .int (nI (s + 1))), (15, .int 1), (14, .int r), (13, .int b2), (12, .int b1), (11, .int k), (10, .int (nI x)), (9, .int (nI y)), (8, .ref q3), (7, .ref q2), (6, .ref q1), (5, .int (nI e)), (4, .int (nI b)), (3, .int (nI a)), (2, .int 1), (1, .int h), (0, .ref (ad 0))]) [0, 1, 2, 3, 4, 5, 6, 7, 8, 9, 10, 11, 12, 13, 14, 15, 16] rfl ?_
            refine y_lvE (lv2 := [(16, .int (nI (s + 1))), (15, .int (hsv A2 A3 r h0 (nI x) (nI y) (s + 1))), (14, .int r), (13, .int b2), (12, .int b1), (11, .int k), (10, .int (nI x)), (9, .int (nI y)), (8, .ref q3), (7, .ref q2), (6, .ref q1), (5, .int (nI e)), (4, .int (nI b)), (3, .int (nI a)), (2, .int 1), (1, .int h), (0, .ref (ad 0))]) (by first | rw [hs_1 c_235] | rw [hs_2 c_235 c_248] | rw [hs_3 c_235 c_248 c_262] | rw [hs_4 c_235 c_248 c_262]) ?_
            exact ih (s + 1) (by omega) (by omega)
          · refine y_aload d_Lw_isFedRight_238 11 rfl ?_
            refine y_iload d_Lw_isFedRight_240 1 rfl ?_
            refine y_iload d_Lw_isFedRight_242 0 rfl ?_
            refine y_callS (As := [.ref q2, .int (nI x + rtI (nI s)), .int (nI y + dnI (nI s))]) (rest := []) (csC := [(q2, .inl (0, 108, .inl A2))]) (is := [1]) ln_Lw_205 w_st_Lw_in ok_Lw_isFedRight_Lw_in d_Lw_isFedRight_244 (C_Lw_in g q2 A2 (nI x + rtI (nI s)) (nI y + dnI (nI s))) rfl rfl (Nat.le_of_ble_eq_true rfl) rfl (by decide) (by omega) (by omega) (fun E cs1 hx => ?_) (fun v cs1 hx => ?_)
            · exact absurd hx.1 (by simp)
            · obtain ⟨e1, rfl⟩ := hx
              cases e1
              refine ⟨rfl, ?_⟩
              refine y_st (st2 := [.int (inV A2 (nI x + rtI (nI s)) (nI y + dnI (nI s)))]) rfl ?_
              refine y_cs (cs2 := [(q1, .inl (0, 108, .inl A1)), (q2, .inl (0, 108, .inl A2)), (q3, .inl (0, 108, .inl A3))]) rfl ?_
              refine y_iconst d_Lw_isFedRight_247 (v := 1) (by decide) ?_
              refine y_icmp_ne (tgt := 269) d_Lw_isFedRight_248 (by decide) (fun c_248 => ?_) (fun c_248 => ?_)
              · refine y_iconst d_Lw_isFedRight_269 (v := 0) (by decide) ?_
                refine y_istore (lv' := [(15, .int 0), (18, .int (nI y + dnI (nI s))), (17, .int (nI x + rtI (nI s))), (16, .int (nI s)), (14, .int r), (13, .int b2), (12, .int b1), (11, .int k), (10, .int (nI x)), (9, .int (nI y)), (8, .ref q3), (7, .ref q2), (6, .ref q1), (5, .int (nI e)), (4, .int (nI b)), (3, .int (nI a)), (2, .int 1), (1, .int h), (0, .ref (ad 0))]) d_Lw_isFedRight_270 (by decide) rfl ?_
                refine y_iinc (lv' := [(16, .int (nI (s + 1))), (15, .int 0), (18, .int (nI y + dnI (nI s))), (17, .int (nI x + rtI (nI s))), (14, .int r), (13, .int b2), (12, .int b1), (11, .int k), (10, .int (nI x)), (9, .int (nI y)), (8, .ref q3), (7, .ref q2), (6, .ref q1), (5, .int (nI e)), (4, .int (nI b)), (3, .int (nI a)), (2, .int 1), (1, .int h), (0, .ref (ad 0))]) (v := nI (s + 1)) d_Lw_isFedRight_272 (j := 3) rfl (nI_add _ _) (by decide) rfl ?_
                refine y_goto (tgt := 207) d_Lw_isFedRight_275 (by decide) ?_
                refine y_lv (lv' := [(16, .int (nI (s + 1))), (15, .int 0), (14, .int r), (13, .int b2), (12, .int b1), (11, .int k), (10, .int (nI x)), (9, .int (nI y)), (8, .ref q3), (7, .ref q2), (6, .ref q1), (5, .int (nI e)), (4, .int (nI b)), (3, .int (nI a)), (2, .int 1), (1, .int h), (0, .ref (ad 0))]) [0, 1, 4, 5, 6, 7, 8, 9, 10, 11, 12, 13, 14, 15, 16, 17, 18] rfl ?_
                refine y_lv (lv' := [(16, .int (nI (s + 1))), (15, .int 0), (14, .int r), (13, .int b2), (12, .int b1), (11, .int k), (10, .int (nI x)), (9, .int (nI y)), (8, .ref q3), (7, .ref q2), (6, .ref q1), (5, .int (nI e)), (4, .int (nI b)), (3, .int (nI a)), (2, .int 1), (1, .int h), (0, .ref (ad 0))]) [0, 1, 2, 3, 4, 5, 6, 7, 8, 9, 10, 11, 12, 13, 14, 15, 16] rfl ?_
                refine y_lvE (lv2 := [(16, .int (nI (s + 1))), (15, .int (hsv A2 A3 r h0 (nI x) (nI y) (s + 1))), (14, .int r), (13, .int b2), (12, .int b1), (11, .int k), (10, .int (nI x)), (9, .int (nI y)), (8, .ref q3), (7, .ref q2), (6, .ref q1), (5, .int (nI e)), (4, .int (nI b)), (3, .int (nI a)), (2, .int 1), (1, .int h), (0, .ref (ad 0))]) (by first | rw [hs_1 c_235] | rw [hs_2 c_235 c_248] | rw [hs_3 c_235 c_248 c_262] | rw [hs_4 c_235 c_248 c_262]) ?_
                exact ih (s + 1) (by omega) (by omega)
              · refine y_aload d_Lw_isFedRight_251 10 rfl ?_
                refine y_iload d_Lw_isFedRight_253 1 rfl ?_
                refine y_iload d_Lw_isFedRight_255 0 rfl ?_
                refine y_callS (As := [.ref q3, .int (nI x + rtI (nI s)), .int (nI y + dnI (nI s))]) (rest := []) (csC := [(q3, .inl (0, 108, .inl A3))]) (is := [2]) ln_Lw_205 w_st_Lw_in ok_Lw_isFedRight_Lw_in d_Lw_isFedRight_257 (C_Lw_in g q3 A3 (nI x + rtI (nI s)) (nI y + dnI (nI s))) rfl rfl (Nat.le_of_ble_eq_true rfl) rfl (by decide) (by omega) (by omega) (fun E cs1 hx => ?_) (fun v cs1 hx => ?_)
                · exact absurd hx.1 (by simp)
                · obtain ⟨e1, rfl⟩ := hx
                  cases e1
                  refine ⟨rfl, ?_⟩
                  refine y_st (st2 := [.int (inV A3 (nI x + rtI (nI s)) (nI y + dnI (nI s)))]) rfl ?_
                  refine y_cs (cs2 := [(q1, .inl (0, 108, .inl A1)), (q2, .inl (0, 108, .inl A2)), (q3, .inl (0, 108, .inl A3))]) rfl ?_
                  refine y_iload d_Lw_isFedRight_260 4 rfl ?_
                  refine y_icmp_lt (tgt := 269) d_Lw_isFedRight_262 (by decide) (fun c_262 => ?_) (fun c_262 => ?_)
                  · refine y_iconst d_Lw_isFedRight_269 (v := 0) (by decide) ?_
                    refine y_istore (lv' := [(15, .int 0), (18, .int (nI y + dnI (nI s))), (17, .int (nI x + rtI (nI s))), (16, .int (nI s)), (14, .int r), (13, .int b2), (12, .int b1), (11, .int k), (10, .int (nI x)), (9, .int (nI y)), (8, .ref q3), (7, .ref q2), (6, .ref q1), (5, .int (nI e)), (4, .int (nI b)), (3, .int (nI a)), (2, .int 1), (1, .int h), (0, .ref (ad 0))]) d_Lw_isFedRight_270 (by decide) rfl ?_
                    refine y_iinc (lv' := [(16, .int (nI (s + 1))), (15, .int 0), (18, .int (nI y + dnI (nI s))), (17, .int (nI x + rtI (nI s))), (14, .int r), (13, .int b2), (12, .int b1), (11, .int k), (10, .int (nI x)), (9, .int (nI y)), (8, .ref q3), (7, .ref q2), (6, .ref q1), (5, .int (nI e)), (4, .int (nI b)), (3, .int (nI a)), (2, .int 1), (1, .int h), (0, .ref (ad 0))]) (v := nI (s + 1)) d_Lw_isFedRight_272 (j := 3) rfl (nI_add _ _) (by decide) rfl ?_
                    refine y_goto (tgt := 207) d_Lw_isFedRight_275 (by decide) ?_
                    refine y_lv (lv' := [(16, .int (nI (s + 1))), (15, .int 0), (14, .int r), (13, .int b2), (12, .int b1), (11, .int k), (10, .int (nI x)), (9, .int (nI y)), (8, .ref q3), (7, .ref q2), (6, .ref q1), (5, .int (nI e)), (4, .int (nI b)), (3, .int (nI a)), (2, .int 1), (1, .int h), (0, .ref (ad 0))]) [0, 1, 4, 5, 6, 7, 8, 9, 10, 11, 12, 13, 14, 15, 16, 17, 18] rfl ?_
                    refine y_lv (lv' := [(16, .int (nI (s + 1))), (15, .int 0), (14, .int r), (13, .int b2), (12, .int b1), (11, .int k), (10, .int (nI x)), (9, .int (nI y)), (8, .ref q3), (7, .ref q2), (6, .ref q1), (5, .int (nI e)), (4, .int (nI b)), (3, .int (nI a)), (2, .int 1), (1, .int h), (0, .ref (ad 0))]) [0, 1, 2, 3, 4, 5, 6, 7, 8, 9, 10, 11, 12, 13, 14, 15, 16] rfl ?_
                    refine y_lvE (lv2 := [(16, .int (nI (s + 1))), (15, .int (hsv A2 A3 r h0 (nI x) (nI y) (s + 1))), (14, .int r), (13, .int b2), (12, .int b1), (11, .int k), (10, .int (nI x)), (9, .int (nI y)), (8, .ref q3), (7, .ref q2), (6, .ref q1), (5, .int (nI e)), (4, .int (nI b)), (3, .int (nI a)), (2, .int 1), (1, .int h), (0, .ref (ad 0))]) (by first | rw [hs_1 c_235] | rw [hs_2 c_235 c_248] | rw [hs_3 c_235 c_248 c_262] | rw [hs_4 c_235 c_248 c_262]) ?_
                    exact ih (s + 1) (by omega) (by omega)
                  · refine y_iconst d_Lw_isFedRight_265 (v := 1) (by decide) ?_
                    refine y_goto (tgt := 270) d_Lw_isFedRight_266 (by decide) ?_
                    refine y_istore (lv' := [(15, .int 1), (18, .int (nI y + dnI (nI s))), (17, .int (nI x + rtI (nI s))), (16, .int (nI s)), (14, .int r), (13, .int b2), (12, .int b1), (11, .int k), (10, .int (nI x)), (9, .int (nI y)), (8, .ref q3), (7, .ref q2), (6, .ref q1), (5, .int (nI e)), (4, .int (nI b)), (3, .int (nI a)), (2, .int 1), (1, .int h), (0, .ref (ad 0))]) d_Lw_isFedRight_270 (by decide) rfl ?_
                    refine y_iinc (lv' := [(16, .int (nI (s + 1))), (15, .int 1), (18, .int (nI y + dnI (nI s))), (17, .int (nI x + rtI (nI s))), (14, .int r), (13, .int b2), (12, .int b1), (11, .int k), (10, .int (nI x)), (9, .int (nI y)), (8, .ref q3), (7, .ref q2), (6, .ref q1), (5, .int (nI e)), (4, .int (nI b)), (3, .int (nI a)), (2, .int 1), (1, .int h), (0, .ref (ad 0))]) (v := nI (s + 1)) d_Lw_isFedRight_272 (j := 3) rfl (nI_add _ _) (by decide) rfl ?_
                    refine y_goto (tgt := 207) d_Lw_isFedRight_275 (by decide) ?_
                    refine y_lv (lv' := [(16, .int (nI (s + 1))), (15, .int 1), (14, .int r), (13, .int b2), (12, .int b1), (11, .int k), (10, .int (nI x)), (9, .int (nI y)), (8, .ref q3), (7, .ref q2), (6, .ref q1), (5, .int (nI e)), (4, .int (nI b)), (3, .int (nI a)), (2, .int 1), (1, .int h), (0, .ref (ad 0))]) [0, 1, 4, 5, 6, 7, 8, 9, 10, 11, 12, 13, 14, 15, 16, 17, 18] rfl ?_
                    refine y_lv (lv' := [(16, .int (nI (s + 1))), (15, .int 1), (14, .int r), (13, .int b2), (12, .int b1), (11, .int k), (10, .int (nI x)), (9, .int (nI y)), (8, .ref q3), (7, .ref q2), (6, .ref q1), (5, .int (nI e)), (4, .int (nI b)), (3, .int (nI a)), (2, .int 1), (1, .int h), (0, .ref (ad 0))]) [0, 1, 2, 3, 4, 5, 6, 7, 8, 9, 10, 11, 12, 13, 14, 15, 16] rfl ?_
                    refine y_lvE (lv2 := [(16, .int (nI (s + 1))), (15, .int (hsv A2 A3 r h0 (nI x) (nI y) (s + 1))), (14, .int r), (13, .int b2), (12, .int b1), (11, .int k), (10, .int (nI x)), (9, .int (nI y)), (8, .ref q3), (7, .ref q2), (6, .ref q1), (5, .int (nI e)), (4, .int (nI b)), (3, .int (nI a)), (2, .int 1), (1, .int h), (0, .ref (ad 0))]) (by first | rw [hs_1 c_235] | rw [hs_2 c_235 c_248] | rw [hs_3 c_235 c_248 c_262] | rw [hs_4 c_235 c_248 c_262]) ?_
                    exact ih (s + 1) (by omega) (by omega)
theorem d_Lw_isFedRight_57 : decode method_19_code 57 = .ok (.aload_n 0, 1) := zo_42 (zd_b zq_method_19_code_1 25 rfl rfl rfl)
theorem d_Lw_isFedRight_58 : decode method_19_code 58 = .ok (.iload 10, 2) := zo_21 (d := 10) (zd_b zq_method_19_code_1 26 rfl rfl rfl) (zd_b zq_method_19_code_1 27 rfl rfl rfl)
theorem d_Lw_isFedRight_60 : decode method_19_code 60 = .ok (.iload 9, 2) := zo_21 (d := 9) (zd_b zq_method_19_code_1 28 rfl rfl rfl) (zd_b zq_method_19_code_1 29 rfl rfl rfl)
theorem d_Lw_isFedRight_62 : decode method_19_code 62 = .ok (.invokestatic 197, 3) := zo_184 (d := 0) (e := 197) (zd_b zq_method_19_code_1 30 rfl rfl rfl) (zd_b zq_method_19_code_1 31 rfl rfl rfl) (zd_b zq_method_19_code_2 0 rfl rfl rfl)
theorem ok_Lw_isFedRight_Lw_at : z_ok M_Lw_isFedRight M_Lw_at 3 := ⟨z_mj6 (i := 174) rfl (by decide +kernel), rfl, ⟨by decide +kernel, by decide +kernel, by decide +kernel⟩, ⟨by decide, by decide⟩, z_mj1 (i := 0) rfl (by decide +kernel), rfl⟩
theorem d_Lw_isFedRight_65 : decode method_19_code 65 = .ok (.istore 11, 2) := zo_54 (d := 11) (zd_b zq_method_19_code_2 1 rfl rfl rfl) (zd_b zq_method_19_code_2 2 rfl rfl rfl)
theorem d_Lw_isFedRight_67 : decode method_19_code 67 = .ok (.aload 6, 2) := zo_25 (d := 6) (zd_b zq_method_19_code_2 3 rfl rfl rfl) (zd_b zq_method_19_code_2 4 rfl rfl rfl)
theorem d_Lw_isFedRight_69 : decode method_19_code 69 = .ok (.iload 10, 2) := zo_21 (d := 10) (zd_b zq_method_19_code_2 5 rfl rfl rfl) (zd_b zq_method_19_code_2 6 rfl rfl rfl)
theorem d_Lw_isFedRight_71 : decode method_19_code 71 = .ok (.iload 9, 2) := zo_21 (d := 9) (zd_b zq_method_19_code_2 7 rfl rfl rfl) (zd_b zq_method_19_code_2 8 rfl rfl rfl)
theorem d_Lw_isFedRight_73 : decode method_19_code 73 = .ok (.invokestatic 205, 3) := zo_184 (d := 0) (e := 205) (zd_b zq_method_19_code_2 9 rfl rfl rfl) (zd_b zq_method_19_code_2 10 rfl rfl rfl) (zd_b zq_method_19_code_2 11 rfl rfl rfl)
theorem d_Lw_isFedRight_76 : decode method_19_code 76 = .ok (.ifCond .lt 7, 3) := zo_155 (d := 0) (e := 7) (zd_b zq_method_19_code_2 12 rfl rfl rfl) (zd_b zq_method_19_code_2 13 rfl rfl rfl) (zd_b zq_method_19_code_2 14 rfl rfl rfl) (by decide +kernel)
theorem d_Lw_isFedRight_79 : decode method_19_code 79 = .ok (.iconst 1, 1) := zo_4 (zd_b zq_method_19_code_2 15 rfl rfl rfl)
theorem d_Lw_isFedRight_80 : decode method_19_code 80 = .ok (.goto 4, 3) := zo_167 (d := 0) (e := 4) (zd_b zq_method_19_code_2 16 rfl rfl rfl) (zd_b zq_method_19_code_2 17 rfl rfl rfl) (zd_b zq_method_19_code_2 18 rfl rfl rfl) (by decide +kernel)
theorem d_Lw_isFedRight_84 : decode method_19_code 84 = .ok (.istore 12, 2) := zo_54 (d := 12) (zd_b zq_method_19_code_2 20 rfl rfl rfl) (zd_b zq_method_19_code_2 21 rfl rfl rfl)
theorem d_Lw_isFedRight_86 : decode method_19_code 86 = .ok (.aload 7, 2) := zo_25 (d := 7) (zd_b zq_method_19_code_2 22 rfl rfl rfl) (zd_b zq_method_19_code_2 23 rfl rfl rfl)
theorem d_Lw_isFedRight_88 : decode method_19_code 88 = .ok (.iload 10, 2) := zo_21 (d := 10) (zd_b zq_method_19_code_2 24 rfl rfl rfl) (zd_b zq_method_19_code_2 25 rfl rfl rfl)
theorem d_Lw_isFedRight_90 : decode method_19_code 90 = .ok (.iload 9, 2) := zo_21 (d := 9) (zd_b zq_method_19_code_2 26 rfl rfl rfl) (zd_b zq_method_19_code_2 27 rfl rfl rfl)
theorem d_Lw_isFedRight_92 : decode method_19_code 92 = .ok (.invokestatic 205, 3) := zo_184 (d := 0) (e := 205) (zd_b zq_method_19_code_2 28 rfl rfl rfl) (zd_b zq_method_19_code_2 29 rfl rfl rfl) (zd_b zq_method_19_code_2 30 rfl rfl rfl)
theorem d_Lw_isFedRight_95 : decode method_19_code 95 = .ok (.iconst 1, 1) := zo_4 (zd_b zq_method_19_code_2 31 rfl rfl rfl)
theorem d_Lw_isFedRight_96 : decode method_19_code 96 = .ok (.if_icmp .ne 7, 3) := zo_160 (d := 0) (e := 7) (zd_b zq_method_19_code_3 0 rfl rfl rfl) (zd_b zq_method_19_code_3 1 rfl rfl rfl) (zd_b zq_method_19_code_3 2 rfl rfl rfl) (by decide +kernel)
theorem d_Lw_isFedRight_99 : decode method_19_code 99 = .ok (.iconst 1, 1) := zo_4 (zd_b zq_method_19_code_3 3 rfl rfl rfl)
theorem d_Lw_isFedRight_100 : decode method_19_code 100 = .ok (.goto 4, 3) := zo_167 (d := 0) (e := 4) (zd_b zq_method_19_code_3 4 rfl rfl rfl) (zd_b zq_method_19_code_3 5 rfl rfl rfl) (zd_b zq_method_19_code_3 6 rfl rfl rfl) (by decide +kernel)
theorem d_Lw_isFedRight_104 : decode method_19_code 104 = .ok (.istore 13, 2) := zo_54 (d := 13) (zd_b zq_method_19_code_3 8 rfl rfl rfl) (zd_b zq_method_19_code_3 9 rfl rfl rfl)
theorem d_Lw_isFedRight_106 : decode method_19_code 106 = .ok (.aload 8, 2) := zo_25 (d := 8) (zd_b zq_method_19_code_3 10 rfl rfl rfl) (zd_b zq_method_19_code_3 11 rfl rfl rfl)
theorem d_Lw_isFedRight_108 : decode method_19_code 108 = .ok (.iload 10, 2) := zo_21 (d := 10) (zd_b zq_method_19_code_3 12 rfl rfl rfl) (zd_b zq_method_19_code_3 13 rfl rfl rfl)
theorem d_Lw_isFedRight_110 : decode method_19_code 110 = .ok (.iload 9, 2) := zo_21 (d := 9) (zd_b zq_method_19_code_3 14 rfl rfl rfl) (zd_b zq_method_19_code_3 15 rfl rfl rfl)
theorem d_Lw_isFedRight_112 : decode method_19_code 112 = .ok (.invokestatic 205, 3) := zo_184 (d := 0) (e := 205) (zd_b zq_method_19_code_3 16 rfl rfl rfl) (zd_b zq_method_19_code_3 17 rfl rfl rfl) (zd_b zq_method_19_code_3 18 rfl rfl rfl)
theorem d_Lw_isFedRight_115 : decode method_19_code 115 = .ok (.istore 14, 2) := zo_54 (d := 14) (zd_b zq_method_19_code_3 19 rfl rfl rfl) (zd_b zq_method_19_code_3 20 rfl rfl rfl)
theorem d_Lw_isFedRight_117 : decode method_19_code 117 = .ok (.iload_n 3, 1) := zo_29 (zd_b zq_method_19_code_3 21 rfl rfl rfl)
theorem d_Lw_isFedRight_118 : decode method_19_code 118 = .ok (.iload 11, 2) := zo_21 (d := 11) (zd_b zq_method_19_code_3 22 rfl rfl rfl) (zd_b zq_method_19_code_3 23 rfl rfl rfl)
theorem d_Lw_isFedRight_120 : decode method_19_code 120 = .ok (.bipush 114, 2) := zo_16 (d := 114) (zd_b zq_method_19_code_3 24 rfl rfl rfl) (zd_b zq_method_19_code_3 25 rfl rfl rfl) (by decide +kernel)
theorem d_Lw_isFedRight_122 : decode method_19_code 122 = .ok (.if_icmp .ne 12, 3) := zo_160 (d := 0) (e := 12) (zd_b zq_method_19_code_3 26 rfl rfl rfl) (zd_b zq_method_19_code_3 27 rfl rfl rfl) (zd_b zq_method_19_code_3 28 rfl rfl rfl) (by decide +kernel)
theorem d_Lw_isFedRight_125 : decode method_19_code 125 = .ok (.iload 12, 2) := zo_21 (d := 12) (zd_b zq_method_19_code_3 29 rfl rfl rfl) (zd_b zq_method_19_code_3 30 rfl rfl rfl)
theorem d_Lw_isFedRight_127 : decode method_19_code 127 = .ok (.ifCond .eq 7, 3) := zo_153 (d := 0) (e := 7) (zd_b zq_method_19_code_3 31 rfl rfl rfl) (zd_b zq_method_19_code_4 0 rfl rfl rfl) (zd_b zq_method_19_code_4 1 rfl rfl rfl) (by decide +kernel)
theorem d_Lw_isFedRight_130 : decode method_19_code 130 = .ok (.iconst 1, 1) := zo_4 (zd_b zq_method_19_code_4 2 rfl rfl rfl)
theorem d_Lw_isFedRight_131 : decode method_19_code 131 = .ok (.goto 4, 3) := zo_167 (d := 0) (e := 4) (zd_b zq_method_19_code_4 3 rfl rfl rfl) (zd_b zq_method_19_code_4 4 rfl rfl rfl) (zd_b zq_method_19_code_4 5 rfl rfl rfl) (by decide +kernel)
theorem d_Lw_isFedRight_135 : decode method_19_code 135 = .ok (.invokestatic 66, 3) := zo_184 (d := 0) (e := 66) (zd_b zq_method_19_code_4 7 rfl rfl rfl) (zd_b zq_method_19_code_4 8 rfl rfl rfl) (zd_b zq_method_19_code_4 9 rfl rfl rfl)
theorem ok_Lw_isFedRight_Lw_told : z_ok M_Lw_isFedRight M_Lw_told 1 := ⟨z_mj5 (i := 192) rfl (by decide +kernel), rfl, ⟨by decide +kernel, by decide +kernel, by decide +kernel⟩, ⟨by decide, by decide⟩, z_mj1 (i := 0) rfl (by decide +kernel), rfl⟩
theorem d_Lw_isFedRight_138 : decode method_19_code 138 = .ok (.iadd, 1) := zo_96 (zd_b zq_method_19_code_4 10 rfl rfl rfl)
theorem d_Lw_isFedRight_139 : decode method_19_code 139 = .ok (.istore_n 3, 1) := zo_62 (zd_b zq_method_19_code_4 11 rfl rfl rfl)
theorem d_Lw_isFedRight_140 : decode method_19_code 140 = .ok (.iload 4, 2) := zo_21 (d := 4) (zd_b zq_method_19_code_4 12 rfl rfl rfl) (zd_b zq_method_19_code_4 13 rfl rfl rfl)
theorem d_Lw_isFedRight_142 : decode method_19_code 142 = .ok (.iload 11, 2) := zo_21 (d := 11) (zd_b zq_method_19_code_4 14 rfl rfl rfl) (zd_b zq_method_19_code_4 15 rfl rfl rfl)
theorem d_Lw_isFedRight_144 : decode method_19_code 144 = .ok (.bipush 99, 2) := zo_16 (d := 99) (zd_b zq_method_19_code_4 16 rfl rfl rfl) (zd_b zq_method_19_code_4 17 rfl rfl rfl) (by decide +kernel)
theorem d_Lw_isFedRight_146 : decode method_19_code 146 = .ok (.if_icmp .ne 12, 3) := zo_160 (d := 0) (e := 12) (zd_b zq_method_19_code_4 18 rfl rfl rfl) (zd_b zq_method_19_code_4 19 rfl rfl rfl) (zd_b zq_method_19_code_4 20 rfl rfl rfl) (by decide +kernel)
theorem d_Lw_isFedRight_158 : decode method_19_code 158 = .ok (.iconst 0, 1) := zo_3 (zd_b zq_method_19_code_4 30 rfl rfl rfl)
theorem d_Lw_isFedRight_159 : decode method_19_code 159 = .ok (.invokestatic 66, 3) := zo_184 (d := 0) (e := 66) (zd_b zq_method_19_code_4 31 rfl rfl rfl) (zd_b zq_method_19_code_5 0 rfl rfl rfl) (zd_b zq_method_19_code_5 1 rfl rfl rfl)
theorem d_Lw_isFedRight_162 : decode method_19_code 162 = .ok (.iadd, 1) := zo_96 (zd_b zq_method_19_code_5 2 rfl rfl rfl)
theorem d_Lw_isFedRight_163 : decode method_19_code 163 = .ok (.istore 4, 2) := zo_54 (d := 4) (zd_b zq_method_19_code_5 3 rfl rfl rfl) (zd_b zq_method_19_code_5 4 rfl rfl rfl)
theorem d_Lw_isFedRight_165 : decode method_19_code 165 = .ok (.iload 5, 2) := zo_21 (d := 5) (zd_b zq_method_19_code_5 5 rfl rfl rfl) (zd_b zq_method_19_code_5 6 rfl rfl rfl)
theorem d_Lw_isFedRight_167 : decode method_19_code 167 = .ok (.iload 11, 2) := zo_21 (d := 11) (zd_b zq_method_19_code_5 7 rfl rfl rfl) (zd_b zq_method_19_code_5 8 rfl rfl rfl)
theorem d_Lw_isFedRight_169 : decode method_19_code 169 = .ok (.bipush 99, 2) := zo_16 (d := 99) (zd_b zq_method_19_code_5 9 rfl rfl rfl) (zd_b zq_method_19_code_5 10 rfl rfl rfl) (by decide +kernel)
theorem d_Lw_isFedRight_171 : decode method_19_code 171 = .ok (.if_icmp .ne 12, 3) := zo_160 (d := 0) (e := 12) (zd_b zq_method_19_code_5 11 rfl rfl rfl) (zd_b zq_method_19_code_5 12 rfl rfl rfl) (zd_b zq_method_19_code_5 13 rfl rfl rfl) (by decide +kernel)
theorem d_Lw_isFedRight_183 : decode method_19_code 183 = .ok (.iconst 0, 1) := zo_3 (zd_b zq_method_19_code_5 23 rfl rfl rfl)
theorem d_Lw_isFedRight_184 : decode method_19_code 184 = .ok (.invokestatic 66, 3) := zo_184 (d := 0) (e := 66) (zd_b zq_method_19_code_5 24 rfl rfl rfl) (zd_b zq_method_19_code_5 25 rfl rfl rfl) (zd_b zq_method_19_code_5 26 rfl rfl rfl)
theorem d_Lw_isFedRight_187 : decode method_19_code 187 = .ok (.iadd, 1) := zo_96 (zd_b zq_method_19_code_5 27 rfl rfl rfl)
theorem d_Lw_isFedRight_188 : decode method_19_code 188 = .ok (.istore 5, 2) := zo_54 (d := 5) (zd_b zq_method_19_code_5 28 rfl rfl rfl) (zd_b zq_method_19_code_5 29 rfl rfl rfl)
theorem d_Lw_isFedRight_190 : decode method_19_code 190 = .ok (.iload 11, 2) := zo_21 (d := 11) (zd_b zq_method_19_code_5 30 rfl rfl rfl) (zd_b zq_method_19_code_5 31 rfl rfl rfl)
theorem d_Lw_isFedRight_192 : decode method_19_code 192 = .ok (.bipush 114, 2) := zo_16 (d := 114) (zd_b zq_method_19_code_6 0 rfl rfl rfl) (zd_b zq_method_19_code_6 1 rfl rfl rfl) (by decide +kernel)
theorem d_Lw_isFedRight_194 : decode method_19_code 194 = .ok (.if_icmp .ne 7, 3) := zo_160 (d := 0) (e := 7) (zd_b zq_method_19_code_6 2 rfl rfl rfl) (zd_b zq_method_19_code_6 3 rfl rfl rfl) (zd_b zq_method_19_code_6 4 rfl rfl rfl) (by decide +kernel)
theorem d_Lw_isFedRight_197 : decode method_19_code 197 = .ok (.iconst 1, 1) := zo_4 (zd_b zq_method_19_code_6 5 rfl rfl rfl)
theorem d_Lw_isFedRight_198 : decode method_19_code 198 = .ok (.goto 4, 3) := zo_167 (d := 0) (e := 4) (zd_b zq_method_19_code_6 6 rfl rfl rfl) (zd_b zq_method_19_code_6 7 rfl rfl rfl) (zd_b zq_method_19_code_6 8 rfl rfl rfl) (by decide +kernel)
theorem d_Lw_isFedRight_202 : decode method_19_code 202 = .ok (.istore 15, 2) := zo_54 (d := 15) (zd_b zq_method_19_code_6 10 rfl rfl rfl) (zd_b zq_method_19_code_6 11 rfl rfl rfl)
theorem d_Lw_isFedRight_204 : decode method_19_code 204 = .ok (.iconst 0, 1) := zo_3 (zd_b zq_method_19_code_6 12 rfl rfl rfl)
theorem d_Lw_isFedRight_205 : decode method_19_code 205 = .ok (.istore 16, 2) := zo_54 (d := 16) (zd_b zq_method_19_code_6 13 rfl rfl rfl) (zd_b zq_method_19_code_6 14 rfl rfl rfl)
theorem d_Lw_isFedRight_278 : decode method_19_code 278 = .ok (.iload_n 2, 1) := zo_28 (zd_b zq_method_19_code_8 22 rfl rfl rfl)
theorem d_Lw_isFedRight_279 : decode method_19_code 279 = .ok (.ifCond .eq 52, 3) := zo_153 (d := 0) (e := 52) (zd_b zq_method_19_code_8 23 rfl rfl rfl) (zd_b zq_method_19_code_8 24 rfl rfl rfl) (zd_b zq_method_19_code_8 25 rfl rfl rfl) (by decide +kernel)
theorem d_Lw_isFedRight_282 : decode method_19_code 282 = .ok (.iload 13, 2) := zo_21 (d := 13) (zd_b zq_method_19_code_8 26 rfl rfl rfl) (zd_b zq_method_19_code_8 27 rfl rfl rfl)
theorem d_Lw_isFedRight_284 : decode method_19_code 284 = .ok (.ifCond .eq 13, 3) := zo_153 (d := 0) (e := 13) (zd_b zq_method_19_code_8 28 rfl rfl rfl) (zd_b zq_method_19_code_8 29 rfl rfl rfl) (zd_b zq_method_19_code_8 30 rfl rfl rfl) (by decide +kernel)
theorem d_Lw_isFedRight_287 : decode method_19_code 287 = .ok (.iload 12, 2) := zo_21 (d := 12) (zd_b zq_method_19_code_8 31 rfl rfl rfl) (zd_b zq_method_19_code_9 0 rfl rfl rfl)
theorem d_Lw_isFedRight_289 : decode method_19_code 289 = .ok (.ifCond .eq 42, 3) := zo_153 (d := 0) (e := 42) (zd_b zq_method_19_code_9 1 rfl rfl rfl) (zd_b zq_method_19_code_9 2 rfl rfl rfl) (zd_b zq_method_19_code_9 3 rfl rfl rfl) (by decide +kernel)
theorem d_Lw_isFedRight_292 : decode method_19_code 292 = .ok (.iload 15, 2) := zo_21 (d := 15) (zd_b zq_method_19_code_9 4 rfl rfl rfl) (zd_b zq_method_19_code_9 5 rfl rfl rfl)
theorem d_Lw_isFedRight_294 : decode method_19_code 294 = .ok (.ifCond .eq 37, 3) := zo_153 (d := 0) (e := 37) (zd_b zq_method_19_code_9 6 rfl rfl rfl) (zd_b zq_method_19_code_9 7 rfl rfl rfl) (zd_b zq_method_19_code_9 8 rfl rfl rfl) (by decide +kernel)
theorem d_Lw_isFedRight_297 : decode method_19_code 297 = .ok (.iload 11, 2) := zo_21 (d := 11) (zd_b zq_method_19_code_9 9 rfl rfl rfl) (zd_b zq_method_19_code_9 10 rfl rfl rfl)
theorem d_Lw_isFedRight_299 : decode method_19_code 299 = .ok (.bipush 114, 2) := zo_16 (d := 114) (zd_b zq_method_19_code_9 11 rfl rfl rfl) (zd_b zq_method_19_code_9 12 rfl rfl rfl) (by decide +kernel)
theorem d_Lw_isFedRight_301 : decode method_19_code 301 = .ok (.if_icmp .ne 10, 3) := zo_160 (d := 0) (e := 10) (zd_b zq_method_19_code_9 13 rfl rfl rfl) (zd_b zq_method_19_code_9 14 rfl rfl rfl) (zd_b zq_method_19_code_9 15 rfl rfl rfl) (by decide +kernel)
theorem d_Lw_isFedRight_304 : decode method_19_code 304 = .ok (.iload 13, 2) := zo_21 (d := 13) (zd_b zq_method_19_code_9 16 rfl rfl rfl) (zd_b zq_method_19_code_9 17 rfl rfl rfl)
theorem d_Lw_isFedRight_306 : decode method_19_code 306 = .ok (.iload 12, 2) := zo_21 (d := 12) (zd_b zq_method_19_code_9 18 rfl rfl rfl) (zd_b zq_method_19_code_9 19 rfl rfl rfl)
theorem d_Lw_isFedRight_308 : decode method_19_code 308 = .ok (.if_icmp .ne 23, 3) := zo_160 (d := 0) (e := 23) (zd_b zq_method_19_code_9 20 rfl rfl rfl) (zd_b zq_method_19_code_9 21 rfl rfl rfl) (zd_b zq_method_19_code_9 22 rfl rfl rfl) (by decide +kernel)
theorem d_Lw_isFedRight_311 : decode method_19_code 311 = .ok (.iload 14, 2) := zo_21 (d := 14) (zd_b zq_method_19_code_9 23 rfl rfl rfl) (zd_b zq_method_19_code_9 24 rfl rfl rfl)
theorem d_Lw_isFedRight_313 : decode method_19_code 313 = .ok (.iconst 1, 1) := zo_4 (zd_b zq_method_19_code_9 25 rfl rfl rfl)
theorem d_Lw_isFedRight_314 : decode method_19_code 314 = .ok (.if_icmp .lt 7, 3) := zo_161 (d := 0) (e := 7) (zd_b zq_method_19_code_9 26 rfl rfl rfl) (zd_b zq_method_19_code_9 27 rfl rfl rfl) (zd_b zq_method_19_code_9 28 rfl rfl rfl) (by decide +kernel)
theorem d_Lw_isFedRight_317 : decode method_19_code 317 = .ok (.iconst 1, 1) := zo_4 (zd_b zq_method_19_code_9 29 rfl rfl rfl)
theorem d_Lw_isFedRight_318 : decode method_19_code 318 = .ok (.goto 4, 3) := zo_167 (d := 0) (e := 4) (zd_b zq_method_19_code_9 30 rfl rfl rfl) (zd_b zq_method_19_code_9 31 rfl rfl rfl) (zd_b zq_method_19_code_10 0 rfl rfl rfl) (by decide +kernel)
theorem d_Lw_isFedRight_322 : decode method_19_code 322 = .ok (.iload 12, 2) := zo_21 (d := 12) (zd_b zq_method_19_code_10 2 rfl rfl rfl) (zd_b zq_method_19_code_10 3 rfl rfl rfl)
theorem d_Lw_isFedRight_324 : decode method_19_code 324 = .ok (.if_icmp .ne 7, 3) := zo_160 (d := 0) (e := 7) (zd_b zq_method_19_code_10 4 rfl rfl rfl) (zd_b zq_method_19_code_10 5 rfl rfl rfl) (zd_b zq_method_19_code_10 6 rfl rfl rfl) (by decide +kernel)
theorem d_Lw_isFedRight_327 : decode method_19_code 327 = .ok (.iconst 1, 1) := zo_4 (zd_b zq_method_19_code_10 7 rfl rfl rfl)
theorem d_Lw_isFedRight_328 : decode method_19_code 328 = .ok (.goto 4, 3) := zo_167 (d := 0) (e := 4) (zd_b zq_method_19_code_10 8 rfl rfl rfl) (zd_b zq_method_19_code_10 9 rfl rfl rfl) (zd_b zq_method_19_code_10 10 rfl rfl rfl) (by decide +kernel)
theorem d_Lw_isFedRight_332 : decode method_19_code 332 = .ok (.istore_n 2, 1) := zo_61 (zd_b zq_method_19_code_10 12 rfl rfl rfl)
theorem d_Lw_isFedRight_333 : decode method_19_code 333 = .ok (.iinc 10 1, 3) := by decide +kernel
theorem d_Lw_isFedRight_336 : decode method_19_code 336 = .ok (.goto (-286), 3) := zo_167 (d := 254) (e := 226) (zd_b zq_method_19_code_10 16 rfl rfl rfl) (zd_b zq_method_19_code_10 17 rfl rfl rfl) (zd_b zq_method_19_code_10 18 rfl rfl rfl) (by decide +kernel)
set_option maxHeartbeats 4000000 in
set_option maxRecDepth 100000 in
theorem F_A (g : zG) {ad : Nat → Nat} {t0 : zTT} {u : zNN} {f : Nat → Int32} {p : Nat} {w9 : zW} (hW : Wd g ad t0 u f p w9) {q1 q2 q3 : Nat} {A1 A2 A3 : Nat → Int32} {h : Int32} (hh : 1250 ≤ h ∧ h < 1450) (n1 : z_nf ad q1) (h1 : w9 q1 = some (.inl (0, 108, .inl A1))) (n2 : z_nf ad q2) (h2 : w9 q2 = some (.inl (0, 108, .inl A2))) (n3 : z_nf ad q3) (h3 : w9 q3 = some (.inl (0, 108, .inl A3))) (e1 : ∀ c, c < 108 → A1 c = fiO f c) (e2 : ∀ c, c < 108 → A2 c = fdO f h c) (e3 : ∀ c, c < 108 → A3 c = frO f h c) {x y a b e : Nat} {kc ks : Nat} (hx : x < 12) (hy : y < 9) (hk : f (12 * y + x) = 114) (hv : ¬ fiO f (12 * y + x) < 0) (he : fdO f h (12 * y + x) = 1) (K : DU g M_Lw_isFedRight (fun o w1 => o = .inl (some (.int 1)) ∧ Wd g ad t0 u f p w1) w9 3 50 [(10, .int (nI (x + 1))), (9, .int (nI y)), (8, .ref q3), (7, .ref q2), (6, .ref q1), (5, .int (nI e)), (4, .int (nI b)), (3, .int (nI (a + 1))), (2, .int 1), (1, .int h), (0, .ref (ad 0))] [] [(q1, .inl (0, 108, .inl A1)), (q2, .inl (0, 108, .inl A2)), (q3, .inl (0, 108, .inl A3))] (kc) (ks)) : DU g M_Lw_isFedRight (fun o w1 => o = .inl (some (.int 1)) ∧ Wd g ad t0 u f p w1) w9 3 57 [(10, .int (nI x)), (9, .int (nI y)), (8, .ref q3), (7, .ref q2), (6, .ref q1), (5, .int (nI e)), (4, .int (nI b)), (3, .int (nI a)), (2, .int 1), (1, .int h), (0, .ref (ad 0))] [] [(q1, .inl (0, 108, .inl A1)), (q2, .inl (0, 108, .inl A2)), (q3, .inl (0, 108, .inl A3))] (kc + 1) (ks + 6) := by
  refine y_aload_n d_Lw_isFedRight_57 rfl 10 rfl ?_
  refine y_iload d_Lw_isFedRight_58 0 rfl ?_
  refine y_iload d_Lw_isFedRight_60 1 rfl ?_
  refine yw_callS (As := [.ref (ad 0), .int (nI x), .int (nI y)]) (rest := []) ln_Lw_197 w_st_Lw_at ok_Lw_isFedRight_Lw_at d_Lw_isFedRight_62 (fun wA hA => T_at (hW.al hA rfl (List.forall_mem_cons.mpr ⟨⟨n1, _, _, h1⟩, (List.forall_mem_cons.mpr ⟨⟨n2, _, _, h2⟩, (List.forall_mem_cons.mpr ⟨⟨n3, _, _, h3⟩, (fun _ h => nomatch h)⟩)⟩)⟩)) hx hy) rfl rfl (Nat.le_of_ble_eq_true rfl) (by omega) (by omega) (fun wA62 hA62 E wB62 hx => ?_) (fun wA62 hA62 v wB62 hx => ?_)
  · exact absurd hx.1 (by simp)
  · obtain ⟨e1, e2⟩ := hx
    cases e1
    refine yw_st (st2 := [.int (f (12 * y + x))]) rfl ?_
    subst e2
    refine y_go hA62 ?_
    refine y_st (st2 := [.int 114]) (by rw [hk]) ?_
    refine y_istore (lv' := [(11, .int 114), (10, .int (nI x)), (9, .int (nI y)), (8, .ref q3), (7, .ref q2), (6, .ref q1), (5, .int (nI e)), (4, .int (nI b)), (3, .int (nI a)), (2, .int 1), (1, .int h), (0, .ref (ad 0))]) d_Lw_isFedRight_65 (by decide) rfl ?_
    refine y_aload d_Lw_isFedRight_67 5 rfl ?_
    refine y_iload d_Lw_isFedRight_69 1 rfl ?_
    refine y_iload d_Lw_isFedRight_71 2 rfl ?_
    refine y_callS (As := [.ref q1, .int (nI x), .int (nI y)]) (rest := []) (csC := [(q1, .inl (0, 108, .inl A1))]) (is := [0]) ln_Lw_205 w_st_Lw_in ok_Lw_isFedRight_Lw_in d_Lw_isFedRight_73 (C_Lw_in g q1 A1 (nI x) (nI y)) rfl rfl (Nat.le_of_ble_eq_true rfl) rfl (by decide) (by omega) (by omega) (fun E cs1 hx => ?_) (fun v cs1 hx => ?_)
    · exact absurd hx.1 (by simp)
    · obtain ⟨e1, rfl⟩ := hx
      cases e1
      refine ⟨rfl, ?_⟩
      refine y_st (st2 := [.int (inV A1 (nI x) (nI y))]) rfl ?_
      refine y_cs (cs2 := [(q1, .inl (0, 108, .inl A1)), (q2, .inl (0, 108, .inl A2)), (q3, .inl (0, 108, .inl A3))]) rfl ?_
      refine y_st (st2 := [.int (fiO f (12 * y + x))]) (by rw [inV_s (cl_in hx hy), e1 _ (by omega)]) ?_
      refine y_if_lt (tgt := 83) d_Lw_isFedRight_76 (by decide) (fun c_76 => ?_) (fun c_76 => ?_)
      · exact absurd c_76 hv
      · refine y_iconst d_Lw_isFedRight_79 (v := 1) (by decide) ?_
        refine y_goto (tgt := 84) d_Lw_isFedRight_80 (by decide) ?_
        refine y_istore (lv' := [(12, .int 1), (11, .int 114), (10, .int (nI x)), (9, .int (nI y)), (8, .ref q3), (7, .ref q2), (6, .ref q1), (5, .int (nI e)), (4, .int (nI b)), (3, .int (nI a)), (2, .int 1), (1, .int h), (0, .ref (ad 0))]) d_Lw_isFedRight_84 (by decide) rfl ?_
        refine y_aload d_Lw_isFedRight_86 5 rfl ?_
        refine y_iload d_Lw_isFedRight_88 2 rfl ?_
        refine y_iload d_Lw_isFedRight_90 3 rfl ?_
        refine y_callS (As := [.ref q2, .int (nI x), .int (nI y)]) (rest := []) (csC := [(q2, .inl (0, 108, .inl A2))]) (is := [1]) ln_Lw_205 w_st_Lw_in ok_Lw_isFedRight_Lw_in d_Lw_isFedRight_92 (C_Lw_in g q2 A2 (nI x) (nI y)) rfl rfl (Nat.le_of_ble_eq_true rfl) rfl (by decide) (by omega) (by omega) (fun E cs1 hx => ?_) (fun v cs1 hx => ?_)
        · exact absurd hx.1 (by simp)
        · obtain ⟨e1, rfl⟩ := hx
          cases e1
          refine ⟨rfl, ?_⟩
          refine y_st (st2 := [.int (inV A2 (nI x) (nI y))]) rfl ?_
          refine y_cs (cs2 := [(q1, .inl (0, 108, .inl A1)), (q2, .inl (0, 108, .inl A2)), (q3, .inl (0, 108, .inl A3))]) rfl ?_
          refine y_st (st2 := [.int 1]) (by rw [inV_s (cl_in hx hy), e2 _ (by omega), he]) ?_
          refine y_iconst d_Lw_isFedRight_95 (v := 1) (by decide) ?_
          refine y_icmp_ne (tgt := 103) d_Lw_isFedRight_96 (by decide) (fun c_96 => ?_) (fun c_96 => ?_)
          · exact absurd c_96 (by decide)
          · refine y_iconst d_Lw_isFedRight_99 (v := 1) (by decide) ?_
            refine y_goto (tgt := 104) d_Lw_isFedRight_100 (by decide) ?_
            refine y_istore (lv' := [(13, .int 1), (12, .int 1), (11, .int 114), (10, .int (nI x)), (9, .int (nI y)), (8, .ref q3), (7, .ref q2), (6, .ref q1), (5, .int (nI e)), (4, .int (nI b)), (3, .int (nI a)), (2, .int 1), (1, .int h), (0, .ref (ad 0))]) d_Lw_isFedRight_104 (by decide) rfl ?_
            refine y_aload d_Lw_isFedRight_106 5 rfl ?_
            refine y_iload d_Lw_isFedRight_108 3 rfl ?_
            refine y_iload d_Lw_isFedRight_110 4 rfl ?_
            refine y_callS (As := [.ref q3, .int (nI x), .int (nI y)]) (rest := []) (csC := [(q3, .inl (0, 108, .inl A3))]) (is := [2]) ln_Lw_205 w_st_Lw_in ok_Lw_isFedRight_Lw_in d_Lw_isFedRight_112 (C_Lw_in g q3 A3 (nI x) (nI y)) rfl rfl (Nat.le_of_ble_eq_true rfl) rfl (by decide) (by omega) (by omega) (fun E cs1 hx => ?_) (fun v cs1 hx => ?_)
            · exact absurd hx.1 (by simp)
            · obtain ⟨e1, rfl⟩ := hx
              cases e1
              refine ⟨rfl, ?_⟩
              refine y_st (st2 := [.int (inV A3 (nI x) (nI y))]) rfl ?_
              refine y_cs (cs2 := [(q1, .inl (0, 108, .inl A1)), (q2, .inl (0, 108, .inl A2)), (q3, .inl (0, 108, .inl A3))]) rfl ?_
              refine y_st (st2 := [.int (frO f h (12 * y + x))]) (by rw [inV_s (cl_in hx hy), e3 _ (by omega)]) ?_
              refine y_istore (lv' := [(14, .int (frO f h (12 * y + x))), (13, .int 1), (12, .int 1), (11, .int 114), (10, .int (nI x)), (9, .int (nI y)), (8, .ref q3), (7, .ref q2), (6, .ref q1), (5, .int (nI e)), (4, .int (nI b)), (3, .int (nI a)), (2, .int 1), (1, .int h), (0, .ref (ad 0))]) d_Lw_isFedRight_115 (by decide) rfl ?_
              refine y_iload_n d_Lw_isFedRight_117 rfl 11 rfl ?_
              refine y_iload d_Lw_isFedRight_118 3 rfl ?_
              refine y_bipush d_Lw_isFedRight_120 (v := 114) (by decide) ?_
              refine y_icmp_ne (tgt := 134) d_Lw_isFedRight_122 (by decide) (fun c_122 => ?_) (fun c_122 => ?_)
              · exact absurd c_122 (by decide)
              · refine y_iload d_Lw_isFedRight_125 2 rfl ?_
                refine y_if_eq (tgt := 134) d_Lw_isFedRight_127 (by decide) (fun c_127 => ?_) (fun c_127 => ?_)
                · exact absurd c_127 (by decide)
                · refine y_iconst d_Lw_isFedRight_130 (v := 1) (by decide) ?_
                  refine y_goto (tgt := 135) d_Lw_isFedRight_131 (by decide) ?_
                  refine y_callS (As := [.int 1]) (rest := [.int (nI a)]) (csC := []) (is := []) ln_Lw_66 w_st_Lw_told ok_Lw_isFedRight_Lw_told d_Lw_isFedRight_135 (C_Lw_told g 1) rfl rfl (Nat.le_of_ble_eq_true rfl) rfl (by decide) (by omega) (by omega) (fun E cs1 hx => ?_) (fun v cs1 hx => ?_)
                  · exact absurd hx.1 (by simp)
                  · obtain ⟨e1, rfl⟩ := hx
                    cases e1
                    refine ⟨rfl, ?_⟩
                    refine y_st (st2 := [.int (if (1 : Int32) = 0 then 0 else 1), .int (nI a)]) rfl ?_
                    refine y_cs (cs2 := [(q1, .inl (0, 108, .inl A1)), (q2, .inl (0, 108, .inl A2)), (q3, .inl (0, 108, .inl A3))]) rfl ?_
                    refine y_iadd d_Lw_isFedRight_138 (v := nI (a + 1)) tl1n ?_
                    refine y_istore_n (lv' := [(3, .int (nI (a + 1))), (14, .int (frO f h (12 * y + x))), (13, .int 1), (12, .int 1), (11, .int 114), (10, .int (nI x)), (9, .int (nI y)), (8, .ref q3), (7, .ref q2), (6, .ref q1), (5, .int (nI e)), (4, .int (nI b)), (2, .int 1), (1, .int h), (0, .ref (ad 0))]) d_Lw_isFedRight_139 rfl (by decide) rfl ?_
                    refine y_iload d_Lw_isFedRight_140 11 rfl ?_
                    refine y_iload d_Lw_isFedRight_142 4 rfl ?_
                    refine y_bipush d_Lw_isFedRight_144 (v := 99) (by decide) ?_
                    refine y_icmp_ne (tgt := 158) d_Lw_isFedRight_146 (by decide) (fun c_146 => ?_) (fun c_146 => ?_)
                    · refine y_iconst d_Lw_isFedRight_158 (v := 0) (by decide) ?_
                      refine y_callS (As := [.int 0]) (rest := [.int (nI b)]) (csC := []) (is := []) ln_Lw_66 w_st_Lw_told ok_Lw_isFedRight_Lw_told d_Lw_isFedRight_159 (C_Lw_told g 0) rfl rfl (Nat.le_of_ble_eq_true rfl) rfl (by decide) (by omega) (by omega) (fun E cs1 hx => ?_) (fun v cs1 hx => ?_)
                      · exact absurd hx.1 (by simp)
                      · obtain ⟨e1, rfl⟩ := hx
                        cases e1
                        refine ⟨rfl, ?_⟩
                        refine y_st (st2 := [.int (if (0 : Int32) = 0 then 0 else 1), .int (nI b)]) rfl ?_
                        refine y_cs (cs2 := [(q1, .inl (0, 108, .inl A1)), (q2, .inl (0, 108, .inl A2)), (q3, .inl (0, 108, .inl A3))]) rfl ?_
                        refine y_iadd d_Lw_isFedRight_162 (v := nI b) tl0n ?_
                        refine y_istore (lv' := [(4, .int (nI b)), (3, .int (nI (a + 1))), (14, .int (frO f h (12 * y + x))), (13, .int 1), (12, .int 1), (11, .int 114), (10, .int (nI x)), (9, .int (nI y)), (8, .ref q3), (7, .ref q2), (6, .ref q1), (5, .int (nI e)), (2, .int 1), (1, .int h), (0, .ref (ad 0))]) d_Lw_isFedRight_163 (by decide) rfl ?_
                        refine y_iload d_Lw_isFedRight_165 11 rfl ?_
                        refine y_iload d_Lw_isFedRight_167 5 rfl ?_
                        refine y_bipush d_Lw_isFedRight_169 (v := 99) (by decide) ?_
                        refine y_icmp_ne (tgt := 183) d_Lw_isFedRight_171 (by decide) (fun c_171 => ?_) (fun c_171 => ?_)
                        · refine y_iconst d_Lw_isFedRight_183 (v := 0) (by decide) ?_
                          refine y_callS (As := [.int 0]) (rest := [.int (nI e)]) (csC := []) (is := []) ln_Lw_66 w_st_Lw_told ok_Lw_isFedRight_Lw_told d_Lw_isFedRight_184 (C_Lw_told g 0) rfl rfl (Nat.le_of_ble_eq_true rfl) rfl (by decide) (by omega) (by omega) (fun E cs1 hx => ?_) (fun v cs1 hx => ?_)
                          · exact absurd hx.1 (by simp)
                          · obtain ⟨e1, rfl⟩ := hx
                            cases e1
                            refine ⟨rfl, ?_⟩
                            refine y_st (st2 := [.int (if (0 : Int32) = 0 then 0 else 1), .int (nI e)]) rfl ?_
                            refine y_cs (cs2 := [(q1, .inl (0, 108, .inl A1)), (q2, .inl (0, 108, .inl A2)), (q3, .inl (0, 108, .inl A3))]) rfl ?_
                            refine y_iadd d_Lw_isFedRight_187 (v := nI e) tl0n ?_
                            refine y_istore (lv' := [(5, .int (nI e)), (4, .int (nI b)), (3, .int (nI (a + 1))), (14, .int (frO f h (12 * y + x))), (13, .int 1), (12, .int 1), (11, .int 114), (10, .int (nI x)), (9, .int (nI y)), (8, .ref q3), (7, .ref q2), (6, .ref q1), (2, .int 1), (1, .int h), (0, .ref (ad 0))]) d_Lw_isFedRight_188 (by decide) rfl ?_
                            refine y_iload d_Lw_isFedRight_190 6 rfl ?_
                            refine y_bipush d_Lw_isFedRight_192 (v := 114) (by decide) ?_
                            refine y_icmp_ne (tgt := 201) d_Lw_isFedRight_194 (by decide) (fun c_194 => ?_) (fun c_194 => ?_)
                            · exact absurd c_194 (by decide)
                            · refine y_iconst d_Lw_isFedRight_197 (v := 1) (by decide) ?_
                              refine y_goto (tgt := 202) d_Lw_isFedRight_198 (by decide) ?_
                              refine y_istore (lv' := [(15, .int 1), (5, .int (nI e)), (4, .int (nI b)), (3, .int (nI (a + 1))), (14, .int (frO f h (12 * y + x))), (13, .int 1), (12, .int 1), (11, .int 114), (10, .int (nI x)), (9, .int (nI y)), (8, .ref q3), (7, .ref q2), (6, .ref q1), (2, .int 1), (1, .int h), (0, .ref (ad 0))]) d_Lw_isFedRight_202 (by decide) rfl ?_
                              refine y_iconst d_Lw_isFedRight_204 (v := 0) (by decide) ?_
                              refine y_istore (lv' := [(16, .int 0), (15, .int 1), (5, .int (nI e)), (4, .int (nI b)), (3, .int (nI (a + 1))), (14, .int (frO f h (12 * y + x))), (13, .int 1), (12, .int 1), (11, .int 114), (10, .int (nI x)), (9, .int (nI y)), (8, .ref q3), (7, .ref q2), (6, .ref q1), (2, .int 1), (1, .int h), (0, .ref (ad 0))]) d_Lw_isFedRight_205 (by decide) rfl ?_
                              refine y_lv (lv' := [(16, .int 0), (15, .int 1), (14, .int (frO f h (12 * y + x))), (13, .int 1), (12, .int 1), (11, .int 114), (10, .int (nI x)), (9, .int (nI y)), (8, .ref q3), (7, .ref q2), (6, .ref q1), (5, .int (nI e)), (4, .int (nI b)), (3, .int (nI (a + 1))), (2, .int 1), (1, .int h), (0, .ref (ad 0))]) [0, 1, 5, 6, 7, 8, 9, 10, 11, 12, 13, 2, 3, 4, 14, 15, 16] rfl ?_
                              refine y_lv (lv' := [(16, .int 0), (15, .int 1), (14, .int (frO f h (12 * y + x))), (13, .int 1), (12, .int 1), (11, .int 114), (10, .int (nI x)), (9, .int (nI y)), (8, .ref q3), (7, .ref q2), (6, .ref q1), (5, .int (nI e)), (4, .int (nI b)), (3, .int (nI (a + 1))), (2, .int 1), (1, .int h), (0, .ref (ad 0))]) [0, 1, 2, 3, 4, 5, 6, 7, 8, 9, 10, 11, 12, 13, 14, 15, 16] rfl ?_
                              refine y_lvE (lv2 := [(16, .int (nI 0)), (15, .int (hsv A2 A3 (frO f h (12 * y + x)) 1 (nI x) (nI y) 0)), (14, .int (frO f h (12 * y + x))), (13, .int 1), (12, .int 1), (11, .int 114), (10, .int (nI x)), (9, .int (nI y)), (8, .ref q3), (7, .ref q2), (6, .ref q1), (5, .int (nI e)), (4, .int (nI b)), (3, .int (nI (a + 1))), (2, .int 1), (1, .int h), (0, .ref (ad 0))]) rfl ?_
                              refine H_side g hW hh n1 h1 n2 h2 n3 h3 e1 e2 e3 ?_ 5 0 (by decide) (by decide)
                              refine y_iload_n d_Lw_isFedRight_278 rfl 14 rfl ?_
                              refine y_if_eq (tgt := 331) d_Lw_isFedRight_279 (by decide) (fun c_279 => ?_) (fun c_279 => ?_)
                              · exact absurd c_279 (by decide)
                              · refine y_iload d_Lw_isFedRight_282 3 rfl ?_
                                refine y_if_eq (tgt := 297) d_Lw_isFedRight_284 (by decide) (fun c_284 => ?_) (fun c_284 => ?_)
                                · exact absurd c_284 (by decide)
                                · refine y_iload d_Lw_isFedRight_287 4 rfl ?_
                                  refine y_if_eq (tgt := 331) d_Lw_isFedRight_289 (by decide) (fun c_289 => ?_) (fun c_289 => ?_)
                                  · exact absurd c_289 (by decide)
                                  · refine y_iload d_Lw_isFedRight_292 1 rfl ?_
                                    refine y_if_eq (tgt := 331) d_Lw_isFedRight_294 (by decide) (fun c_294 => ?_) (fun c_294 => ?_)
                                    · exact absurd c_294 hs_r
                                    · refine y_iload d_Lw_isFedRight_297 5 rfl ?_
                                      refine y_bipush d_Lw_isFedRight_299 (v := 114) (by decide) ?_
                                      refine y_icmp_ne (tgt := 311) d_Lw_isFedRight_301 (by decide) (fun c_301 => ?_) (fun c_301 => ?_)
                                      · exact absurd c_301 (by decide)
                                      · refine y_iload d_Lw_isFedRight_304 3 rfl ?_
                                        refine y_iload d_Lw_isFedRight_306 4 rfl ?_
                                        refine y_icmp_ne (tgt := 331) d_Lw_isFedRight_308 (by decide) (fun c_308 => ?_) (fun c_308 => ?_)
                                        · exact absurd c_308 (by decide)
                                        · refine y_iload d_Lw_isFedRight_311 2 rfl ?_
                                          refine y_iconst d_Lw_isFedRight_313 (v := 1) (by decide) ?_
                                          refine y_icmp_lt (tgt := 321) d_Lw_isFedRight_314 (by decide) (fun c_314 => ?_) (fun c_314 => ?_)
                                          · exact absurd (Int32.lt_of_le_of_lt ((frO_k hh _ (by omega)).2 hv) c_314) (by decide)
                                          · refine y_iconst d_Lw_isFedRight_317 (v := 1) (by decide) ?_
                                            refine y_goto (tgt := 322) d_Lw_isFedRight_318 (by decide) ?_
                                            refine y_iload d_Lw_isFedRight_322 4 rfl ?_
                                            refine y_icmp_ne (tgt := 331) d_Lw_isFedRight_324 (by decide) (fun c_324 => ?_) (fun c_324 => ?_)
                                            · exact absurd c_324 (by decide)
                                            · refine y_iconst d_Lw_isFedRight_327 (v := 1) (by decide) ?_
                                              refine y_goto (tgt := 332) d_Lw_isFedRight_328 (by decide) ?_
                                              refine y_istore_n (lv' := [(2, .int 1), (16, .int (nI 4)), (15, .int (hsv A2 A3 (frO f h (12 * y + x)) 1 (nI x) (nI y) 4)), (14, .int (frO f h (12 * y + x))), (13, .int 1), (12, .int 1), (11, .int 114), (10, .int (nI x)), (9, .int (nI y)), (8, .ref q3), (7, .ref q2), (6, .ref q1), (5, .int (nI e)), (4, .int (nI b)), (3, .int (nI (a + 1))), (1, .int h), (0, .ref (ad 0))]) d_Lw_isFedRight_332 rfl (by decide) rfl ?_
                                              refine y_iinc (lv' := [(10, .int (nI (x + 1))), (2, .int 1), (16, .int (nI 4)), (15, .int (hsv A2 A3 (frO f h (12 * y + x)) 1 (nI x) (nI y) 4)), (14, .int (frO f h (12 * y + x))), (13, .int 1), (12, .int 1), (11, .int 114), (9, .int (nI y)), (8, .ref q3), (7, .ref q2), (6, .ref q1), (5, .int (nI e)), (4, .int (nI b)), (3, .int (nI (a + 1))), (1, .int h), (0, .ref (ad 0))]) (v := nI (x + 1)) d_Lw_isFedRight_333 (j := 7) rfl (nI_add _ _) (by decide) rfl ?_
                                              refine y_goto (tgt := 50) d_Lw_isFedRight_336 (by decide) ?_
                                              refine y_lv (lv' := [(10, .int (nI (x + 1))), (9, .int (nI y)), (8, .ref q3), (7, .ref q2), (6, .ref q1), (5, .int (nI e)), (4, .int (nI b)), (3, .int (nI (a + 1))), (2, .int 1), (1, .int h), (0, .ref (ad 0))]) [0, 8, 9, 10, 11, 12, 13, 14, 1, 15, 16] rfl ?_
                                              exact y_bud (by omega) (by omega) K
                        · exact absurd c_171 (by decide)
                    · exact absurd c_146 (by decide)
theorem d_Lw_isFedRight_83 : decode method_19_code 83 = .ok (.iconst 0, 1) := zo_3 (zd_b zq_method_19_code_2 19 rfl rfl rfl)
theorem d_Lw_isFedRight_103 : decode method_19_code 103 = .ok (.iconst 0, 1) := zo_3 (zd_b zq_method_19_code_3 7 rfl rfl rfl)
theorem d_Lw_isFedRight_134 : decode method_19_code 134 = .ok (.iconst 0, 1) := zo_3 (zd_b zq_method_19_code_4 6 rfl rfl rfl)
theorem d_Lw_isFedRight_321 : decode method_19_code 321 = .ok (.iconst 0, 1) := zo_3 (zd_b zq_method_19_code_10 1 rfl rfl rfl)
set_option maxHeartbeats 4000000 in
set_option maxRecDepth 100000 in
theorem F_B (g : zG) {ad : Nat → Nat} {t0 : zTT} {u : zNN} {f : Nat → Int32} {p : Nat} {w9 : zW} (hW : Wd g ad t0 u f p w9) {q1 q2 q3 : Nat} {A1 A2 A3 : Nat → Int32} {h : Int32} (hh : 1250 ≤ h ∧ h < 1450) (n1 : z_nf ad q1) (h1 : w9 q1 = some (.inl (0, 108, .inl A1))) (n2 : z_nf ad q2) (h2 : w9 q2 = some (.inl (0, 108, .inl A2))) (n3 : z_nf ad q3) (h3 : w9 q3 = some (.inl (0, 108, .inl A3))) (e1 : ∀ c, c < 108 → A1 c = fiO f c) (e2 : ∀ c, c < 108 → A2 c = fdO f h c) (e3 : ∀ c, c < 108 → A3 c = frO f h c) {x y a b e : Nat} {kc ks : Nat} (hx : x < 12) (hy : y < 9) (hk : f (12 * y + x) = 114) (hv : fiO f (12 * y + x) < 0) (he : fdO f h (12 * y + x) = 0) (K : DU g M_Lw_isFedRight (fun o w1 => o = .inl (some (.int 1)) ∧ Wd g ad t0 u f p w1) w9 3 50 [(10, .int (nI (x + 1))), (9, .int (nI y)), (8, .ref q3), (7, .ref q2), (6, .ref q1), (5, .int (nI e)), (4, .int (nI b)), (3, .int (nI a)), (2, .int 1), (1, .int h), (0, .ref (ad 0))] [] [(q1, .inl (0, 108, .inl A1)), (q2, .inl (0, 108, .inl A2)), (q3, .inl (0, 108, .inl A3))] (kc) (ks)) : DU g M_Lw_isFedRight (fun o w1 => o = .inl (some (.int 1)) ∧ Wd g ad t0 u f p w1) w9 3 57 [(10, .int (nI x)), (9, .int (nI y)), (8, .ref q3), (7, .ref q2), (6, .ref q1), (5, .int (nI e)), (4, .int (nI b)), (3, .int (nI a)), (2, .int 1), (1, .int h), (0, .ref (ad 0))] [] [(q1, .inl (0, 108, .inl A1)), (q2, .inl (0, 108, .inl A2)), (q3, .inl (0, 108, .inl A3))] (kc + 1) (ks + 6) := by
  refine y_aload_n d_Lw_isFedRight_57 rfl 10 rfl ?_
  refine y_iload d_Lw_isFedRight_58 0 rfl ?_
  refine y_iload d_Lw_isFedRight_60 1 rfl ?_
  refine yw_callS (As := [.ref (ad 0), .int (nI x), .int (nI y)]) (rest := []) ln_Lw_197 w_st_Lw_at ok_Lw_isFedRight_Lw_at d_Lw_isFedRight_62 (fun wA hA => T_at (hW.al hA rfl (List.forall_mem_cons.mpr ⟨⟨n1, _, _, h1⟩, (List.forall_mem_cons.mpr ⟨⟨n2, _, _, h2⟩, (List.forall_mem_cons.mpr ⟨⟨n3, _, _, h3⟩, (fun _ h => nomatch h)⟩)⟩)⟩)) hx hy) rfl rfl (Nat.le_of_ble_eq_true rfl) (by omega) (by omega) (fun wA62 hA62 E wB62 hx => ?_) (fun wA62 hA62 v wB62 hx => ?_)
  · exact absurd hx.1 (by simp)
  · obtain ⟨e1, e2⟩ := hx
    cases e1
    refine yw_st (st2 := [.int (f (12 * y + x))]) rfl ?_
    subst e2
    refine y_go hA62 ?_
    refine y_st (st2 := [.int 114]) (by rw [hk]) ?_
    refine y_istore (lv' := [(11, .int 114), (10, .int (nI x)), (9, .int (nI y)), (8, .ref q3), (7, .ref q2), (6, .ref q1), (5, .int (nI e)), (4, .int (nI b)), (3, .int (nI a)), (2, .int 1), (1, .int h), (0, .ref (ad 0))]) d_Lw_isFedRight_65 (by decide) rfl ?_
    refine y_aload d_Lw_isFedRight_67 5 rfl ?_
    refine y_iload d_Lw_isFedRight_69 1 rfl ?_
    refine y_iload d_Lw_isFedRight_71 2 rfl ?_
    refine y_callS (As := [.ref q1, .int (nI x), .int (nI y)]) (rest := []) (csC := [(q1, .inl (0, 108, .inl A1))]) (is := [0]) ln_Lw_205 w_st_Lw_in ok_Lw_isFedRight_Lw_in d_Lw_isFedRight_73 (C_Lw_in g q1 A1 (nI x) (nI y)) rfl rfl (Nat.le_of_ble_eq_true rfl) rfl (by decide) (by omega) (by omega) (fun E cs1 hx => ?_) (fun v cs1 hx => ?_)
    · exact absurd hx.1 (by simp)
    · obtain ⟨e1, rfl⟩ := hx
      cases e1
      refine ⟨rfl, ?_⟩
      refine y_st (st2 := [.int (inV A1 (nI x) (nI y))]) rfl ?_
      refine y_cs (cs2 := [(q1, .inl (0, 108, .inl A1)), (q2, .inl (0, 108, .inl A2)), (q3, .inl (0, 108, .inl A3))]) rfl ?_
      refine y_st (st2 := [.int (fiO f (12 * y + x))]) (by rw [inV_s (cl_in hx hy), e1 _ (by omega)]) ?_
      refine y_if_lt (tgt := 83) d_Lw_isFedRight_76 (by decide) (fun c_76 => ?_) (fun c_76 => ?_)
      · refine y_iconst d_Lw_isFedRight_83 (v := 0) (by decide) ?_
        refine y_istore (lv' := [(12, .int 0), (11, .int 114), (10, .int (nI x)), (9, .int (nI y)), (8, .ref q3), (7, .ref q2), (6, .ref q1), (5, .int (nI e)), (4, .int (nI b)), (3, .int (nI a)), (2, .int 1), (1, .int h), (0, .ref (ad 0))]) d_Lw_isFedRight_84 (by decide) rfl ?_
        refine y_aload d_Lw_isFedRight_86 5 rfl ?_
        refine y_iload d_Lw_isFedRight_88 2 rfl ?_
        refine y_iload d_Lw_isFedRight_90 3 rfl ?_
        refine y_callS (As := [.ref q2, .int (nI x), .int (nI y)]) (rest := []) (csC := [(q2, .inl (0, 108, .inl A2))]) (is := [1]) ln_Lw_205 w_st_Lw_in ok_Lw_isFedRight_Lw_in d_Lw_isFedRight_92 (C_Lw_in g q2 A2 (nI x) (nI y)) rfl rfl (Nat.le_of_ble_eq_true rfl) rfl (by decide) (by omega) (by omega) (fun E cs1 hx => ?_) (fun v cs1 hx => ?_)
        · exact absurd hx.1 (by simp)
        · obtain ⟨e1, rfl⟩ := hx
          cases e1
          refine ⟨rfl, ?_⟩
          refine y_st (st2 := [.int (inV A2 (nI x) (nI y))]) rfl ?_
          refine y_cs (cs2 := [(q1, .inl (0, 108, .inl A1)), (q2, .inl (0, 108, .inl A2)), (q3, .inl (0, 108, .inl A3))]) rfl ?_
          refine y_st (st2 := [.int 0]) (by rw [inV_s (cl_in hx hy), e2 _ (by omega), he]) ?_
          refine y_iconst d_Lw_isFedRight_95 (v := 1) (by decide) ?_
          refine y_icmp_ne (tgt := 103) d_Lw_isFedRight_96 (by decide) (fun c_96 => ?_) (fun c_96 => ?_)
          · refine y_iconst d_Lw_isFedRight_103 (v := 0) (by decide) ?_
            refine y_istore (lv' := [(13, .int 0), (12, .int 0), (11, .int 114), (10, .int (nI x)), (9, .int (nI y)), (8, .ref q3), (7, .ref q2), (6, .ref q1), (5, .int (nI e)), (4, .int (nI b)), (3, .int (nI a)), (2, .int 1), (1, .int h), (0, .ref (ad 0))]) d_Lw_isFedRight_104 (by decide) rfl ?_
            refine y_aload d_Lw_isFedRight_106 5 rfl ?_
            refine y_iload d_Lw_isFedRight_108 3 rfl ?_
            refine y_iload d_Lw_isFedRight_110 4 rfl ?_
            refine y_callS (As := [.ref q3, .int (nI x), .int (nI y)]) (rest := []) (csC := [(q3, .inl (0, 108, .inl A3))]) (is := [2]) ln_Lw_205 w_st_Lw_in ok_Lw_isFedRight_Lw_in d_Lw_isFedRight_112 (C_Lw_in g q3 A3 (nI x) (nI y)) rfl rfl (Nat.le_of_ble_eq_true rfl) rfl (by decide) (by omega) (by omega) (fun E cs1 hx => ?_) (fun v cs1 hx => ?_)
            · exact absurd hx.1 (by simp)
            · obtain ⟨e1, rfl⟩ := hx
              cases e1
              refine ⟨rfl, ?_⟩
              refine y_st (st2 := [.int (inV A3 (nI x) (nI y))]) rfl ?_
              refine y_cs (cs2 := [(q1, .inl (0, 108, .inl A1)), (q2, .inl (0, 108, .inl A2)), (q3, .inl (0, 108, .inl A3))]) rfl ?_
              refine y_st (st2 := [.int ((-1))]) (by rw [inV_s (cl_in hx hy), e3 _ (by omega), (frO_k hh _ (by omega)).1 hv]) ?_
              refine y_istore (lv' := [(14, .int (-1)), (13, .int 0), (12, .int 0), (11, .int 114), (10, .int (nI x)), (9, .int (nI y)), (8, .ref q3), (7, .ref q2), (6, .ref q1), (5, .int (nI e)), (4, .int (nI b)), (3, .int (nI a)), (2, .int 1), (1, .int h), (0, .ref (ad 0))]) d_Lw_isFedRight_115 (by decide) rfl ?_
              refine y_iload_n d_Lw_isFedRight_117 rfl 11 rfl ?_
              refine y_iload d_Lw_isFedRight_118 3 rfl ?_
              refine y_bipush d_Lw_isFedRight_120 (v := 114) (by decide) ?_
              refine y_icmp_ne (tgt := 134) d_Lw_isFedRight_122 (by decide) (fun c_122 => ?_) (fun c_122 => ?_)
              · exact absurd c_122 (by decide)
              · refine y_iload d_Lw_isFedRight_125 2 rfl ?_
                refine y_if_eq (tgt := 134) d_Lw_isFedRight_127 (by decide) (fun c_127 => ?_) (fun c_127 => ?_)
                · refine y_iconst d_Lw_isFedRight_134 (v := 0) (by decide) ?_
                  refine y_callS (As := [.int 0]) (rest := [.int (nI a)]) (csC := []) (is := []) ln_Lw_66 w_st_Lw_told ok_Lw_isFedRight_Lw_told d_Lw_isFedRight_135 (C_Lw_told g 0) rfl rfl (Nat.le_of_ble_eq_true rfl) rfl (by decide) (by omega) (by omega) (fun E cs1 hx => ?_) (fun v cs1 hx => ?_)
                  · exact absurd hx.1 (by simp)
                  · obtain ⟨e1, rfl⟩ := hx
                    cases e1
                    refine ⟨rfl, ?_⟩
                    refine y_st (st2 := [.int (if (0 : Int32) = 0 then 0 else 1), .int (nI a)]) rfl ?_
                    refine y_cs (cs2 := [(q1, .inl (0, 108, .inl A1)), (q2, .inl (0, 108, .inl A2)), (q3, .inl (0, 108, .inl A3))]) rfl ?_
                    refine y_iadd d_Lw_isFedRight_138 (v := nI a) tl0n ?_
                    refine y_istore_n (lv' := [(3, .int (nI a)), (14, .int (-1)), (13, .int 0), (12, .int 0), (11, .int 114), (10, .int (nI x)), (9, .int (nI y)), (8, .ref q3), (7, .ref q2), (6, .ref q1), (5, .int (nI e)), (4, .int (nI b)), (2, .int 1), (1, .int h), (0, .ref (ad 0))]) d_Lw_isFedRight_139 rfl (by decide) rfl ?_
                    refine y_iload d_Lw_isFedRight_140 11 rfl ?_
                    refine y_iload d_Lw_isFedRight_142 4 rfl ?_
                    refine y_bipush d_Lw_isFedRight_144 (v := 99) (by decide) ?_
                    refine y_icmp_ne (tgt := 158) d_Lw_isFedRight_146 (by decide) (fun c_146 => ?_) (fun c_146 => ?_)
                    · refine y_iconst d_Lw_isFedRight_158 (v := 0) (by decide) ?_
                      refine y_callS (As := [.int 0]) (rest := [.int (nI b)]) (csC := []) (is := []) ln_Lw_66 w_st_Lw_told ok_Lw_isFedRight_Lw_told d_Lw_isFedRight_159 (C_Lw_told g 0) rfl rfl (Nat.le_of_ble_eq_true rfl) rfl (by decide) (by omega) (by omega) (fun E cs1 hx => ?_) (fun v cs1 hx => ?_)
                      · exact absurd hx.1 (by simp)
                      · obtain ⟨e1, rfl⟩ := hx
                        cases e1
                        refine ⟨rfl, ?_⟩
                        refine y_st (st2 := [.int (if (0 : Int32) = 0 then 0 else 1), .int (nI b)]) rfl ?_
                        refine y_cs (cs2 := [(q1, .inl (0, 108, .inl A1)), (q2, .inl (0, 108, .inl A2)), (q3, .inl (0, 108, .inl A3))]) rfl ?_
                        refine y_iadd d_Lw_isFedRight_162 (v := nI b) tl0n ?_
                        refine y_istore (lv' := [(4, .int (nI b)), (3, .int (nI a)), (14, .int (-1)), (13, .int 0), (12, .int 0), (11, .int 114), (10, .int (nI x)), (9, .int (nI y)), (8, .ref q3), (7, .ref q2), (6, .ref q1), (5, .int (nI e)), (2, .int 1), (1, .int h), (0, .ref (ad 0))]) d_Lw_isFedRight_163 (by decide) rfl ?_
                        refine y_iload d_Lw_isFedRight_165 11 rfl ?_
                        refine y_iload d_Lw_isFedRight_167 5 rfl ?_
                        refine y_bipush d_Lw_isFedRight_169 (v := 99) (by decide) ?_
                        refine y_icmp_ne (tgt := 183) d_Lw_isFedRight_171 (by decide) (fun c_171 => ?_) (fun c_171 => ?_)
                        · refine y_iconst d_Lw_isFedRight_183 (v := 0) (by decide) ?_
                          refine y_callS (As := [.int 0]) (rest := [.int (nI e)]) (csC := []) (is := []) ln_Lw_66 w_st_Lw_told ok_Lw_isFedRight_Lw_told d_Lw_isFedRight_184 (C_Lw_told g 0) rfl rfl (Nat.le_of_ble_eq_true rfl) rfl (by decide) (by omega) (by omega) (fun E cs1 hx => ?_) (fun v cs1 hx => ?_)
                          · exact absurd hx.1 (by simp)
                          · obtain ⟨e1, rfl⟩ := hx
                            cases e1
                            refine ⟨rfl, ?_⟩
                            refine y_st (st2 := [.int (if (0 : Int32) = 0 then 0 else 1), .int (nI e)]) rfl ?_
                            refine y_cs (cs2 := [(q1, .inl (0, 108, .inl A1)), (q2, .inl (0, 108, .inl A2)), (q3, .inl (0, 108, .inl A3))]) rfl ?_
                            refine y_iadd d_Lw_isFedRight_187 (v := nI e) tl0n ?_
                            refine y_istore (lv' := [(5, .int (nI e)), (4, .int (nI b)), (3, .int (nI a)), (14, .int (-1)), (13, .int 0), (12, .int 0), (11, .int 114), (10, .int (nI x)), (9, .int (nI y)), (8, .ref q3), (7, .ref q2), (6, .ref q1), (2, .int 1), (1, .int h), (0, .ref (ad 0))]) d_Lw_isFedRight_188 (by decide) rfl ?_
                            refine y_iload d_Lw_isFedRight_190 6 rfl ?_
                            refine y_bipush d_Lw_isFedRight_192 (v := 114) (by decide) ?_
                            refine y_icmp_ne (tgt := 201) d_Lw_isFedRight_194 (by decide) (fun c_194 => ?_) (fun c_194 => ?_)
                            · exact absurd c_194 (by decide)
                            · refine y_iconst d_Lw_isFedRight_197 (v := 1) (by decide) ?_
                              refine y_goto (tgt := 202) d_Lw_isFedRight_198 (by decide) ?_
                              refine y_istore (lv' := [(15, .int 1), (5, .int (nI e)), (4, .int (nI b)), (3, .int (nI a)), (14, .int (-1)), (13, .int 0), (12, .int 0), (11, .int 114), (10, .int (nI x)), (9, .int (nI y)), (8, .ref q3), (7, .ref q2), (6, .ref q1), (2, .int 1), (1, .int h), (0, .ref (ad 0))]) d_Lw_isFedRight_202 (by decide) rfl ?_
                              refine y_iconst d_Lw_isFedRight_204 (v := 0) (by decide) ?_
                              refine y_istore (lv' := [(16, .int 0), (15, .int 1), (5, .int (nI e)), (4, .int (nI b)), (3, .int (nI a)), (14, .int (-1)), (13, .int 0), (12, .int 0), (11, .int 114), (10, .int (nI x)), (9, .int (nI y)), (8, .ref q3), (7, .ref q2), (6, .ref q1), (2, .int 1), (1, .int h), (0, .ref (ad 0))]) d_Lw_isFedRight_205 (by decide) rfl ?_
                              refine y_lv (lv' := [(16, .int 0), (15, .int 1), (14, .int (-1)), (13, .int 0), (12, .int 0), (11, .int 114), (10, .int (nI x)), (9, .int (nI y)), (8, .ref q3), (7, .ref q2), (6, .ref q1), (5, .int (nI e)), (4, .int (nI b)), (3, .int (nI a)), (2, .int 1), (1, .int h), (0, .ref (ad 0))]) [0, 1, 5, 6, 7, 8, 9, 10, 11, 12, 13, 2, 3, 4, 14, 15, 16] rfl ?_
                              refine y_lv (lv' := [(16, .int 0), (15, .int 1), (14, .int (-1)), (13, .int 0), (12, .int 0), (11, .int 114), (10, .int (nI x)), (9, .int (nI y)), (8, .ref q3), (7, .ref q2), (6, .ref q1), (5, .int (nI e)), (4, .int (nI b)), (3, .int (nI a)), (2, .int 1), (1, .int h), (0, .ref (ad 0))]) [0, 1, 2, 3, 4, 5, 6, 7, 8, 9, 10, 11, 12, 13, 14, 15, 16] rfl ?_
                              refine y_lvE (lv2 := [(16, .int (nI 0)), (15, .int (hsv A2 A3 (-1) 1 (nI x) (nI y) 0)), (14, .int (-1)), (13, .int 0), (12, .int 0), (11, .int 114), (10, .int (nI x)), (9, .int (nI y)), (8, .ref q3), (7, .ref q2), (6, .ref q1), (5, .int (nI e)), (4, .int (nI b)), (3, .int (nI a)), (2, .int 1), (1, .int h), (0, .ref (ad 0))]) rfl ?_
                              refine H_side g hW hh n1 h1 n2 h2 n3 h3 e1 e2 e3 ?_ 5 0 (by decide) (by decide)
                              refine y_iload_n d_Lw_isFedRight_278 rfl 14 rfl ?_
                              refine y_if_eq (tgt := 331) d_Lw_isFedRight_279 (by decide) (fun c_279 => ?_) (fun c_279 => ?_)
                              · exact absurd c_279 (by decide)
                              · refine y_iload d_Lw_isFedRight_282 3 rfl ?_
                                refine y_if_eq (tgt := 297) d_Lw_isFedRight_284 (by decide) (fun c_284 => ?_) (fun c_284 => ?_)
                                · refine y_iload d_Lw_isFedRight_297 5 rfl ?_
                                  refine y_bipush d_Lw_isFedRight_299 (v := 114) (by decide) ?_
                                  refine y_icmp_ne (tgt := 311) d_Lw_isFedRight_301 (by decide) (fun c_301 => ?_) (fun c_301 => ?_)
                                  · exact absurd c_301 (by decide)
                                  · refine y_iload d_Lw_isFedRight_304 3 rfl ?_
                                    refine y_iload d_Lw_isFedRight_306 4 rfl ?_
                                    refine y_icmp_ne (tgt := 331) d_Lw_isFedRight_308 (by decide) (fun c_308 => ?_) (fun c_308 => ?_)
                                    · exact absurd c_308 (by decide)
                                    · refine y_iload d_Lw_isFedRight_311 2 rfl ?_
                                      refine y_iconst d_Lw_isFedRight_313 (v := 1) (by decide) ?_
                                      refine y_icmp_lt (tgt := 321) d_Lw_isFedRight_314 (by decide) (fun c_314 => ?_) (fun c_314 => ?_)
                                      · refine y_iconst d_Lw_isFedRight_321 (v := 0) (by decide) ?_
                                        refine y_iload d_Lw_isFedRight_322 4 rfl ?_
                                        refine y_icmp_ne (tgt := 331) d_Lw_isFedRight_324 (by decide) (fun c_324 => ?_) (fun c_324 => ?_)
                                        · exact absurd c_324 (by decide)
                                        · refine y_iconst d_Lw_isFedRight_327 (v := 1) (by decide) ?_
                                          refine y_goto (tgt := 332) d_Lw_isFedRight_328 (by decide) ?_
                                          refine y_istore_n (lv' := [(2, .int 1), (16, .int (nI 4)), (15, .int (hsv A2 A3 (-1) 1 (nI x) (nI y) 4)), (14, .int (-1)), (13, .int 0), (12, .int 0), (11, .int 114), (10, .int (nI x)), (9, .int (nI y)), (8, .ref q3), (7, .ref q2), (6, .ref q1), (5, .int (nI e)), (4, .int (nI b)), (3, .int (nI a)), (1, .int h), (0, .ref (ad 0))]) d_Lw_isFedRight_332 rfl (by decide) rfl ?_
                                          refine y_iinc (lv' := [(10, .int (nI (x + 1))), (2, .int 1), (16, .int (nI 4)), (15, .int (hsv A2 A3 (-1) 1 (nI x) (nI y) 4)), (14, .int (-1)), (13, .int 0), (12, .int 0), (11, .int 114), (9, .int (nI y)), (8, .ref q3), (7, .ref q2), (6, .ref q1), (5, .int (nI e)), (4, .int (nI b)), (3, .int (nI a)), (1, .int h), (0, .ref (ad 0))]) (v := nI (x + 1)) d_Lw_isFedRight_333 (j := 7) rfl (nI_add _ _) (by decide) rfl ?_
                                          refine y_goto (tgt := 50) d_Lw_isFedRight_336 (by decide) ?_
                                          refine y_lv (lv' := [(10, .int (nI (x + 1))), (9, .int (nI y)), (8, .ref q3), (7, .ref q2), (6, .ref q1), (5, .int (nI e)), (4, .int (nI b)), (3, .int (nI a)), (2, .int 1), (1, .int h), (0, .ref (ad 0))]) [0, 8, 9, 10, 11, 12, 13, 14, 1, 15, 16] rfl ?_
                                          exact y_bud (by omega) (by omega) K
                                      · exact absurd c_314 (by decide)
                                · exact absurd c_284 (by decide)
                        · exact absurd c_171 (by decide)
                    · exact absurd c_146 (by decide)
                · exact absurd c_127 (by decide)
          · exact absurd c_96 (by decide)
      · exact absurd hv c_76
theorem d_Lw_isFedRight_149 : decode method_19_code 149 = .ok (.iload 13, 2) := zo_21 (d := 13) (zd_b zq_method_19_code_4 21 rfl rfl rfl) (zd_b zq_method_19_code_4 22 rfl rfl rfl)
theorem d_Lw_isFedRight_151 : decode method_19_code 151 = .ok (.ifCond .eq 7, 3) := zo_153 (d := 0) (e := 7) (zd_b zq_method_19_code_4 23 rfl rfl rfl) (zd_b zq_method_19_code_4 24 rfl rfl rfl) (zd_b zq_method_19_code_4 25 rfl rfl rfl) (by decide +kernel)
theorem d_Lw_isFedRight_154 : decode method_19_code 154 = .ok (.iconst 1, 1) := zo_4 (zd_b zq_method_19_code_4 26 rfl rfl rfl)
theorem d_Lw_isFedRight_155 : decode method_19_code 155 = .ok (.goto 4, 3) := zo_167 (d := 0) (e := 4) (zd_b zq_method_19_code_4 27 rfl rfl rfl) (zd_b zq_method_19_code_4 28 rfl rfl rfl) (zd_b zq_method_19_code_4 29 rfl rfl rfl) (by decide +kernel)
theorem d_Lw_isFedRight_174 : decode method_19_code 174 = .ok (.iload 12, 2) := zo_21 (d := 12) (zd_b zq_method_19_code_5 14 rfl rfl rfl) (zd_b zq_method_19_code_5 15 rfl rfl rfl)
theorem d_Lw_isFedRight_176 : decode method_19_code 176 = .ok (.ifCond .eq 7, 3) := zo_153 (d := 0) (e := 7) (zd_b zq_method_19_code_5 16 rfl rfl rfl) (zd_b zq_method_19_code_5 17 rfl rfl rfl) (zd_b zq_method_19_code_5 18 rfl rfl rfl) (by decide +kernel)
theorem d_Lw_isFedRight_179 : decode method_19_code 179 = .ok (.iconst 1, 1) := zo_4 (zd_b zq_method_19_code_5 19 rfl rfl rfl)
theorem d_Lw_isFedRight_180 : decode method_19_code 180 = .ok (.goto 4, 3) := zo_167 (d := 0) (e := 4) (zd_b zq_method_19_code_5 20 rfl rfl rfl) (zd_b zq_method_19_code_5 21 rfl rfl rfl) (zd_b zq_method_19_code_5 22 rfl rfl rfl) (by decide +kernel)
theorem d_Lw_isFedRight_201 : decode method_19_code 201 = .ok (.iconst 0, 1) := zo_3 (zd_b zq_method_19_code_6 9 rfl rfl rfl)
set_option maxHeartbeats 4000000 in
set_option maxRecDepth 100000 in
theorem F_C (g : zG) {ad : Nat → Nat} {t0 : zTT} {u : zNN} {f : Nat → Int32} {p : Nat} {w9 : zW} (hW : Wd g ad t0 u f p w9) {q1 q2 q3 : Nat} {A1 A2 A3 : Nat → Int32} {h : Int32} (hh : 1250 ≤ h ∧ h < 1450) (n1 : z_nf ad q1) (h1 : w9 q1 = some (.inl (0, 108, .inl A1))) (n2 : z_nf ad q2) (h2 : w9 q2 = some (.inl (0, 108, .inl A2))) (n3 : z_nf ad q3) (h3 : w9 q3 = some (.inl (0, 108, .inl A3))) (e1 : ∀ c, c < 108 → A1 c = fiO f c) (e2 : ∀ c, c < 108 → A2 c = fdO f h c) (e3 : ∀ c, c < 108 → A3 c = frO f h c) {x y a b e : Nat} {kc ks : Nat} (hx : x < 12) (hy : y < 9) (hk : f (12 * y + x) = 99) (hv : ¬ fiO f (12 * y + x) < 0) (he : fdO f h (12 * y + x) = 1) (K : DU g M_Lw_isFedRight (fun o w1 => o = .inl (some (.int 1)) ∧ Wd g ad t0 u f p w1) w9 3 50 [(10, .int (nI (x + 1))), (9, .int (nI y)), (8, .ref q3), (7, .ref q2), (6, .ref q1), (5, .int (nI (e + 1))), (4, .int (nI (b + 1))), (3, .int (nI a)), (2, .int 1), (1, .int h), (0, .ref (ad 0))] [] [(q1, .inl (0, 108, .inl A1)), (q2, .inl (0, 108, .inl A2)), (q3, .inl (0, 108, .inl A3))] (kc) (ks)) : DU g M_Lw_isFedRight (fun o w1 => o = .inl (some (.int 1)) ∧ Wd g ad t0 u f p w1) w9 3 57 [(10, .int (nI x)), (9, .int (nI y)), (8, .ref q3), (7, .ref q2), (6, .ref q1), (5, .int (nI e)), (4, .int (nI b)), (3, .int (nI a)), (2, .int 1), (1, .int h), (0, .ref (ad 0))] [] [(q1, .inl (0, 108, .inl A1)), (q2, .inl (0, 108, .inl A2)), (q3, .inl (0, 108, .inl A3))] (kc + 1) (ks + 6) := by
  refine y_aload_n d_Lw_isFedRight_57 rfl 10 rfl ?_
  refine y_iload d_Lw_isFedRight_58 0 rfl ?_
  refine y_iload d_Lw_isFedRight_60 1 rfl ?_
  refine yw_callS (As := [.ref (ad 0), .int (nI x), .int (nI y)]) (rest := []) ln_Lw_197 w_st_Lw_at ok_Lw_isFedRight_Lw_at d_Lw_isFedRight_62 (fun wA hA => T_at (hW.al hA rfl (List.forall_mem_cons.mpr ⟨⟨n1, _, _, h1⟩, (List.forall_mem_cons.mpr ⟨⟨n2, _, _, h2⟩, (List.forall_mem_cons.mpr ⟨⟨n3, _, _, h3⟩, (fun _ h => nomatch h)⟩)⟩)⟩)) hx hy) rfl rfl (Nat.le_of_ble_eq_true rfl) (by omega) (by omega) (fun wA62 hA62 E wB62 hx => ?_) (fun wA62 hA62 v wB62 hx => ?_)
  · exact absurd hx.1 (by simp)
  · obtain ⟨e1, e2⟩ := hx
    cases e1
    refine yw_st (st2 := [.int (f (12 * y + x))]) rfl ?_
    subst e2
    refine y_go hA62 ?_
    refine y_st (st2 := [.int 99]) (by rw [hk]) ?_
    refine y_istore (lv' := [(11, .int 99), (10, .int (nI x)), (9, .int (nI y)), (8, .ref q3), (7, .ref q2), (6, .ref q1), (5, .int (nI e)), (4, .int (nI b)), (3, .int (nI a)), (2, .int 1), (1, .int h), (0, .ref (ad 0))]) d_Lw_isFedRight_65 (by decide) rfl ?_
    refine y_aload d_Lw_isFedRight_67 5 rfl ?_
    refine y_iload d_Lw_isFedRight_69 1 rfl ?_
    refine y_iload d_Lw_isFedRight_71 2 rfl ?_
    refine y_callS (As := [.ref q1, .int (nI x), .int (nI y)]) (rest := []) (csC := [(q1, .inl (0, 108, .inl A1))]) (is := [0]) ln_Lw_205 w_st_Lw_in ok_Lw_isFedRight_Lw_in d_Lw_isFedRight_73 (C_Lw_in g q1 A1 (nI x) (nI y)) rfl rfl (Nat.le_of_ble_eq_true rfl) rfl (by decide) (by omega) (by omega) (fun E cs1 hx => ?_) (fun v cs1 hx => ?_)
    · exact absurd hx.1 (by simp)
    · obtain ⟨e1, rfl⟩ := hx
      cases e1
      refine ⟨rfl, ?_⟩
      refine y_st (st2 := [.int (inV A1 (nI x) (nI y))]) rfl ?_
      refine y_cs (cs2 := [(q1, .inl (0, 108, .inl A1)), (q2, .inl (0, 108, .inl A2)), (q3, .inl (0, 108, .inl A3))]) rfl ?_
      refine y_st (st2 := [.int (fiO f (12 * y + x))]) (by rw [inV_s (cl_in hx hy), e1 _ (by omega)]) ?_
      refine y_if_lt (tgt := 83) d_Lw_isFedRight_76 (by decide) (fun c_76 => ?_) (fun c_76 => ?_)
      · exact absurd c_76 hv
      · refine y_iconst d_Lw_isFedRight_79 (v := 1) (by decide) ?_
        refine y_goto (tgt := 84) d_Lw_isFedRight_80 (by decide) ?_
        refine y_istore (lv' := [(12, .int 1), (11, .int 99), (10, .int (nI x)), (9, .int (nI y)), (8, .ref q3), (7, .ref q2), (6, .ref q1), (5, .int (nI e)), (4, .int (nI b)), (3, .int (nI a)), (2, .int 1), (1, .int h), (0, .ref (ad 0))]) d_Lw_isFedRight_84 (by decide) rfl ?_
        refine y_aload d_Lw_isFedRight_86 5 rfl ?_
        refine y_iload d_Lw_isFedRight_88 2 rfl ?_
        refine y_iload d_Lw_isFedRight_90 3 rfl ?_
        refine y_callS (As := [.ref q2, .int (nI x), .int (nI y)]) (rest := []) (csC := [(q2, .inl (0, 108, .inl A2))]) (is := [1]) ln_Lw_205 w_st_Lw_in ok_Lw_isFedRight_Lw_in d_Lw_isFedRight_92 (C_Lw_in g q2 A2 (nI x) (nI y)) rfl rfl (Nat.le_of_ble_eq_true rfl) rfl (by decide) (by omega) (by omega) (fun E cs1 hx => ?_) (fun v cs1 hx => ?_)
        · exact absurd hx.1 (by simp)
        · obtain ⟨e1, rfl⟩ := hx
          cases e1
          refine ⟨rfl, ?_⟩
          refine y_st (st2 := [.int (inV A2 (nI x) (nI y))]) rfl ?_
          refine y_cs (cs2 := [(q1, .inl (0, 108, .inl A1)), (q2, .inl (0, 108, .inl A2)), (q3, .inl (0, 108, .inl A3))]) rfl ?_
          refine y_st (st2 := [.int 1]) (by rw [inV_s (cl_in hx hy), e2 _ (by omega), he]) ?_
          refine y_iconst d_Lw_isFedRight_95 (v := 1) (by decide) ?_
          refine y_icmp_ne (tgt := 103) d_Lw_isFedRight_96 (by decide) (fun c_96 => ?_) (fun c_96 => ?_)
          · exact absurd c_96 (by decide)
          · refine y_iconst d_Lw_isFedRight_99 (v := 1) (by decide) ?_
            refine y_goto (tgt := 104) d_Lw_isFedRight_100 (by decide) ?_
            refine y_istore (lv' := [(13, .int 1), (12, .int 1), (11, .int 99), (10, .int (nI x)), (9, .int (nI y)), (8, .ref q3), (7, .ref q2), (6, .ref q1), (5, .int (nI e)), (4, .int (nI b)), (3, .int (nI a)), (2, .int 1), (1, .int h), (0, .ref (ad 0))]) d_Lw_isFedRight_104 (by decide) rfl ?_
            refine y_aload d_Lw_isFedRight_106 5 rfl ?_
            refine y_iload d_Lw_isFedRight_108 3 rfl ?_
            refine y_iload d_Lw_isFedRight_110 4 rfl ?_
            refine y_callS (As := [.ref q3, .int (nI x), .int (nI y)]) (rest := []) (csC := [(q3, .inl (0, 108, .inl A3))]) (is := [2]) ln_Lw_205 w_st_Lw_in ok_Lw_isFedRight_Lw_in d_Lw_isFedRight_112 (C_Lw_in g q3 A3 (nI x) (nI y)) rfl rfl (Nat.le_of_ble_eq_true rfl) rfl (by decide) (by omega) (by omega) (fun E cs1 hx => ?_) (fun v cs1 hx => ?_)
            · exact absurd hx.1 (by simp)
            · obtain ⟨e1, rfl⟩ := hx
              cases e1
              refine ⟨rfl, ?_⟩
              refine y_st (st2 := [.int (inV A3 (nI x) (nI y))]) rfl ?_
              refine y_cs (cs2 := [(q1, .inl (0, 108, .inl A1)), (q2, .inl (0, 108, .inl A2)), (q3, .inl (0, 108, .inl A3))]) rfl ?_
              refine y_st (st2 := [.int (frO f h (12 * y + x))]) (by rw [inV_s (cl_in hx hy), e3 _ (by omega)]) ?_
              refine y_istore (lv' := [(14, .int (frO f h (12 * y + x))), (13, .int 1), (12, .int 1), (11, .int 99), (10, .int (nI x)), (9, .int (nI y)), (8, .ref q3), (7, .ref q2), (6, .ref q1), (5, .int (nI e)), (4, .int (nI b)), (3, .int (nI a)), (2, .int 1), (1, .int h), (0, .ref (ad 0))]) d_Lw_isFedRight_115 (by decide) rfl ?_
              refine y_iload_n d_Lw_isFedRight_117 rfl 11 rfl ?_
              refine y_iload d_Lw_isFedRight_118 3 rfl ?_
              refine y_bipush d_Lw_isFedRight_120 (v := 114) (by decide) ?_
              refine y_icmp_ne (tgt := 134) d_Lw_isFedRight_122 (by decide) (fun c_122 => ?_) (fun c_122 => ?_)
              · refine y_iconst d_Lw_isFedRight_134 (v := 0) (by decide) ?_
                refine y_callS (As := [.int 0]) (rest := [.int (nI a)]) (csC := []) (is := []) ln_Lw_66 w_st_Lw_told ok_Lw_isFedRight_Lw_told d_Lw_isFedRight_135 (C_Lw_told g 0) rfl rfl (Nat.le_of_ble_eq_true rfl) rfl (by decide) (by omega) (by omega) (fun E cs1 hx => ?_) (fun v cs1 hx => ?_)
                · exact absurd hx.1 (by simp)
                · obtain ⟨e1, rfl⟩ := hx
                  cases e1
                  refine ⟨rfl, ?_⟩
                  refine y_st (st2 := [.int (if (0 : Int32) = 0 then 0 else 1), .int (nI a)]) rfl ?_
                  refine y_cs (cs2 := [(q1, .inl (0, 108, .inl A1)), (q2, .inl (0, 108, .inl A2)), (q3, .inl (0, 108, .inl A3))]) rfl ?_
                  refine y_iadd d_Lw_isFedRight_138 (v := nI a) tl0n ?_
                  refine y_istore_n (lv' := [(3, .int (nI a)), (14, .int (frO f h (12 * y + x))), (13, .int 1), (12, .int 1), (11, .int 99), (10, .int (nI x)), (9, .int (nI y)), (8, .ref q3), (7, .ref q2), (6, .ref q1), (5, .int (nI e)), (4, .int (nI b)), (2, .int 1), (1, .int h), (0, .ref (ad 0))]) d_Lw_isFedRight_139 rfl (by decide) rfl ?_
                  refine y_iload d_Lw_isFedRight_140 11 rfl ?_
                  refine y_iload d_Lw_isFedRight_142 4 rfl ?_
                  refine y_bipush d_Lw_isFedRight_144 (v := 99) (by decide) ?_
                  refine y_icmp_ne (tgt := 158) d_Lw_isFedRight_146 (by decide) (fun c_146 => ?_) (fun c_146 => ?_)
                  · exact absurd c_146 (by decide)
                  · refine y_iload d_Lw_isFedRight_149 2 rfl ?_
                    refine y_if_eq (tgt := 158) d_Lw_isFedRight_151 (by decide) (fun c_151 => ?_) (fun c_151 => ?_)
                    · exact absurd c_151 (by decide)
                    · refine y_iconst d_Lw_isFedRight_154 (v := 1) (by decide) ?_
                      refine y_goto (tgt := 159) d_Lw_isFedRight_155 (by decide) ?_
                      refine y_callS (As := [.int 1]) (rest := [.int (nI b)]) (csC := []) (is := []) ln_Lw_66 w_st_Lw_told ok_Lw_isFedRight_Lw_told d_Lw_isFedRight_159 (C_Lw_told g 1) rfl rfl (Nat.le_of_ble_eq_true rfl) rfl (by decide) (by omega) (by omega) (fun E cs1 hx => ?_) (fun v cs1 hx => ?_)
                      · exact absurd hx.1 (by simp)
                      · obtain ⟨e1, rfl⟩ := hx
                        cases e1
                        refine ⟨rfl, ?_⟩
                        refine y_st (st2 := [.int (if (1 : Int32) = 0 then 0 else 1), .int (nI b)]) rfl ?_
                        refine y_cs (cs2 := [(q1, .inl (0, 108, .inl A1)), (q2, .inl (0, 108, .inl A2)), (q3, .inl (0, 108, .inl A3))]) rfl ?_
                        refine y_iadd d_Lw_isFedRight_162 (v := nI (b + 1)) tl1n ?_
                        refine y_istore (lv' := [(4, .int (nI (b + 1))), (3, .int (nI a)), (14, .int (frO f h (12 * y + x))), (13, .int 1), (12, .int 1), (11, .int 99), (10, .int (nI x)), (9, .int (nI y)), (8, .ref q3), (7, .ref q2), (6, .ref q1), (5, .int (nI e)), (2, .int 1), (1, .int h), (0, .ref (ad 0))]) d_Lw_isFedRight_163 (by decide) rfl ?_
                        refine y_iload d_Lw_isFedRight_165 11 rfl ?_
                        refine y_iload d_Lw_isFedRight_167 5 rfl ?_
                        refine y_bipush d_Lw_isFedRight_169 (v := 99) (by decide) ?_
                        refine y_icmp_ne (tgt := 183) d_Lw_isFedRight_171 (by decide) (fun c_171 => ?_) (fun c_171 => ?_)
                        · exact absurd c_171 (by decide)
                        · refine y_iload d_Lw_isFedRight_174 4 rfl ?_
                          refine y_if_eq (tgt := 183) d_Lw_isFedRight_176 (by decide) (fun c_176 => ?_) (fun c_176 => ?_)
                          · exact absurd c_176 (by decide)
                          · refine y_iconst d_Lw_isFedRight_179 (v := 1) (by decide) ?_
                            refine y_goto (tgt := 184) d_Lw_isFedRight_180 (by decide) ?_
                            refine y_callS (As := [.int 1]) (rest := [.int (nI e)]) (csC := []) (is := []) ln_Lw_66 w_st_Lw_told ok_Lw_isFedRight_Lw_told d_Lw_isFedRight_184 (C_Lw_told g 1) rfl rfl (Nat.le_of_ble_eq_true rfl) rfl (by decide) (by omega) (by omega) (fun E cs1 hx => ?_) (fun v cs1 hx => ?_)
                            · exact absurd hx.1 (by simp)
                            · obtain ⟨e1, rfl⟩ := hx
                              cases e1
                              refine ⟨rfl, ?_⟩
                              refine y_st (st2 := [.int (if (1 : Int32) = 0 then 0 else 1), .int (nI e)]) rfl ?_
                              refine y_cs (cs2 := [(q1, .inl (0, 108, .inl A1)), (q2, .inl (0, 108, .inl A2)), (q3, .inl (0, 108, .inl A3))]) rfl ?_
                              refine y_iadd d_Lw_isFedRight_187 (v := nI (e + 1)) tl1n ?_
                              refine y_istore (lv' := [(5, .int (nI (e + 1))), (4, .int (nI (b + 1))), (3, .int (nI a)), (14, .int (frO f h (12 * y + x))), (13, .int 1), (12, .int 1), (11, .int 99), (10, .int (nI x)), (9, .int (nI y)), (8, .ref q3), (7, .ref q2), (6, .ref q1), (2, .int 1), (1, .int h), (0, .ref (ad 0))]) d_Lw_isFedRight_188 (by decide) rfl ?_
                              refine y_iload d_Lw_isFedRight_190 6 rfl ?_
                              refine y_bipush d_Lw_isFedRight_192 (v := 114) (by decide) ?_
                              refine y_icmp_ne (tgt := 201) d_Lw_isFedRight_194 (by decide) (fun c_194 => ?_) (fun c_194 => ?_)
                              · refine y_iconst d_Lw_isFedRight_201 (v := 0) (by decide) ?_
                                refine y_istore (lv' := [(15, .int 0), (5, .int (nI (e + 1))), (4, .int (nI (b + 1))), (3, .int (nI a)), (14, .int (frO f h (12 * y + x))), (13, .int 1), (12, .int 1), (11, .int 99), (10, .int (nI x)), (9, .int (nI y)), (8, .ref q3), (7, .ref q2), (6, .ref q1), (2, .int 1), (1, .int h), (0, .ref (ad 0))]) d_Lw_isFedRight_202 (by decide) rfl ?_
                                refine y_iconst d_Lw_isFedRight_204 (v := 0) (by decide) ?_
                                refine y_istore (lv' := [(16, .int 0), (15, .int 0), (5, .int (nI (e + 1))), (4, .int (nI (b + 1))), (3, .int (nI a)), (14, .int (frO f h (12 * y + x))), (13, .int 1), (12, .int 1), (11, .int 99), (10, .int (nI x)), (9, .int (nI y)), (8, .ref q3), (7, .ref q2), (6, .ref q1), (2, .int 1), (1, .int h), (0, .ref (ad 0))]) d_Lw_isFedRight_205 (by decide) rfl ?_
                                refine y_lv (lv' := [(16, .int 0), (15, .int 0), (14, .int (frO f h (12 * y + x))), (13, .int 1), (12, .int 1), (11, .int 99), (10, .int (nI x)), (9, .int (nI y)), (8, .ref q3), (7, .ref q2), (6, .ref q1), (5, .int (nI (e + 1))), (4, .int (nI (b + 1))), (3, .int (nI a)), (2, .int 1), (1, .int h), (0, .ref (ad 0))]) [0, 1, 5, 6, 7, 8, 9, 10, 11, 12, 13, 2, 3, 4, 14, 15, 16] rfl ?_
                                refine y_lv (lv' := [(16, .int 0), (15, .int 0), (14, .int (frO f h (12 * y + x))), (13, .int 1), (12, .int 1), (11, .int 99), (10, .int (nI x)), (9, .int (nI y)), (8, .ref q3), (7, .ref q2), (6, .ref q1), (5, .int (nI (e + 1))), (4, .int (nI (b + 1))), (3, .int (nI a)), (2, .int 1), (1, .int h), (0, .ref (ad 0))]) [0, 1, 2, 3, 4, 5, 6, 7, 8, 9, 10, 11, 12, 13, 14, 15, 16] rfl ?_
                                refine y_lvE (lv2 := [(16, .int (nI 0)), (15, .int (hsv A2 A3 (frO f h (12 * y + x)) 0 (nI x) (nI y) 0)), (14, .int (frO f h (12 * y + x))), (13, .int 1), (12, .int 1), (11, .int 99), (10, .int (nI x)), (9, .int (nI y)), (8, .ref q3), (7, .ref q2), (6, .ref q1), (5, .int (nI (e + 1))), (4, .int (nI (b + 1))), (3, .int (nI a)), (2, .int 1), (1, .int h), (0, .ref (ad 0))]) rfl ?_
                                refine H_side g hW hh n1 h1 n2 h2 n3 h3 e1 e2 e3 ?_ 5 0 (by decide) (by decide)
                                refine y_iload_n d_Lw_isFedRight_278 rfl 14 rfl ?_
                                refine y_if_eq (tgt := 331) d_Lw_isFedRight_279 (by decide) (fun c_279 => ?_) (fun c_279 => ?_)
                                · exact absurd c_279 (by decide)
                                · refine y_iload d_Lw_isFedRight_282 3 rfl ?_
                                  refine y_if_eq (tgt := 297) d_Lw_isFedRight_284 (by decide) (fun c_284 => ?_) (fun c_284 => ?_)
                                  · exact absurd c_284 (by decide)
                                  · refine y_iload d_Lw_isFedRight_287 4 rfl ?_
                                    refine y_if_eq (tgt := 331) d_Lw_isFedRight_289 (by decide) (fun c_289 => ?_) (fun c_289 => ?_)
                                    · exact absurd c_289 (by decide)
                                    · refine y_iload d_Lw_isFedRight_292 1 rfl ?_
                                      refine y_if_eq (tgt := 331) d_Lw_isFedRight_294 (by decide) (fun c_294 => ?_) (fun c_294 => ?_)
                                      · exact absurd c_294 (hs_n hx hy e2 e3 (by rw [he]; decide) (by rw [hk]; decide))
                                      · refine y_iload d_Lw_isFedRight_297 5 rfl ?_
                                        refine y_bipush d_Lw_isFedRight_299 (v := 114) (by decide) ?_
                                        refine y_icmp_ne (tgt := 311) d_Lw_isFedRight_301 (by decide) (fun c_301 => ?_) (fun c_301 => ?_)
                                        · refine y_iload d_Lw_isFedRight_311 2 rfl ?_
                                          refine y_iconst d_Lw_isFedRight_313 (v := 1) (by decide) ?_
                                          refine y_icmp_lt (tgt := 321) d_Lw_isFedRight_314 (by decide) (fun c_314 => ?_) (fun c_314 => ?_)
                                          · exact absurd (Int32.lt_of_le_of_lt ((frO_k hh _ (by omega)).2 hv) c_314) (by decide)
                                          · refine y_iconst d_Lw_isFedRight_317 (v := 1) (by decide) ?_
                                            refine y_goto (tgt := 322) d_Lw_isFedRight_318 (by decide) ?_
                                            refine y_iload d_Lw_isFedRight_322 4 rfl ?_
                                            refine y_icmp_ne (tgt := 331) d_Lw_isFedRight_324 (by decide) (fun c_324 => ?_) (fun c_324 => ?_)
                                            · exact absurd c_324 (by decide)
                                            · refine y_iconst d_Lw_isFedRight_327 (v := 1) (by decide) ?_
                                              refine y_goto (tgt := 332) d_Lw_isFedRight_328 (by decide) ?_
                                              refine y_istore_n (lv' := [(2, .int 1), (16, .int (nI 4)), (15, .int (hsv A2 A3 (frO f h (12 * y + x)) 0 (nI x) (nI y) 4)), (14, .int (frO f h (12 * y + x))), (13, .int 1), (12, .int 1), (11, .int 99), (10, .int (nI x)), (9, .int (nI y)), (8, .ref q3), (7, .ref q2), (6, .ref q1), (5, .int (nI (e + 1))), (4, .int (nI (b + 1))), (3, .int (nI a)), (1, .int h), (0, .ref (ad 0))]) d_Lw_isFedRight_332 rfl (by decide) rfl ?_
                                              refine y_iinc (lv' := [(10, .int (nI (x + 1))), (2, .int 1), (16, .int (nI 4)), (15, .int (hsv A2 A3 (frO f h (12 * y + x)) 0 (nI x) (nI y) 4)), (14, .int (frO f h (12 * y + x))), (13, .int 1), (12, .int 1), (11, .int 99), (9, .int (nI y)), (8, .ref q3), (7, .ref q2), (6, .ref q1), (5, .int (nI (e + 1))), (4, .int (nI (b + 1))), (3, .int (nI a)), (1, .int h), (0, .ref (ad 0))]) (v := nI (x + 1)) d_Lw_isFedRight_333 (j := 7) rfl (nI_add _ _) (by decide) rfl ?_
                                              refine y_goto (tgt := 50) d_Lw_isFedRight_336 (by decide) ?_
                                              refine y_lv (lv' := [(10, .int (nI (x + 1))), (9, .int (nI y)), (8, .ref q3), (7, .ref q2), (6, .ref q1), (5, .int (nI (e + 1))), (4, .int (nI (b + 1))), (3, .int (nI a)), (2, .int 1), (1, .int h), (0, .ref (ad 0))]) [0, 8, 9, 10, 11, 12, 13, 14, 1, 15, 16] rfl ?_
                                              exact y_bud (by omega) (by omega) K
                                        · exact absurd c_301 (by decide)
                              · exact absurd c_194 (by decide)
              · exact absurd c_122 (by decide)
set_option maxHeartbeats 4000000 in
set_option maxRecDepth 100000 in
theorem F_D (g : zG) {ad : Nat → Nat} {t0 : zTT} {u : zNN} {f : Nat → Int32} {p : Nat} {w9 : zW} (hW : Wd g ad t0 u f p w9) {q1 q2 q3 : Nat} {A1 A2 A3 : Nat → Int32} {h : Int32} (hh : 1250 ≤ h ∧ h < 1450) (n1 : z_nf ad q1) (h1 : w9 q1 = some (.inl (0, 108, .inl A1))) (n2 : z_nf ad q2) (h2 : w9 q2 = some (.inl (0, 108, .inl A2))) (n3 : z_nf ad q3) (h3 : w9 q3 = some (.inl (0, 108, .inl A3))) (e1 : ∀ c, c < 108 → A1 c = fiO f c) (e2 : ∀ c, c < 108 → A2 c = fdO f h c) (e3 : ∀ c, c < 108 → A3 c = frO f h c) {x y a b e : Nat} {kc ks : Nat} (hx : x < 12) (hy : y < 9) (hk : f (12 * y + x) = 99) (hv : ¬ fiO f (12 * y + x) < 0) (he : fdO f h (12 * y + x) = 0) (K : DU g M_Lw_isFedRight (fun o w1 => o = .inl (some (.int 1)) ∧ Wd g ad t0 u f p w1) w9 3 50 [(10, .int (nI (x + 1))), (9, .int (nI y)), (8, .ref q3), (7, .ref q2), (6, .ref q1), (5, .int (nI (e + 1))), (4, .int (nI b)), (3, .int (nI a)), (2, .int 1), (1, .int h), (0, .ref (ad 0))] [] [(q1, .inl (0, 108, .inl A1)), (q2, .inl (0, 108, .inl A2)), (q3, .inl (0, 108, .inl A3))] (kc) (ks)) : DU g M_Lw_isFedRight (fun o w1 => o = .inl (some (.int 1)) ∧ Wd g ad t0 u f p w1) w9 3 57 [(10, .int (nI x)), (9, .int (nI y)), (8, .ref q3), (7, .ref q2), (6, .ref q1), (5, .int (nI e)), (4, .int (nI b)), (3, .int (nI a)), (2, .int 1), (1, .int h), (0, .ref (ad 0))] [] [(q1, .inl (0, 108, .inl A1)), (q2, .inl (0, 108, .inl A2)), (q3, .inl (0, 108, .inl A3))] (kc + 1) (ks + 6) := by
  refine y_aload_n d_Lw_isFedRight_57 rfl 10 rfl ?_
  refine y_iload d_Lw_isFedRight_58 0 rfl ?_
  refine y_iload d_Lw_isFedRight_60 1 rfl ?_
  refine yw_callS (As := [.ref (ad 0), .int (nI x), .int (nI y)]) (rest := []) ln_Lw_197 w_st_Lw_at ok_Lw_isFedRight_Lw_at d_Lw_isFedRight_62 (fun wA hA => T_at (hW.al hA rfl (List.forall_mem_cons.mpr ⟨⟨n1, _, _, h1⟩, (List.forall_mem_cons.mpr ⟨⟨n2, _, _, h2⟩, (List.forall_mem_cons.mpr ⟨⟨n3, _, _, h3⟩, (fun _ h => nomatch h)⟩)⟩)⟩)) hx hy) rfl rfl (Nat.le_of_ble_eq_true rfl) (by omega) (by omega) (fun wA62 hA62 E wB62 hx => ?_) (fun wA62 hA62 v wB62 hx => ?_)
  · exact absurd hx.1 (by simp)
  · obtain ⟨e1, e2⟩ := hx
    cases e1
    refine yw_st (st2 := [.int (f (12 * y + x))]) rfl ?_
    subst e2
    refine y_go hA62 ?_
    refine y_st (st2 := [.int 99]) (by rw [hk]) ?_
    refine y_istore (lv' := [(11, .int 99), (10, .int (nI x)), (9, .int (nI y)), (8, .ref q3), (7, .ref q2), (6, .ref q1), (5, .int (nI e)), (4, .int (nI b)), (3, .int (nI a)), (2, .int 1), (1, .int h), (0, .ref (ad 0))]) d_Lw_isFedRight_65 (by decide) rfl ?_
    refine y_aload d_Lw_isFedRight_67 5 rfl ?_
    refine y_iload d_Lw_isFedRight_69 1 rfl ?_
    refine y_iload d_Lw_isFedRight_71 2 rfl ?_
    refine y_callS (As := [.ref q1, .int (nI x), .int (nI y)]) (rest := []) (csC := [(q1, .inl (0, 108, .inl A1))]) (is := [0]) ln_Lw_205 w_st_Lw_in ok_Lw_isFedRight_Lw_in d_Lw_isFedRight_73 (C_Lw_in g q1 A1 (nI x) (nI y)) rfl rfl (Nat.le_of_ble_eq_true rfl) rfl (by decide) (by omega) (by omega) (fun E cs1 hx => ?_) (fun v cs1 hx => ?_)
    · exact absurd hx.1 (by simp)
    · obtain ⟨e1, rfl⟩ := hx
      cases e1
      refine ⟨rfl, ?_⟩
      refine y_st (st2 := [.int (inV A1 (nI x) (nI y))]) rfl ?_
      refine y_cs (cs2 := [(q1, .inl (0, 108, .inl A1)), (q2, .inl (0, 108, .inl A2)), (q3, .inl (0, 108, .inl A3))]) rfl ?_
      refine y_st (st2 := [.int (fiO f (12 * y + x))]) (by rw [inV_s (cl_in hx hy), e1 _ (by omega)]) ?_
      refine y_if_lt (tgt := 83) d_Lw_isFedRight_76 (by decide) (fun c_76 => ?_) (fun c_76 => ?_)
      · exact absurd c_76 hv
      · refine y_iconst d_Lw_isFedRight_79 (v := 1) (by decide) ?_
        refine y_goto (tgt := 84) d_Lw_isFedRight_80 (by decide) ?_
        refine y_istore (lv' := [(12, .int 1), (11, .int 99), (10, .int (nI x)), (9, .int (nI y)), (8, .ref q3), (7, .ref q2), (6, .ref q1), (5, .int (nI e)), (4, .int (nI b)), (3, .int (nI a)), (2, .int 1), (1, .int h), (0, .ref (ad 0))]) d_Lw_isFedRight_84 (by decide) rfl ?_
        refine y_aload d_Lw_isFedRight_86 5 rfl ?_
        refine y_iload d_Lw_isFedRight_88 2 rfl ?_
        refine y_iload d_Lw_isFedRight_90 3 rfl ?_
        refine y_callS (As := [.ref q2, .int (nI x), .int (nI y)]) (rest := []) (csC := [(q2, .inl (0, 108, .inl A2))]) (is := [1]) ln_Lw_205 w_st_Lw_in ok_Lw_isFedRight_Lw_in d_Lw_isFedRight_92 (C_Lw_in g q2 A2 (nI x) (nI y)) rfl rfl (Nat.le_of_ble_eq_true rfl) rfl (by decide) (by omega) (by omega) (fun E cs1 hx => ?_) (fun v cs1 hx => ?_)
        · exact absurd hx.1 (by simp)
        · obtain ⟨e1, rfl⟩ := hx
          cases e1
          refine ⟨rfl, ?_⟩
          refine y_st (st2 := [.int (inV A2 (nI x) (nI y))]) rfl ?_
          refine y_cs (cs2 := [(q1, .inl (0, 108, .inl A1)), (q2, .inl (0, 108, .inl A2)), (q3, .inl (0, 108, .inl A3))]) rfl ?_
          refine y_st (st2 := [.int 0]) (by rw [inV_s (cl_in hx hy), e2 _ (by omega), he]) ?_
          refine y_iconst d_Lw_isFedRight_95 (v := 1) (by decide) ?_
          refine y_icmp_ne (tgt := 103) d_Lw_isFedRight_96 (by decide) (fun c_96 => ?_) (fun c_96 => ?_)
          · refine y_iconst d_Lw_isFedRight_103 (v := 0) (by decide) ?_
            refine y_istore (lv' := [(13, .int 0), (12, .int 1), (11, .int 99), (10, .int (nI x)), (9, .int (nI y)), (8, .ref q3), (7, .ref q2), (6, .ref q1), (5, .int (nI e)), (4, .int (nI b)), (3, .int (nI a)), (2, .int 1), (1, .int h), (0, .ref (ad 0))]) d_Lw_isFedRight_104 (by decide) rfl ?_
            refine y_aload d_Lw_isFedRight_106 5 rfl ?_
            refine y_iload d_Lw_isFedRight_108 3 rfl ?_
            refine y_iload d_Lw_isFedRight_110 4 rfl ?_
            refine y_callS (As := [.ref q3, .int (nI x), .int (nI y)]) (rest := []) (csC := [(q3, .inl (0, 108, .inl A3))]) (is := [2]) ln_Lw_205 w_st_Lw_in ok_Lw_isFedRight_Lw_in d_Lw_isFedRight_112 (C_Lw_in g q3 A3 (nI x) (nI y)) rfl rfl (Nat.le_of_ble_eq_true rfl) rfl (by decide) (by omega) (by omega) (fun E cs1 hx => ?_) (fun v cs1 hx => ?_)
            · exact absurd hx.1 (by simp)
            · obtain ⟨e1, rfl⟩ := hx
              cases e1
              refine ⟨rfl, ?_⟩
              refine y_st (st2 := [.int (inV A3 (nI x) (nI y))]) rfl ?_
              refine y_cs (cs2 := [(q1, .inl (0, 108, .inl A1)), (q2, .inl (0, 108, .inl A2)), (q3, .inl (0, 108, .inl A3))]) rfl ?_
              refine y_st (st2 := [.int (frO f h (12 * y + x))]) (by rw [inV_s (cl_in hx hy), e3 _ (by omega)]) ?_
              refine y_istore (lv' := [(14, .int (frO f h (12 * y + x))), (13, .int 0), (12, .int 1), (11, .int 99), (10, .int (nI x)), (9, .int (nI y)), (8, .ref q3), (7, .ref q2), (6, .ref q1), (5, .int (nI e)), (4, .int (nI b)), (3, .int (nI a)), (2, .int 1), (1, .int h), (0, .ref (ad 0))]) d_Lw_isFedRight_115 (by decide) rfl ?_
              refine y_iload_n d_Lw_isFedRight_117 rfl 11 rfl ?_
              refine y_iload d_Lw_isFedRight_118 3 rfl ?_
              refine y_bipush d_Lw_isFedRight_120 (v := 114) (by decide) ?_
              refine y_icmp_ne (tgt := 134) d_Lw_isFedRight_122 (by decide) (fun c_122 => ?_) (fun c_122 => ?_)
              · refine y_iconst d_Lw_isFedRight_134 (v := 0) (by decide) ?_
                refine y_callS (As := [.int 0]) (rest := [.int (nI a)]) (csC := []) (is := []) ln_Lw_66 w_st_Lw_told ok_Lw_isFedRight_Lw_told d_Lw_isFedRight_135 (C_Lw_told g 0) rfl rfl (Nat.le_of_ble_eq_true rfl) rfl (by decide) (by omega) (by omega) (fun E cs1 hx => ?_) (fun v cs1 hx => ?_)
                · exact absurd hx.1 (by simp)
                · obtain ⟨e1, rfl⟩ := hx
                  cases e1
                  refine ⟨rfl, ?_⟩
                  refine y_st (st2 := [.int (if (0 : Int32) = 0 then 0 else 1), .int (nI a)]) rfl ?_
                  refine y_cs (cs2 := [(q1, .inl (0, 108, .inl A1)), (q2, .inl (0, 108, .inl A2)), (q3, .inl (0, 108, .inl A3))]) rfl ?_
                  refine y_iadd d_Lw_isFedRight_138 (v := nI a) tl0n ?_
                  refine y_istore_n (lv' := [(3, .int (nI a)), (14, .int (frO f h (12 * y + x))), (13, .int 0), (12, .int 1), (11, .int 99), (10, .int (nI x)), (9, .int (nI y)), (8, .ref q3), (7, .ref q2), (6, .ref q1), (5, .int (nI e)), (4, .int (nI b)), (2, .int 1), (1, .int h), (0, .ref (ad 0))]) d_Lw_isFedRight_139 rfl (by decide) rfl ?_
                  refine y_iload d_Lw_isFedRight_140 11 rfl ?_
                  refine y_iload d_Lw_isFedRight_142 4 rfl ?_
                  refine y_bipush d_Lw_isFedRight_144 (v := 99) (by decide) ?_
                  refine y_icmp_ne (tgt := 158) d_Lw_isFedRight_146 (by decide) (fun c_146 => ?_) (fun c_146 => ?_)
                  · exact absurd c_146 (by decide)
                  · refine y_iload d_Lw_isFedRight_149 2 rfl ?_
                    refine y_if_eq (tgt := 158) d_Lw_isFedRight_151 (by decide) (fun c_151 => ?_) (fun c_151 => ?_)
                    · refine y_iconst d_Lw_isFedRight_158 (v := 0) (by decide) ?_
                      refine y_callS (As := [.int 0]) (rest := [.int (nI b)]) (csC := []) (is := []) ln_Lw_66 w_st_Lw_told ok_Lw_isFedRight_Lw_told d_Lw_isFedRight_159 (C_Lw_told g 0) rfl rfl (Nat.le_of_ble_eq_true rfl) rfl (by decide) (by omega) (by omega) (fun E cs1 hx => ?_) (fun v cs1 hx => ?_)
                      · exact absurd hx.1 (by simp)
                      · obtain ⟨e1, rfl⟩ := hx
                        cases e1
                        refine ⟨rfl, ?_⟩
                        refine y_st (st2 := [.int (if (0 : Int32) = 0 then 0 else 1), .int (nI b)]) rfl ?_
                        refine y_cs (cs2 := [(q1, .inl (0, 108, .inl A1)), (q2, .inl (0, 108, .inl A2)), (q3, .inl (0, 108, .inl A3))]) rfl ?_
                        refine y_iadd d_Lw_isFedRight_162 (v := nI b) tl0n ?_
                        refine y_istore (lv' := [(4, .int (nI b)), (3, .int (nI a)), (14, .int (frO f h (12 * y + x))), (13, .int 0), (12, .int 1), (11, .int 99), (10, .int (nI x)), (9, .int (nI y)), (8, .ref q3), (7, .ref q2), (6, .ref q1), (5, .int (nI e)), (2, .int 1), (1, .int h), (0, .ref (ad 0))]) d_Lw_isFedRight_163 (by decide) rfl ?_
                        refine y_iload d_Lw_isFedRight_165 11 rfl ?_
                        refine y_iload d_Lw_isFedRight_167 5 rfl ?_
                        refine y_bipush d_Lw_isFedRight_169 (v := 99) (by decide) ?_
                        refine y_icmp_ne (tgt := 183) d_Lw_isFedRight_171 (by decide) (fun c_171 => ?_) (fun c_171 => ?_)
                        · exact absurd c_171 (by decide)
                        · refine y_iload d_Lw_isFedRight_174 4 rfl ?_
                          refine y_if_eq (tgt := 183) d_Lw_isFedRight_176 (by decide) (fun c_176 => ?_) (fun c_176 => ?_)
                          · exact absurd c_176 (by decide)
                          · refine y_iconst d_Lw_isFedRight_179 (v := 1) (by decide) ?_
                            refine y_goto (tgt := 184) d_Lw_isFedRight_180 (by decide) ?_
                            refine y_callS (As := [.int 1]) (rest := [.int (nI e)]) (csC := []) (is := []) ln_Lw_66 w_st_Lw_told ok_Lw_isFedRight_Lw_told d_Lw_isFedRight_184 (C_Lw_told g 1) rfl rfl (Nat.le_of_ble_eq_true rfl) rfl (by decide) (by omega) (by omega) (fun E cs1 hx => ?_) (fun v cs1 hx => ?_)
                            · exact absurd hx.1 (by simp)
                            · obtain ⟨e1, rfl⟩ := hx
                              cases e1
                              refine ⟨rfl, ?_⟩
                              refine y_st (st2 := [.int (if (1 : Int32) = 0 then 0 else 1), .int (nI e)]) rfl ?_
                              refine y_cs (cs2 := [(q1, .inl (0, 108, .inl A1)), (q2, .inl (0, 108, .inl A2)), (q3, .inl (0, 108, .inl A3))]) rfl ?_
                              refine y_iadd d_Lw_isFedRight_187 (v := nI (e + 1)) tl1n ?_
                              refine y_istore (lv' := [(5, .int (nI (e + 1))), (4, .int (nI b)), (3, .int (nI a)), (14, .int (frO f h (12 * y + x))), (13, .int 0), (12, .int 1), (11, .int 99), (10, .int (nI x)), (9, .int (nI y)), (8, .ref q3), (7, .ref q2), (6, .ref q1), (2, .int 1), (1, .int h), (0, .ref (ad 0))]) d_Lw_isFedRight_188 (by decide) rfl ?_
                              refine y_iload d_Lw_isFedRight_190 6 rfl ?_
                              refine y_bipush d_Lw_isFedRight_192 (v := 114) (by decide) ?_
                              refine y_icmp_ne (tgt := 201) d_Lw_isFedRight_194 (by decide) (fun c_194 => ?_) (fun c_194 => ?_)
                              · refine y_iconst d_Lw_isFedRight_201 (v := 0) (by decide) ?_
                                refine y_istore (lv' := [(15, .int 0), (5, .int (nI (e + 1))), (4, .int (nI b)), (3, .int (nI a)), (14, .int (frO f h (12 * y + x))), (13, .int 0), (12, .int 1), (11, .int 99), (10, .int (nI x)), (9, .int (nI y)), (8, .ref q3), (7, .ref q2), (6, .ref q1), (2, .int 1), (1, .int h), (0, .ref (ad 0))]) d_Lw_isFedRight_202 (by decide) rfl ?_
                                refine y_iconst d_Lw_isFedRight_204 (v := 0) (by decide) ?_
                                refine y_istore (lv' := [(16, .int 0), (15, .int 0), (5, .int (nI (e + 1))), (4, .int (nI b)), (3, .int (nI a)), (14, .int (frO f h (12 * y + x))), (13, .int 0), (12, .int 1), (11, .int 99), (10, .int (nI x)), (9, .int (nI y)), (8, .ref q3), (7, .ref q2), (6, .ref q1), (2, .int 1), (1, .int h), (0, .ref (ad 0))]) d_Lw_isFedRight_205 (by decide) rfl ?_
                                refine y_lv (lv' := [(16, .int 0), (15, .int 0), (14, .int (frO f h (12 * y + x))), (13, .int 0), (12, .int 1), (11, .int 99), (10, .int (nI x)), (9, .int (nI y)), (8, .ref q3), (7, .ref q2), (6, .ref q1), (5, .int (nI (e + 1))), (4, .int (nI b)), (3, .int (nI a)), (2, .int 1), (1, .int h), (0, .ref (ad 0))]) [0, 1, 5, 6, 7, 8, 9, 10, 11, 12, 13, 2, 3, 4, 14, 15, 16] rfl ?_
                                refine y_lv (lv' := [(16, .int 0), (15, .int 0), (14, .int (frO f h (12 * y + x))), (13, .int 0), (12, .int 1), (11, .int 99), (10, .int (nI x)), (9, .int (nI y)), (8, .ref q3), (7, .ref q2), (6, .ref q1), (5, .int (nI (e + 1))), (4, .int (nI b)), (3, .int (nI a)), (2, .int 1), (1, .int h), (0, .ref (ad 0))]) [0, 1, 2, 3, 4, 5, 6, 7, 8, 9, 10, 11, 12, 13, 14, 15, 16] rfl ?_
                                refine y_lvE (lv2 := [(16, .int (nI 0)), (15, .int (hsv A2 A3 (frO f h (12 * y + x)) 0 (nI x) (nI y) 0)), (14, .int (frO f h (12 * y + x))), (13, .int 0), (12, .int 1), (11, .int 99), (10, .int (nI x)), (9, .int (nI y)), (8, .ref q3), (7, .ref q2), (6, .ref q1), (5, .int (nI (e + 1))), (4, .int (nI b)), (3, .int (nI a)), (2, .int 1), (1, .int h), (0, .ref (ad 0))]) rfl ?_
                                refine H_side g hW hh n1 h1 n2 h2 n3 h3 e1 e2 e3 ?_ 5 0 (by decide) (by decide)
                                refine y_iload_n d_Lw_isFedRight_278 rfl 14 rfl ?_
                                refine y_if_eq (tgt := 331) d_Lw_isFedRight_279 (by decide) (fun c_279 => ?_) (fun c_279 => ?_)
                                · exact absurd c_279 (by decide)
                                · refine y_iload d_Lw_isFedRight_282 3 rfl ?_
                                  refine y_if_eq (tgt := 297) d_Lw_isFedRight_284 (by decide) (fun c_284 => ?_) (fun c_284 => ?_)
                                  · refine y_iload d_Lw_isFedRight_297 5 rfl ?_
                                    refine y_bipush d_Lw_isFedRight_299 (v := 114) (by decide) ?_
                                    refine y_icmp_ne (tgt := 311) d_Lw_isFedRight_301 (by decide) (fun c_301 => ?_) (fun c_301 => ?_)
                                    · refine y_iload d_Lw_isFedRight_311 2 rfl ?_
                                      refine y_iconst d_Lw_isFedRight_313 (v := 1) (by decide) ?_
                                      refine y_icmp_lt (tgt := 321) d_Lw_isFedRight_314 (by decide) (fun c_314 => ?_) (fun c_314 => ?_)
                                      · exact absurd (Int32.lt_of_le_of_lt ((frO_k hh _ (by omega)).2 hv) c_314) (by decide)
                                      · refine y_iconst d_Lw_isFedRight_317 (v := 1) (by decide) ?_
                                        refine y_goto (tgt := 322) d_Lw_isFedRight_318 (by decide) ?_
                                        refine y_iload d_Lw_isFedRight_322 4 rfl ?_
                                        refine y_icmp_ne (tgt := 331) d_Lw_isFedRight_324 (by decide) (fun c_324 => ?_) (fun c_324 => ?_)
                                        · exact absurd c_324 (by decide)
                                        · refine y_iconst d_Lw_isFedRight_327 (v := 1) (by decide) ?_
                                          refine y_goto (tgt := 332) d_Lw_isFedRight_328 (by decide) ?_
                                          refine y_istore_n (lv' := [(2, .int 1), (16, .int (nI 4)), (15, .int (hsv A2 A3 (frO f h (12 * y + x)) 0 (nI x) (nI y) 4)), (14, .int (frO f h (12 * y + x))), (13, .int 0), (12, .int 1), (11, .int 99), (10, .int (nI x)), (9, .int (nI y)), (8, .ref q3), (7, .ref q2), (6, .ref q1), (5, .int (nI (e + 1))), (4, .int (nI b)), (3, .int (nI a)), (1, .int h), (0, .ref (ad 0))]) d_Lw_isFedRight_332 rfl (by decide) rfl ?_
                                          refine y_iinc (lv' := [(10, .int (nI (x + 1))), (2, .int 1), (16, .int (nI 4)), (15, .int (hsv A2 A3 (frO f h (12 * y + x)) 0 (nI x) (nI y) 4)), (14, .int (frO f h (12 * y + x))), (13, .int 0), (12, .int 1), (11, .int 99), (9, .int (nI y)), (8, .ref q3), (7, .ref q2), (6, .ref q1), (5, .int (nI (e + 1))), (4, .int (nI b)), (3, .int (nI a)), (1, .int h), (0, .ref (ad 0))]) (v := nI (x + 1)) d_Lw_isFedRight_333 (j := 7) rfl (nI_add _ _) (by decide) rfl ?_
                                          refine y_goto (tgt := 50) d_Lw_isFedRight_336 (by decide) ?_
                                          refine y_lv (lv' := [(10, .int (nI (x + 1))), (9, .int (nI y)), (8, .ref q3), (7, .ref q2), (6, .ref q1), (5, .int (nI (e + 1))), (4, .int (nI b)), (3, .int (nI a)), (2, .int 1), (1, .int h), (0, .ref (ad 0))]) [0, 8, 9, 10, 11, 12, 13, 14, 1, 15, 16] rfl ?_
                                          exact y_bud (by omega) (by omega) K
                                    · exact absurd c_301 (by decide)
                                  · exact absurd c_284 (by decide)
                              · exact absurd c_194 (by decide)
                    · exact absurd c_151 (by decide)
              · exact absurd c_122 (by decide)
          · exact absurd c_96 (by decide)
set_option maxHeartbeats 4000000 in
set_option maxRecDepth 100000 in
theorem F_E (g : zG) {ad : Nat → Nat} {t0 : zTT} {u : zNN} {f : Nat → Int32} {p : Nat} {w9 : zW} (hW : Wd g ad t0 u f p w9) {q1 q2 q3 : Nat} {A1 A2 A3 : Nat → Int32} {h : Int32} (hh : 1250 ≤ h ∧ h < 1450) (n1 : z_nf ad q1) (h1 : w9 q1 = some (.inl (0, 108, .inl A1))) (n2 : z_nf ad q2) (h2 : w9 q2 = some (.inl (0, 108, .inl A2))) (n3 : z_nf ad q3) (h3 : w9 q3 = some (.inl (0, 108, .inl A3))) (e1 : ∀ c, c < 108 → A1 c = fiO f c) (e2 : ∀ c, c < 108 → A2 c = fdO f h c) (e3 : ∀ c, c < 108 → A3 c = frO f h c) {x y a b e : Nat} {kc ks : Nat} (hx : x < 12) (hy : y < 9) (hk : f (12 * y + x) = 99) (hv : fiO f (12 * y + x) < 0) (he : fdO f h (12 * y + x) = 0) (K : DU g M_Lw_isFedRight (fun o w1 => o = .inl (some (.int 1)) ∧ Wd g ad t0 u f p w1) w9 3 50 [(10, .int (nI (x + 1))), (9, .int (nI y)), (8, .ref q3), (7, .ref q2), (6, .ref q1), (5, .int (nI e)), (4, .int (nI b)), (3, .int (nI a)), (2, .int 1), (1, .int h), (0, .ref (ad 0))] [] [(q1, .inl (0, 108, .inl A1)), (q2, .inl (0, 108, .inl A2)), (q3, .inl (0, 108, .inl A3))] (kc) (ks)) : DU g M_Lw_isFedRight (fun o w1 => o = .inl (some (.int 1)) ∧ Wd g ad t0 u f p w1) w9 3 57 [(10, .int (nI x)), (9, .int (nI y)), (8, .ref q3), (7, .ref q2), (6, .ref q1), (5, .int (nI e)), (4, .int (nI b)), (3, .int (nI a)), (2, .int 1), (1, .int h), (0, .ref (ad 0))] [] [(q1, .inl (0, 108, .inl A1)), (q2, .inl (0, 108, .inl A2)), (q3, .inl (0, 108, .inl A3))] (kc + 1) (ks + 6) := by
  refine y_aload_n d_Lw_isFedRight_57 rfl 10 rfl ?_
  refine y_iload d_Lw_isFedRight_58 0 rfl ?_
  refine y_iload d_Lw_isFedRight_60 1 rfl ?_
  refine yw_callS (As := [.ref (ad 0), .int (nI x), .int (nI y)]) (rest := []) ln_Lw_197 w_st_Lw_at ok_Lw_isFedRight_Lw_at d_Lw_isFedRight_62 (fun wA hA => T_at (hW.al hA rfl (List.forall_mem_cons.mpr ⟨⟨n1, _, _, h1⟩, (List.forall_mem_cons.mpr ⟨⟨n2, _, _, h2⟩, (List.forall_mem_cons.mpr ⟨⟨n3, _, _, h3⟩, (fun _ h => nomatch h)⟩)⟩)⟩)) hx hy) rfl rfl (Nat.le_of_ble_eq_true rfl) (by omega) (by omega) (fun wA62 hA62 E wB62 hx => ?_) (fun wA62 hA62 v wB62 hx => ?_)
  · exact absurd hx.1 (by simp)
  · obtain ⟨e1, e2⟩ := hx
    cases e1
    refine yw_st (st2 := [.int (f (12 * y + x))]) rfl ?_
    subst e2
    refine y_go hA62 ?_
    refine y_st (st2 := [.int 99]) (by rw [hk]) ?_
    refine y_istore (lv' := [(11, .int 99), (10, .int (nI x)), (9, .int (nI y)), (8, .ref q3), (7, .ref q2), (6, .ref q1), (5, .int (nI e)), (4, .int (nI b)), (3, .int (nI a)), (2, .int 1), (1, .int h), (0, .ref (ad 0))]) d_Lw_isFedRight_65 (by decide) rfl ?_
    refine y_aload d_Lw_isFedRight_67 5 rfl ?_
    refine y_iload d_Lw_isFedRight_69 1 rfl ?_
    refine y_iload d_Lw_isFedRight_71 2 rfl ?_
    refine y_callS (As := [.ref q1, .int (nI x), .int (nI y)]) (rest := []) (csC := [(q1, .inl (0, 108, .inl A1))]) (is := [0]) ln_Lw_205 w_st_Lw_in ok_Lw_isFedRight_Lw_in d_Lw_isFedRight_73 (C_Lw_in g q1 A1 (nI x) (nI y)) rfl rfl (Nat.le_of_ble_eq_true rfl) rfl (by decide) (by omega) (by omega) (fun E cs1 hx => ?_) (fun v cs1 hx => ?_)
    · exact absurd hx.1 (by simp)
    · obtain ⟨e1, rfl⟩ := hx
      cases e1
      refine ⟨rfl, ?_⟩
      refine y_st (st2 := [.int (inV A1 (nI x) (nI y))]) rfl ?_
      refine y_cs (cs2 := [(q1, .inl (0, 108, .inl A1)), (q2, .inl (0, 108, .inl A2)), (q3, .inl (0, 108, .inl A3))]) rfl ?_
      refine y_st (st2 := [.int (fiO f (12 * y + x))]) (by rw [inV_s (cl_in hx hy), e1 _ (by omega)]) ?_
      refine y_if_lt (tgt := 83) d_Lw_isFedRight_76 (by decide) (fun c_76 => ?_) (fun c_76 => ?_)
      · refine y_iconst d_Lw_isFedRight_83 (v := 0) (by decide) ?_
        refine y_istore (lv' := [(12, .int 0), (11, .int 99), (10, .int (nI x)), (9, .int (nI y)), (8, .ref q3), (7, .ref q2), (6, .ref q1), (5, .int (nI e)), (4, .int (nI b)), (3, .int (nI a)), (2, .int 1), (1, .int h), (0, .ref (ad 0))]) d_Lw_isFedRight_84 (by decide) rfl ?_
        refine y_aload d_Lw_isFedRight_86 5 rfl ?_
        refine y_iload d_Lw_isFedRight_88 2 rfl ?_
        refine y_iload d_Lw_isFedRight_90 3 rfl ?_
        refine y_callS (As := [.ref q2, .int (nI x), .int (nI y)]) (rest := []) (csC := [(q2, .inl (0, 108, .inl A2))]) (is := [1]) ln_Lw_205 w_st_Lw_in ok_Lw_isFedRight_Lw_in d_Lw_isFedRight_92 (C_Lw_in g q2 A2 (nI x) (nI y)) rfl rfl (Nat.le_of_ble_eq_true rfl) rfl (by decide) (by omega) (by omega) (fun E cs1 hx => ?_) (fun v cs1 hx => ?_)
        · exact absurd hx.1 (by simp)
        · obtain ⟨e1, rfl⟩ := hx
          cases e1
          refine ⟨rfl, ?_⟩
          refine y_st (st2 := [.int (inV A2 (nI x) (nI y))]) rfl ?_
          refine y_cs (cs2 := [(q1, .inl (0, 108, .inl A1)), (q2, .inl (0, 108, .inl A2)), (q3, .inl (0, 108, .inl A3))]) rfl ?_
          refine y_st (st2 := [.int 0]) (by rw [inV_s (cl_in hx hy), e2 _ (by omega), he]) ?_
          refine y_iconst d_Lw_isFedRight_95 (v := 1) (by decide) ?_
          refine y_icmp_ne (tgt := 103) d_Lw_isFedRight_96 (by decide) (fun c_96 => ?_) (fun c_96 => ?_)
          · refine y_iconst d_Lw_isFedRight_103 (v := 0) (by decide) ?_
            refine y_istore (lv' := [(13, .int 0), (12, .int 0), (11, .int 99), (10, .int (nI x)), (9, .int (nI y)), (8, .ref q3), (7, .ref q2), (6, .ref q1), (5, .int (nI e)), (4, .int (nI b)), (3, .int (nI a)), (2, .int 1), (1, .int h), (0, .ref (ad 0))]) d_Lw_isFedRight_104 (by decide) rfl ?_
            refine y_aload d_Lw_isFedRight_106 5 rfl ?_
            refine y_iload d_Lw_isFedRight_108 3 rfl ?_
            refine y_iload d_Lw_isFedRight_110 4 rfl ?_
            refine y_callS (As := [.ref q3, .int (nI x), .int (nI y)]) (rest := []) (csC := [(q3, .inl (0, 108, .inl A3))]) (is := [2]) ln_Lw_205 w_st_Lw_in ok_Lw_isFedRight_Lw_in d_Lw_isFedRight_112 (C_Lw_in g q3 A3 (nI x) (nI y)) rfl rfl (Nat.le_of_ble_eq_true rfl) rfl (by decide) (by omega) (by omega) (fun E cs1 hx => ?_) (fun v cs1 hx => ?_)
            · exact absurd hx.1 (by simp)
            · obtain ⟨e1, rfl⟩ := hx
              cases e1
              refine ⟨rfl, ?_⟩
              refine y_st (st2 := [.int (inV A3 (nI x) (nI y))]) rfl ?_
              refine y_cs (cs2 := [(q1, .inl (0, 108, .inl A1)), (q2, .inl (0, 108, .inl A2)), (q3, .inl (0, 108, .inl A3))]) rfl ?_
              refine y_st (st2 := [.int ((-1))]) (by rw [inV_s (cl_in hx hy), e3 _ (by omega), (frO_k hh _ (by omega)).1 hv]) ?_
              refine y_istore (lv' := [(14, .int (-1)), (13, .int 0), (12, .int 0), (11, .int 99), (10, .int (nI x)), (9, .int (nI y)), (8, .ref q3), (7, .ref q2), (6, .ref q1), (5, .int (nI e)), (4, .int (nI b)), (3, .int (nI a)), (2, .int 1), (1, .int h), (0, .ref (ad 0))]) d_Lw_isFedRight_115 (by decide) rfl ?_
              refine y_iload_n d_Lw_isFedRight_117 rfl 11 rfl ?_
              refine y_iload d_Lw_isFedRight_118 3 rfl ?_
              refine y_bipush d_Lw_isFedRight_120 (v := 114) (by decide) ?_
              refine y_icmp_ne (tgt := 134) d_Lw_isFedRight_122 (by decide) (fun c_122 => ?_) (fun c_122 => ?_)
              · refine y_iconst d_Lw_isFedRight_134 (v := 0) (by decide) ?_
                refine y_callS (As := [.int 0]) (rest := [.int (nI a)]) (csC := []) (is := []) ln_Lw_66 w_st_Lw_told ok_Lw_isFedRight_Lw_told d_Lw_isFedRight_135 (C_Lw_told g 0) rfl rfl (Nat.le_of_ble_eq_true rfl) rfl (by decide) (by omega) (by omega) (fun E cs1 hx => ?_) (fun v cs1 hx => ?_)
                · exact absurd hx.1 (by simp)
                · obtain ⟨e1, rfl⟩ := hx
                  cases e1
                  refine ⟨rfl, ?_⟩
                  refine y_st (st2 := [.int (if (0 : Int32) = 0 then 0 else 1), .int (nI a)]) rfl ?_
                  refine y_cs (cs2 := [(q1, .inl (0, 108, .inl A1)), (q2, .inl (0, 108, .inl A2)), (q3, .inl (0, 108, .inl A3))]) rfl ?_
                  refine y_iadd d_Lw_isFedRight_138 (v := nI a) tl0n ?_
                  refine y_istore_n (lv' := [(3, .int (nI a)), (14, .int (-1)), (13, .int 0), (12, .int 0), (11, .int 99), (10, .int (nI x)), (9, .int (nI y)), (8, .ref q3), (7, .ref q2), (6, .ref q1), (5, .int (nI e)), (4, .int (nI b)), (2, .int 1), (1, .int h), (0, .ref (ad 0))]) d_Lw_isFedRight_139 rfl (by decide) rfl ?_
                  refine y_iload d_Lw_isFedRight_140 11 rfl ?_
                  refine y_iload d_Lw_isFedRight_142 4 rfl ?_
                  refine y_bipush d_Lw_isFedRight_144 (v := 99) (by decide) ?_
                  refine y_icmp_ne (tgt := 158) d_Lw_isFedRight_146 (by decide) (fun c_146 => ?_) (fun c_146 => ?_)
                  · exact absurd c_146 (by decide)
                  · refine y_iload d_Lw_isFedRight_149 2 rfl ?_
                    refine y_if_eq (tgt := 158) d_Lw_isFedRight_151 (by decide) (fun c_151 => ?_) (fun c_151 => ?_)
                    · refine y_iconst d_Lw_isFedRight_158 (v := 0) (by decide) ?_
                      refine y_callS (As := [.int 0]) (rest := [.int (nI b)]) (csC := []) (is := []) ln_Lw_66 w_st_Lw_told ok_Lw_isFedRight_Lw_told d_Lw_isFedRight_159 (C_Lw_told g 0) rfl rfl (Nat.le_of_ble_eq_true rfl) rfl (by decide) (by omega) (by omega) (fun E cs1 hx => ?_) (fun v cs1 hx => ?_)
                      · exact absurd hx.1 (by simp)
                      · obtain ⟨e1, rfl⟩ := hx
                        cases e1
                        refine ⟨rfl, ?_⟩
                        refine y_st (st2 := [.int (if (0 : Int32) = 0 then 0 else 1), .int (nI b)]) rfl ?_
                        refine y_cs (cs2 := [(q1, .inl (0, 108, .inl A1)), (q2, .inl (0, 108, .inl A2)), (q3, .inl (0, 108, .inl A3))]) rfl ?_
                        refine y_iadd d_Lw_isFedRight_162 (v := nI b) tl0n ?_
                        refine y_istore (lv' := [(4, .int (nI b)), (3, .int (nI a)), (14, .int (-1)), (13, .int 0), (12, .int 0), (11, .int 99), (10, .int (nI x)), (9, .int (nI y)), (8, .ref q3), (7, .ref q2), (6, .ref q1), (5, .int (nI e)), (2, .int 1), (1, .int h), (0, .ref (ad 0))]) d_Lw_isFedRight_163 (by decide) rfl ?_
                        refine y_iload d_Lw_isFedRight_165 11 rfl ?_
                        refine y_iload d_Lw_isFedRight_167 5 rfl ?_
                        refine y_bipush d_Lw_isFedRight_169 (v := 99) (by decide) ?_
                        refine y_icmp_ne (tgt := 183) d_Lw_isFedRight_171 (by decide) (fun c_171 => ?_) (fun c_171 => ?_)
                        · exact absurd c_171 (by decide)
                        · refine y_iload d_Lw_isFedRight_174 4 rfl ?_
                          refine y_if_eq (tgt := 183) d_Lw_isFedRight_176 (by decide) (fun c_176 => ?_) (fun c_176 => ?_)
                          · refine y_iconst d_Lw_isFedRight_183 (v := 0) (by decide) ?_
                            refine y_callS (As := [.int 0]) (rest := [.int (nI e)]) (csC := []) (is := []) ln_Lw_66 w_st_Lw_told ok_Lw_isFedRight_Lw_told d_Lw_isFedRight_184 (C_Lw_told g 0) rfl rfl (Nat.le_of_ble_eq_true rfl) rfl (by decide) (by omega) (by omega) (fun E cs1 hx => ?_) (fun v cs1 hx => ?_)
                            · exact absurd hx.1 (by simp)
                            · obtain ⟨e1, rfl⟩ := hx
                              cases e1
                              refine ⟨rfl, ?_⟩
                              refine y_st (st2 := [.int (if (0 : Int32) = 0 then 0 else 1), .int (nI e)]) rfl ?_
                              refine y_cs (cs2 := [(q1, .inl (0, 108, .inl A1)), (q2, .inl (0, 108, .inl A2)), (q3, .inl (0, 108, .inl A3))]) rfl ?_
                              refine y_iadd d_Lw_isFedRight_187 (v := nI e) tl0n ?_
                              refine y_istore (lv' := [(5, .int (nI e)), (4, .int (nI b)), (3, .int (nI a)), (14, .int (-1)), (13, .int 0), (12, .int 0), (11, .int 99), (10, .int (nI x)), (9, .int (nI y)), (8, .ref q3), (7, .ref q2), (6, .ref q1), (2, .int 1), (1, .int h), (0, .ref (ad 0))]) d_Lw_isFedRight_188 (by decide) rfl ?_
                              refine y_iload d_Lw_isFedRight_190 6 rfl ?_
                              refine y_bipush d_Lw_isFedRight_192 (v := 114) (by decide) ?_
                              refine y_icmp_ne (tgt := 201) d_Lw_isFedRight_194 (by decide) (fun c_194 => ?_) (fun c_194 => ?_)
                              · refine y_iconst d_Lw_isFedRight_201 (v := 0) (by decide) ?_
                                refine y_istore (lv' := [(15, .int 0), (5, .int (nI e)), (4, .int (nI b)), (3, .int (nI a)), (14, .int (-1)), (13, .int 0), (12, .int 0), (11, .int 99), (10, .int (nI x)), (9, .int (nI y)), (8, .ref q3), (7, .ref q2), (6, .ref q1), (2, .int 1), (1, .int h), (0, .ref (ad 0))]) d_Lw_isFedRight_202 (by decide) rfl ?_
                                refine y_iconst d_Lw_isFedRight_204 (v := 0) (by decide) ?_
                                refine y_istore (lv' := [(16, .int 0), (15, .int 0), (5, .int (nI e)), (4, .int (nI b)), (3, .int (nI a)), (14, .int (-1)), (13, .int 0), (12, .int 0), (11, .int 99), (10, .int (nI x)), (9, .int (nI y)), (8, .ref q3), (7, .ref q2), (6, .ref q1), (2, .int 1), (1, .int h), (0, .ref (ad 0))]) d_Lw_isFedRight_205 (by decide) rfl ?_
                                refine y_lv (lv' := [(16, .int 0), (15, .int 0), (14, .int (-1)), (13, .int 0), (12, .int 0), (11, .int 99), (10, .int (nI x)), (9, .int (nI y)), (8, .ref q3), (7, .ref q2), (6, .ref q1), (5, .int (nI e)), (4, .int (nI b)), (3, .int (nI a)), (2, .int 1), (1, .int h), (0, .ref (ad 0))]) [0, 1, 5, 6, 7, 8, 9, 10, 11, 12, 13, 2, 3, 4, 14, 15, 16] rfl ?_
                                refine y_lv (lv' := [(16, .int 0), (15, .int 0), (14, .int (-1)), (13, .int 0), (12, .int 0), (11, .int 99), (10, .int (nI x)), (9, .int (nI y)), (8, .ref q3), (7, .ref q2), (6, .ref q1), (5, .int (nI e)), (4, .int (nI b)), (3, .int (nI a)), (2, .int 1), (1, .int h), (0, .ref (ad 0))]) [0, 1, 2, 3, 4, 5, 6, 7, 8, 9, 10, 11, 12, 13, 14, 15, 16] rfl ?_
                                refine y_lvE (lv2 := [(16, .int (nI 0)), (15, .int (hsv A2 A3 (-1) 0 (nI x) (nI y) 0)), (14, .int (-1)), (13, .int 0), (12, .int 0), (11, .int 99), (10, .int (nI x)), (9, .int (nI y)), (8, .ref q3), (7, .ref q2), (6, .ref q1), (5, .int (nI e)), (4, .int (nI b)), (3, .int (nI a)), (2, .int 1), (1, .int h), (0, .ref (ad 0))]) rfl ?_
                                refine H_side g hW hh n1 h1 n2 h2 n3 h3 e1 e2 e3 ?_ 5 0 (by decide) (by decide)
                                refine y_iload_n d_Lw_isFedRight_278 rfl 14 rfl ?_
                                refine y_if_eq (tgt := 331) d_Lw_isFedRight_279 (by decide) (fun c_279 => ?_) (fun c_279 => ?_)
                                · exact absurd c_279 (by decide)
                                · refine y_iload d_Lw_isFedRight_282 3 rfl ?_
                                  refine y_if_eq (tgt := 297) d_Lw_isFedRight_284 (by decide) (fun c_284 => ?_) (fun c_284 => ?_)
                                  · refine y_iload d_Lw_isFedRight_297 5 rfl ?_
                                    refine y_bipush d_Lw_isFedRight_299 (v := 114) (by decide) ?_
                                    refine y_icmp_ne (tgt := 311) d_Lw_isFedRight_301 (by decide) (fun c_301 => ?_) (fun c_301 => ?_)
                                    · refine y_iload d_Lw_isFedRight_311 2 rfl ?_
                                      refine y_iconst d_Lw_isFedRight_313 (v := 1) (by decide) ?_
                                      refine y_icmp_lt (tgt := 321) d_Lw_isFedRight_314 (by decide) (fun c_314 => ?_) (fun c_314 => ?_)
                                      · refine y_iconst d_Lw_isFedRight_321 (v := 0) (by decide) ?_
                                        refine y_iload d_Lw_isFedRight_322 4 rfl ?_
                                        refine y_icmp_ne (tgt := 331) d_Lw_isFedRight_324 (by decide) (fun c_324 => ?_) (fun c_324 => ?_)
                                        · exact absurd c_324 (by decide)
                                        · refine y_iconst d_Lw_isFedRight_327 (v := 1) (by decide) ?_
                                          refine y_goto (tgt := 332) d_Lw_isFedRight_328 (by decide) ?_
                                          refine y_istore_n (lv' := [(2, .int 1), (16, .int (nI 4)), (15, .int (hsv A2 A3 (-1) 0 (nI x) (nI y) 4)), (14, .int (-1)), (13, .int 0), (12, .int 0), (11, .int 99), (10, .int (nI x)), (9, .int (nI y)), (8, .ref q3), (7, .ref q2), (6, .ref q1), (5, .int (nI e)), (4, .int (nI b)), (3, .int (nI a)), (1, .int h), (0, .ref (ad 0))]) d_Lw_isFedRight_332 rfl (by decide) rfl ?_
                                          refine y_iinc (lv' := [(10, .int (nI (x + 1))), (2, .int 1), (16, .int (nI 4)), (15, .int (hsv A2 A3 (-1) 0 (nI x) (nI y) 4)), (14, .int (-1)), (13, .int 0), (12, .int 0), (11, .int 99), (9, .int (nI y)), (8, .ref q3), (7, .ref q2), (6, .ref q1), (5, .int (nI e)), (4, .int (nI b)), (3, .int (nI a)), (1, .int h), (0, .ref (ad 0))]) (v := nI (x + 1)) d_Lw_isFedRight_333 (j := 7) rfl (nI_add _ _) (by decide) rfl ?_
                                          refine y_goto (tgt := 50) d_Lw_isFedRight_336 (by decide) ?_
                                          refine y_lv (lv' := [(10, .int (nI (x + 1))), (9, .int (nI y)), (8, .ref q3), (7, .ref q2), (6, .ref q1), (5, .int (nI e)), (4, .int (nI b)), (3, .int (nI a)), (2, .int 1), (1, .int h), (0, .ref (ad 0))]) [0, 8, 9, 10, 11, 12, 13, 14, 1, 15, 16] rfl ?_
                                          exact y_bud (by omega) (by omega) K
                                      · exact absurd c_314 (by decide)
                                    · exact absurd c_301 (by decide)
                                  · exact absurd c_284 (by decide)
                              · exact absurd c_194 (by decide)
                          · exact absurd c_176 (by decide)
                    · exact absurd c_151 (by decide)
              · exact absurd c_122 (by decide)
          · exact absurd c_96 (by decide)
      · exact absurd hv c_76
set_option maxHeartbeats 4000000 in
set_option maxRecDepth 100000 in
theorem F_F (g : zG) {ad : Nat → Nat} {t0 : zTT} {u : zNN} {f : Nat → Int32} {p : Nat} {w9 : zW} (hW : Wd g ad t0 u f p w9) {q1 q2 q3 : Nat} {A1 A2 A3 : Nat → Int32} {h : Int32} (hh : 1250 ≤ h ∧ h < 1450) (n1 : z_nf ad q1) (h1 : w9 q1 = some (.inl (0, 108, .inl A1))) (n2 : z_nf ad q2) (h2 : w9 q2 = some (.inl (0, 108, .inl A2))) (n3 : z_nf ad q3) (h3 : w9 q3 = some (.inl (0, 108, .inl A3))) (e1 : ∀ c, c < 108 → A1 c = fiO f c) (e2 : ∀ c, c < 108 → A2 c = fdO f h c) (e3 : ∀ c, c < 108 → A3 c = frO f h c) {x y a b e : Nat} {kc ks : Nat} (hx : x < 12) (hy : y < 9) {k : Int32} (k4 : ¬ k = 114) (k9 : ¬ k = 99) (hk : f (12 * y + x) = k) (hv : ¬ fiO f (12 * y + x) < 0) (he : fdO f h (12 * y + x) = 1) (K : DU g M_Lw_isFedRight (fun o w1 => o = .inl (some (.int 1)) ∧ Wd g ad t0 u f p w1) w9 3 50 [(10, .int (nI (x + 1))), (9, .int (nI y)), (8, .ref q3), (7, .ref q2), (6, .ref q1), (5, .int (nI e)), (4, .int (nI b)), (3, .int (nI a)), (2, .int 1), (1, .int h), (0, .ref (ad 0))] [] [(q1, .inl (0, 108, .inl A1)), (q2, .inl (0, 108, .inl A2)), (q3, .inl (0, 108, .inl A3))] (kc) (ks)) : DU g M_Lw_isFedRight (fun o w1 => o = .inl (some (.int 1)) ∧ Wd g ad t0 u f p w1) w9 3 57 [(10, .int (nI x)), (9, .int (nI y)), (8, .ref q3), (7, .ref q2), (6, .ref q1), (5, .int (nI e)), (4, .int (nI b)), (3, .int (nI a)), (2, .int 1), (1, .int h), (0, .ref (ad 0))] [] [(q1, .inl (0, 108, .inl A1)), (q2, .inl (0, 108, .inl A2)), (q3, .inl (0, 108, .inl A3))] (kc + 1) (ks + 6) := by
  refine y_aload_n d_Lw_isFedRight_57 rfl 10 rfl ?_
  refine y_iload d_Lw_isFedRight_58 0 rfl ?_
  refine y_iload d_Lw_isFedRight_60 1 rfl ?_
  refine yw_callS (As := [.ref (ad 0), .int (nI x), .int (nI y)]) (rest := []) ln_Lw_197 w_st_Lw_at ok_Lw_isFedRight_Lw_at d_Lw_isFedRight_62 (fun wA hA => T_at (hW.al hA rfl (List.forall_mem_cons.mpr ⟨⟨n1, _, _, h1⟩, (List.forall_mem_cons.mpr ⟨⟨n2, _, _, h2⟩, (List.forall_mem_cons.mpr ⟨⟨n3, _, _, h3⟩, (fun _ h => nomatch h)⟩)⟩)⟩)) hx hy) rfl rfl (Nat.le_of_ble_eq_true rfl) (by omega) (by omega) (fun wA62 hA62 E wB62 hx => ?_) (fun wA62 hA62 v wB62 hx => ?_)
  · exact absurd hx.1 (by simp)
  · obtain ⟨e1, e2⟩ := hx
    cases e1
    refine yw_st (st2 := [.int (f (12 * y + x))]) rfl ?_
    subst e2
    refine y_go hA62 ?_
    refine y_st (st2 := [.int k]) (by rw [hk]) ?_
    refine y_istore (lv' := [(11, .int k), (10, .int (nI x)), (9, .int (nI y)), (8, .ref q3), (7, .ref q2), (6, .ref q1), (5, .int (nI e)), (4, .int (nI b)), (3, .int (nI a)), (2, .int 1), (1, .int h), (0, .ref (ad 0))]) d_Lw_isFedRight_65 (by decide) rfl ?_
    refine y_aload d_Lw_isFedRight_67 5 rfl ?_
    refine y_iload d_Lw_isFedRight_69 1 rfl ?_
    refine y_iload d_Lw_isFedRight_71 2 rfl ?_
    refine y_callS (As := [.ref q1, .int (nI x), .int (nI y)]) (rest := []) (csC := [(q1, .inl (0, 108, .inl A1))]) (is := [0]) ln_Lw_205 w_st_Lw_in ok_Lw_isFedRight_Lw_in d_Lw_isFedRight_73 (C_Lw_in g q1 A1 (nI x) (nI y)) rfl rfl (Nat.le_of_ble_eq_true rfl) rfl (by decide) (by omega) (by omega) (fun E cs1 hx => ?_) (fun v cs1 hx => ?_)
    · exact absurd hx.1 (by simp)
    · obtain ⟨e1, rfl⟩ := hx
      cases e1
      refine ⟨rfl, ?_⟩
      refine y_st (st2 := [.int (inV A1 (nI x) (nI y))]) rfl ?_
      refine y_cs (cs2 := [(q1, .inl (0, 108, .inl A1)), (q2, .inl (0, 108, .inl A2)), (q3, .inl (0, 108, .inl A3))]) rfl ?_
      refine y_st (st2 := [.int (fiO f (12 * y + x))]) (by rw [inV_s (cl_in hx hy), e1 _ (by omega)]) ?_
      refine y_if_lt (tgt := 83) d_Lw_isFedRight_76 (by decide) (fun c_76 => ?_) (fun c_76 => ?_)
      · exact absurd c_76 hv
      · refine y_iconst d_Lw_isFedRight_79 (v := 1) (by decide) ?_
        refine y_goto (tgt := 84) d_Lw_isFedRight_80 (by decide) ?_
        refine y_istore (lv' := [(12, .int 1), (11, .int k), (10, .int (nI x)), (9, .int (nI y)), (8, .ref q3), (7, .ref q2), (6, .ref q1), (5, .int (nI e)), (4, .int (nI b)), (3, .int (nI a)), (2, .int 1), (1, .int h), (0, .ref (ad 0))]) d_Lw_isFedRight_84 (by decide) rfl ?_
        refine y_aload d_Lw_isFedRight_86 5 rfl ?_
        refine y_iload d_Lw_isFedRight_88 2 rfl ?_
        refine y_iload d_Lw_isFedRight_90 3 rfl ?_
        refine y_callS (As := [.ref q2, .int (nI x), .int (nI y)]) (rest := []) (csC := [(q2, .inl (0, 108, .inl A2))]) (is := [1]) ln_Lw_205 w_st_Lw_in ok_Lw_isFedRight_Lw_in d_Lw_isFedRight_92 (C_Lw_in g q2 A2 (nI x) (nI y)) rfl rfl (Nat.le_of_ble_eq_true rfl) rfl (by decide) (by omega) (by omega) (fun E cs1 hx => ?_) (fun v cs1 hx => ?_)
        · exact absurd hx.1 (by simp)
        · obtain ⟨e1, rfl⟩ := hx
          cases e1
          refine ⟨rfl, ?_⟩
          refine y_st (st2 := [.int (inV A2 (nI x) (nI y))]) rfl ?_
          refine y_cs (cs2 := [(q1, .inl (0, 108, .inl A1)), (q2, .inl (0, 108, .inl A2)), (q3, .inl (0, 108, .inl A3))]) rfl ?_
          refine y_st (st2 := [.int 1]) (by rw [inV_s (cl_in hx hy), e2 _ (by omega), he]) ?_
          refine y_iconst d_Lw_isFedRight_95 (v := 1) (by decide) ?_
          refine y_icmp_ne (tgt := 103) d_Lw_isFedRight_96 (by decide) (fun c_96 => ?_) (fun c_96 => ?_)
          · exact absurd c_96 (by decide)
          · refine y_iconst d_Lw_isFedRight_99 (v := 1) (by decide) ?_
            refine y_goto (tgt := 104) d_Lw_isFedRight_100 (by decide) ?_
            refine y_istore (lv' := [(13, .int 1), (12, .int 1), (11, .int k), (10, .int (nI x)), (9, .int (nI y)), (8, .ref q3), (7, .ref q2), (6, .ref q1), (5, .int (nI e)), (4, .int (nI b)), (3, .int (nI a)), (2, .int 1), (1, .int h), (0, .ref (ad 0))]) d_Lw_isFedRight_104 (by decide) rfl ?_
            refine y_aload d_Lw_isFedRight_106 5 rfl ?_
            refine y_iload d_Lw_isFedRight_108 3 rfl ?_
            refine y_iload d_Lw_isFedRight_110 4 rfl ?_
            refine y_callS (As := [.ref q3, .int (nI x), .int (nI y)]) (rest := []) (csC := [(q3, .inl (0, 108, .inl A3))]) (is := [2]) ln_Lw_205 w_st_Lw_in ok_Lw_isFedRight_Lw_in d_Lw_isFedRight_112 (C_Lw_in g q3 A3 (nI x) (nI y)) rfl rfl (Nat.le_of_ble_eq_true rfl) rfl (by decide) (by omega) (by omega) (fun E cs1 hx => ?_) (fun v cs1 hx => ?_)
            · exact absurd hx.1 (by simp)
            · obtain ⟨e1, rfl⟩ := hx
              cases e1
              refine ⟨rfl, ?_⟩
              refine y_st (st2 := [.int (inV A3 (nI x) (nI y))]) rfl ?_
              refine y_cs (cs2 := [(q1, .inl (0, 108, .inl A1)), (q2, .inl (0, 108, .inl A2)), (q3, .inl (0, 108, .inl A3))]) rfl ?_
              refine y_st (st2 := [.int (frO f h (12 * y + x))]) (by rw [inV_s (cl_in hx hy), e3 _ (by omega)]) ?_
              refine y_istore (lv' := [(14, .int (frO f h (12 * y + x))), (13, .int 1), (12, .int 1), (11, .int k), (10, .int (nI x)), (9, .int (nI y)), (8, .ref q3), (7, .ref q2), (6, .ref q1), (5, .int (nI e)), (4, .int (nI b)), (3, .int (nI a)), (2, .int 1), (1, .int h), (0, .ref (ad 0))]) d_Lw_isFedRight_115 (by decide) rfl ?_
              refine y_iload_n d_Lw_isFedRight_117 rfl 11 rfl ?_
              refine y_iload d_Lw_isFedRight_118 3 rfl ?_
              refine y_bipush d_Lw_isFedRight_120 (v := 114) (by decide) ?_
              refine y_icmp_ne (tgt := 134) d_Lw_isFedRight_122 (by decide) (fun c_122 => ?_) (fun c_122 => ?_)
              · refine y_iconst d_Lw_isFedRight_134 (v := 0) (by decide) ?_
                refine y_callS (As := [.int 0]) (rest := [.int (nI a)]) (csC := []) (is := []) ln_Lw_66 w_st_Lw_told ok_Lw_isFedRight_Lw_told d_Lw_isFedRight_135 (C_Lw_told g 0) rfl rfl (Nat.le_of_ble_eq_true rfl) rfl (by decide) (by omega) (by omega) (fun E cs1 hx => ?_) (fun v cs1 hx => ?_)
                · exact absurd hx.1 (by simp)
                · obtain ⟨e1, rfl⟩ := hx
                  cases e1
                  refine ⟨rfl, ?_⟩
                  refine y_st (st2 := [.int (if (0 : Int32) = 0 then 0 else 1), .int (nI a)]) rfl ?_
                  refine y_cs (cs2 := [(q1, .inl (0, 108, .inl A1)), (q2, .inl (0, 108, .inl A2)), (q3, .inl (0, 108, .inl A3))]) rfl ?_
                  refine y_iadd d_Lw_isFedRight_138 (v := nI a) tl0n ?_
                  refine y_istore_n (lv' := [(3, .int (nI a)), (14, .int (frO f h (12 * y + x))), (13, .int 1), (12, .int 1), (11, .int k), (10, .int (nI x)), (9, .int (nI y)), (8, .ref q3), (7, .ref q2), (6, .ref q1), (5, .int (nI e)), (4, .int (nI b)), (2, .int 1), (1, .int h), (0, .ref (ad 0))]) d_Lw_isFedRight_139 rfl (by decide) rfl ?_
                  refine y_iload d_Lw_isFedRight_140 11 rfl ?_
                  refine y_iload d_Lw_isFedRight_142 4 rfl ?_
                  refine y_bipush d_Lw_isFedRight_144 (v := 99) (by decide) ?_
                  refine y_icmp_ne (tgt := 158) d_Lw_isFedRight_146 (by decide) (fun c_146 => ?_) (fun c_146 => ?_)
                  · refine y_iconst d_Lw_isFedRight_158 (v := 0) (by decide) ?_
                    refine y_callS (As := [.int 0]) (rest := [.int (nI b)]) (csC := []) (is := []) ln_Lw_66 w_st_Lw_told ok_Lw_isFedRight_Lw_told d_Lw_isFedRight_159 (C_Lw_told g 0) rfl rfl (Nat.le_of_ble_eq_true rfl) rfl (by decide) (by omega) (by omega) (fun E cs1 hx => ?_) (fun v cs1 hx => ?_)
                    · exact absurd hx.1 (by simp)
                    · obtain ⟨e1, rfl⟩ := hx
                      cases e1
                      refine ⟨rfl, ?_⟩
                      refine y_st (st2 := [.int (if (0 : Int32) = 0 then 0 else 1), .int (nI b)]) rfl ?_
                      refine y_cs (cs2 := [(q1, .inl (0, 108, .inl A1)), (q2, .inl (0, 108, .inl A2)), (q3, .inl (0, 108, .inl A3))]) rfl ?_
                      refine y_iadd d_Lw_isFedRight_162 (v := nI b) tl0n ?_
                      refine y_istore (lv' := [(4, .int (nI b)), (3, .int (nI a)), (14, .int (frO f h (12 * y + x))), (13, .int 1), (12, .int 1), (11, .int k), (10, .int (nI x)), (9, .int (nI y)), (8, .ref q3), (7, .ref q2), (6, .ref q1), (5, .int (nI e)), (2, .int 1), (1, .int h), (0, .ref (ad 0))]) d_Lw_isFedRight_163 (by decide) rfl ?_
                      refine y_iload d_Lw_isFedRight_165 11 rfl ?_
                      refine y_iload d_Lw_isFedRight_167 5 rfl ?_
                      refine y_bipush d_Lw_isFedRight_169 (v := 99) (by decide) ?_
                      refine y_icmp_ne (tgt := 183) d_Lw_isFedRight_171 (by decide) (fun c_171 => ?_) (fun c_171 => ?_)
                      · refine y_iconst d_Lw_isFedRight_183 (v := 0) (by decide) ?_
                        refine y_callS (As := [.int 0]) (rest := [.int (nI e)]) (csC := []) (is := []) ln_Lw_66 w_st_Lw_told ok_Lw_isFedRight_Lw_told d_Lw_isFedRight_184 (C_Lw_told g 0) rfl rfl (Nat.le_of_ble_eq_true rfl) rfl (by decide) (by omega) (by omega) (fun E cs1 hx => ?_) (fun v cs1 hx => ?_)
                        · exact absurd hx.1 (by simp)
                        · obtain ⟨e1, rfl⟩ := hx
                          cases e1
                          refine ⟨rfl, ?_⟩
                          refine y_st (st2 := [.int (if (0 : Int32) = 0 then 0 else 1), .int (nI e)]) rfl ?_
                          refine y_cs (cs2 := [(q1, .inl (0, 108, .inl A1)), (q2, .inl (0, 108, .inl A2)), (q3, .inl (0, 108, .inl A3))]) rfl ?_
                          refine y_iadd d_Lw_isFedRight_187 (v := nI e) tl0n ?_
                          refine y_istore (lv' := [(5, .int (nI e)), (4, .int (nI b)), (3, .int (nI a)), (14, .int (frO f h (12 * y + x))), (13, .int 1), (12, .int 1), (11, .int k), (10, .int (nI x)), (9, .int (nI y)), (8, .ref q3), (7, .ref q2), (6, .ref q1), (2, .int 1), (1, .int h), (0, .ref (ad 0))]) d_Lw_isFedRight_188 (by decide) rfl ?_
                          refine y_iload d_Lw_isFedRight_190 6 rfl ?_
                          refine y_bipush d_Lw_isFedRight_192 (v := 114) (by decide) ?_
                          refine y_icmp_ne (tgt := 201) d_Lw_isFedRight_194 (by decide) (fun c_194 => ?_) (fun c_194 => ?_)
                          · refine y_iconst d_Lw_isFedRight_201 (v := 0) (by decide) ?_
                            refine y_istore (lv' := [(15, .int 0), (5, .int (nI e)), (4, .int (nI b)), (3, .int (nI a)), (14, .int (frO f h (12 * y + x))), (13, .int 1), (12, .int 1), (11, .int k), (10, .int (nI x)), (9, .int (nI y)), (8, .ref q3), (7, .ref q2), (6, .ref q1), (2, .int 1), (1, .int h), (0, .ref (ad 0))]) d_Lw_isFedRight_202 (by decide) rfl ?_
                            refine y_iconst d_Lw_isFedRight_204 (v := 0) (by decide) ?_
                            refine y_istore (lv' := [(16, .int 0), (15, .int 0), (5, .int (nI e)), (4, .int (nI b)), (3, .int (nI a)), (14, .int (frO f h (12 * y + x))), (13, .int 1), (12, .int 1), (11, .int k), (10, .int (nI x)), (9, .int (nI y)), (8, .ref q3), (7, .ref q2), (6, .ref q1), (2, .int 1), (1, .int h), (0, .ref (ad 0))]) d_Lw_isFedRight_205 (by decide) rfl ?_
                            refine y_lv (lv' := [(16, .int 0), (15, .int 0), (14, .int (frO f h (12 * y + x))), (13, .int 1), (12, .int 1), (11, .int k), (10, .int (nI x)), (9, .int (nI y)), (8, .ref q3), (7, .ref q2), (6, .ref q1), (5, .int (nI e)), (4, .int (nI b)), (3, .int (nI a)), (2, .int 1), (1, .int h), (0, .ref (ad 0))]) [0, 1, 5, 6, 7, 8, 9, 10, 11, 12, 13, 2, 3, 4, 14, 15, 16] rfl ?_
                            refine y_lv (lv' := [(16, .int 0), (15, .int 0), (14, .int (frO f h (12 * y + x))), (13, .int 1), (12, .int 1), (11, .int k), (10, .int (nI x)), (9, .int (nI y)), (8, .ref q3), (7, .ref q2), (6, .ref q1), (5, .int (nI e)), (4, .int (nI b)), (3, .int (nI a)), (2, .int 1), (1, .int h), (0, .ref (ad 0))]) [0, 1, 2, 3, 4, 5, 6, 7, 8, 9, 10, 11, 12, 13, 14, 15, 16] rfl ?_
                            refine y_lvE (lv2 := [(16, .int (nI 0)), (15, .int (hsv A2 A3 (frO f h (12 * y + x)) 0 (nI x) (nI y) 0)), (14, .int (frO f h (12 * y + x))), (13, .int 1), (12, .int 1), (11, .int k), (10, .int (nI x)), (9, .int (nI y)), (8, .ref q3), (7, .ref q2), (6, .ref q1), (5, .int (nI e)), (4, .int (nI b)), (3, .int (nI a)), (2, .int 1), (1, .int h), (0, .ref (ad 0))]) rfl ?_
                            refine H_side g hW hh n1 h1 n2 h2 n3 h3 e1 e2 e3 ?_ 5 0 (by decide) (by decide)
                            refine y_iload_n d_Lw_isFedRight_278 rfl 14 rfl ?_
                            refine y_if_eq (tgt := 331) d_Lw_isFedRight_279 (by decide) (fun c_279 => ?_) (fun c_279 => ?_)
                            · exact absurd c_279 (by decide)
                            · refine y_iload d_Lw_isFedRight_282 3 rfl ?_
                              refine y_if_eq (tgt := 297) d_Lw_isFedRight_284 (by decide) (fun c_284 => ?_) (fun c_284 => ?_)
                              · exact absurd c_284 (by decide)
                              · refine y_iload d_Lw_isFedRight_287 4 rfl ?_
                                refine y_if_eq (tgt := 331) d_Lw_isFedRight_289 (by decide) (fun c_289 => ?_) (fun c_289 => ?_)
                                · exact absurd c_289 (by decide)
                                · refine y_iload d_Lw_isFedRight_292 1 rfl ?_
                                  refine y_if_eq (tgt := 331) d_Lw_isFedRight_294 (by decide) (fun c_294 => ?_) (fun c_294 => ?_)
                                  · exact absurd c_294 (hs_n hx hy e2 e3 (by rw [he]; decide) (by rw [hk]; exact k4))
                                  · refine y_iload d_Lw_isFedRight_297 5 rfl ?_
                                    refine y_bipush d_Lw_isFedRight_299 (v := 114) (by decide) ?_
                                    refine y_icmp_ne (tgt := 311) d_Lw_isFedRight_301 (by decide) (fun c_301 => ?_) (fun c_301 => ?_)
                                    · refine y_iload d_Lw_isFedRight_311 2 rfl ?_
                                      refine y_iconst d_Lw_isFedRight_313 (v := 1) (by decide) ?_
                                      refine y_icmp_lt (tgt := 321) d_Lw_isFedRight_314 (by decide) (fun c_314 => ?_) (fun c_314 => ?_)
                                      · exact absurd (Int32.lt_of_le_of_lt ((frO_k hh _ (by omega)).2 hv) c_314) (by decide)
                                      · refine y_iconst d_Lw_isFedRight_317 (v := 1) (by decide) ?_
                                        refine y_goto (tgt := 322) d_Lw_isFedRight_318 (by decide) ?_
                                        refine y_iload d_Lw_isFedRight_322 4 rfl ?_
                                        refine y_icmp_ne (tgt := 331) d_Lw_isFedRight_324 (by decide) (fun c_324 => ?_) (fun c_324 => ?_)
                                        · exact absurd c_324 (by decide)
                                        · refine y_iconst d_Lw_isFedRight_327 (v := 1) (by decide) ?_
                                          refine y_goto (tgt := 332) d_Lw_isFedRight_328 (by decide) ?_
                                          refine y_istore_n (lv' := [(2, .int 1), (16, .int (nI 4)), (15, .int (hsv A2 A3 (frO f h (12 * y + x)) 0 (nI x) (nI y) 4)), (14, .int (frO f h (12 * y + x))), (13, .int 1), (12, .int 1), (11, .int k), (10, .int (nI x)), (9, .int (nI y)), (8, .ref q3), (7, .ref q2), (6, .ref q1), (5, .int (nI e)), (4, .int (nI b)), (3, .int (nI a)), (1, .int h), (0, .ref (ad 0))]) d_Lw_isFedRight_332 rfl (by decide) rfl ?_
                                          refine y_iinc (lv' := [(10, .int (nI (x + 1))), (2, .int 1), (16, .int (nI 4)), (15, .int (hsv A2 A3 (frO f h (12 * y + x)) 0 (nI x) (nI y) 4)), (14, .int (frO f h (12 * y + x))), (13, .int 1), (12, .int 1), (11, .int k), (9, .int (nI y)), (8, .ref q3), (7, .ref q2), (6, .ref q1), (5, .int (nI e)), (4, .int (nI b)), (3, .int (nI a)), (1, .int h), (0, .ref (ad 0))]) (v := nI (x + 1)) d_Lw_isFedRight_333 (j := 7) rfl (nI_add _ _) (by decide) rfl ?_
                                          refine y_goto (tgt := 50) d_Lw_isFedRight_336 (by decide) ?_
                                          refine y_lv (lv' := [(10, .int (nI (x + 1))), (9, .int (nI y)), (8, .ref q3), (7, .ref q2), (6, .ref q1), (5, .int (nI e)), (4, .int (nI b)), (3, .int (nI a)), (2, .int 1), (1, .int h), (0, .ref (ad 0))]) [0, 8, 9, 10, 11, 12, 13, 14, 1, 15, 16] rfl ?_
                                          exact y_bud (by omega) (by omega) K
                                    · exact absurd c_301 k4
                          · exact absurd c_194 k4
                      · exact absurd c_171 k9
                  · exact absurd c_146 k9
              · exact absurd c_122 k4
set_option maxHeartbeats 4000000 in
set_option maxRecDepth 100000 in
theorem F_G (g : zG) {ad : Nat → Nat} {t0 : zTT} {u : zNN} {f : Nat → Int32} {p : Nat} {w9 : zW} (hW : Wd g ad t0 u f p w9) {q1 q2 q3 : Nat} {A1 A2 A3 : Nat → Int32} {h : Int32} (hh : 1250 ≤ h ∧ h < 1450) (n1 : z_nf ad q1) (h1 : w9 q1 = some (.inl (0, 108, .inl A1))) (n2 : z_nf ad q2) (h2 : w9 q2 = some (.inl (0, 108, .inl A2))) (n3 : z_nf ad q3) (h3 : w9 q3 = some (.inl (0, 108, .inl A3))) (e1 : ∀ c, c < 108 → A1 c = fiO f c) (e2 : ∀ c, c < 108 → A2 c = fdO f h c) (e3 : ∀ c, c < 108 → A3 c = frO f h c) {x y a b e : Nat} {kc ks : Nat} (hx : x < 12) (hy : y < 9) {k : Int32} (k4 : ¬ k = 114) (k9 : ¬ k = 99) (hk : f (12 * y + x) = k) (hv : ¬ fiO f (12 * y + x) < 0) (he : fdO f h (12 * y + x) = 0) (K : DU g M_Lw_isFedRight (fun o w1 => o = .inl (some (.int 1)) ∧ Wd g ad t0 u f p w1) w9 3 50 [(10, .int (nI (x + 1))), (9, .int (nI y)), (8, .ref q3), (7, .ref q2), (6, .ref q1), (5, .int (nI e)), (4, .int (nI b)), (3, .int (nI a)), (2, .int 1), (1, .int h), (0, .ref (ad 0))] [] [(q1, .inl (0, 108, .inl A1)), (q2, .inl (0, 108, .inl A2)), (q3, .inl (0, 108, .inl A3))] (kc) (ks)) : DU g M_Lw_isFedRight (fun o w1 => o = .inl (some (.int 1)) ∧ Wd g ad t0 u f p w1) w9 3 57 [(10, .int (nI x)), (9, .int (nI y)), (8, .ref q3), (7, .ref q2), (6, .ref q1), (5, .int (nI e)), (4, .int (nI b)), (3, .int (nI a)), (2, .int 1), (1, .int h), (0, .ref (ad 0))] [] [(q1, .inl (0, 108, .inl A1)), (q2, .inl (0, 108, .inl A2)), (q3, .inl (0, 108, .inl A3))] (kc + 1) (ks + 6) := by
  refine y_aload_n d_Lw_isFedRight_57 rfl 10 rfl ?_
  refine y_iload d_Lw_isFedRight_58 0 rfl ?_
  refine y_iload d_Lw_isFedRight_60 1 rfl ?_
  refine yw_callS (As := [.ref (ad 0), .int (nI x), .int (nI y)]) (rest := []) ln_Lw_197 w_st_Lw_at ok_Lw_isFedRight_Lw_at d_Lw_isFedRight_62 (fun wA hA => T_at (hW.al hA rfl (List.forall_mem_cons.mpr ⟨⟨n1, _, _, h1⟩, (List.forall_mem_cons.mpr ⟨⟨n2, _, _, h2⟩, (List.forall_mem_cons.mpr ⟨⟨n3, _, _, h3⟩, (fun _ h => nomatch h)⟩)⟩)⟩)) hx hy) rfl rfl (Nat.le_of_ble_eq_true rfl) (by omega) (by omega) (fun wA62 hA62 E wB62 hx => ?_) (fun wA62 hA62 v wB62 hx => ?_)
  · exact absurd hx.1 (by simp)
  · obtain ⟨e1, e2⟩ := hx
    cases e1
    refine yw_st (st2 := [.int (f (12 * y + x))]) rfl ?_
    subst e2
    refine y_go hA62 ?_
    refine y_st (st2 := [.int k]) (by rw [hk]) ?_
    refine y_istore (lv' := [(11, .int k), (10, .int (nI x)), (9, .int (nI y)), (8, .ref q3), (7, .ref q2), (6, .ref q1), (5, .int (nI e)), (4, .int (nI b)), (3, .int (nI a)), (2, .int 1), (1, .int h), (0, .ref (ad 0))]) d_Lw_isFedRight_65 (by decide) rfl ?_
    refine y_aload d_Lw_isFedRight_67 5 rfl ?_
    refine y_iload d_Lw_isFedRight_69 1 rfl ?_
    refine y_iload d_Lw_isFedRight_71 2 rfl ?_
    refine y_callS (As := [.ref q1, .int (nI x), .int (nI y)]) (rest := []) (csC := [(q1, .inl (0, 108, .inl A1))]) (is := [0]) ln_Lw_205 w_st_Lw_in ok_Lw_isFedRight_Lw_in d_Lw_isFedRight_73 (C_Lw_in g q1 A1 (nI x) (nI y)) rfl rfl (Nat.le_of_ble_eq_true rfl) rfl (by decide) (by omega) (by omega) (fun E cs1 hx => ?_) (fun v cs1 hx => ?_)
    · exact absurd hx.1 (by simp)
    · obtain ⟨e1, rfl⟩ := hx
      cases e1
      refine ⟨rfl, ?_⟩
      refine y_st (st2 := [.int (inV A1 (nI x) (nI y))]) rfl ?_
      refine y_cs (cs2 := [(q1, .inl (0, 108, .inl A1)), (q2, .inl (0, 108, .inl A2)), (q3, .inl (0, 108, .inl A3))]) rfl ?_
      refine y_st (st2 := [.int (fiO f (12 * y + x))]) (by rw [inV_s (cl_in hx hy), e1 _ (by omega)]) ?_
      refine y_if_lt (tgt := 83) d_Lw_isFedRight_76 (by decide) (fun c_76 => ?_) (fun c_76 => ?_)
      · exact absurd c_76 hv
      · refine y_iconst d_Lw_isFedRight_79 (v := 1) (by decide) ?_
        refine y_goto (tgt := 84) d_Lw_isFedRight_80 (by decide) ?_
        refine y_istore (lv' := [(12, .int 1), (11, .int k), (10, .int (nI x)), (9, .int (nI y)), (8, .ref q3), (7, .ref q2), (6, .ref q1), (5, .int (nI e)), (4, .int (nI b)), (3, .int (nI a)), (2, .int 1), (1, .int h), (0, .ref (ad 0))]) d_Lw_isFedRight_84 (by decide) rfl ?_
        refine y_aload d_Lw_isFedRight_86 5 rfl ?_
        refine y_iload d_Lw_isFedRight_88 2 rfl ?_
        refine y_iload d_Lw_isFedRight_90 3 rfl ?_
        refine y_callS (As := [.ref q2, .int (nI x), .int (nI y)]) (rest := []) (csC := [(q2, .inl (0, 108, .inl A2))]) (is := [1]) ln_Lw_205 w_st_Lw_in ok_Lw_isFedRight_Lw_in d_Lw_isFedRight_92 (C_Lw_in g q2 A2 (nI x) (nI y)) rfl rfl (Nat.le_of_ble_eq_true rfl) rfl (by decide) (by omega) (by omega) (fun E cs1 hx => ?_) (fun v cs1 hx => ?_)
        · exact absurd hx.1 (by simp)
        · obtain ⟨e1, rfl⟩ := hx
          cases e1
          refine ⟨rfl, ?_⟩
          refine y_st (st2 := [.int (inV A2 (nI x) (nI y))]) rfl ?_
          refine y_cs (cs2 := [(q1, .inl (0, 108, .inl A1)), (q2, .inl (0, 108, .inl A2)), (q3, .inl (0, 108, .inl A3))]) rfl ?_
          refine y_st (st2 := [.int 0]) (by rw [inV_s (cl_in hx hy), e2 _ (by omega), he]) ?_
          refine y_iconst d_Lw_isFedRight_95 (v := 1) (by decide) ?_
          refine y_icmp_ne (tgt := 103) d_Lw_isFedRight_96 (by decide) (fun c_96 => ?_) (fun c_96 => ?_)
          · refine y_iconst d_Lw_isFedRight_103 (v := 0) (by decide) ?_
            refine y_istore (lv' := [(13, .int 0), (12, .int 1), (11, .int k), (10, .int (nI x)), (9, .int (nI y)), (8, .ref q3), (7, .ref q2), (6, .ref q1), (5, .int (nI e)), (4, .int (nI b)), (3, .int (nI a)), (2, .int 1), (1, .int h), (0, .ref (ad 0))]) d_Lw_isFedRight_104 (by decide) rfl ?_
            refine y_aload d_Lw_isFedRight_106 5 rfl ?_
            refine y_iload d_Lw_isFedRight_108 3 rfl ?_
            refine y_iload d_Lw_isFedRight_110 4 rfl ?_
            refine y_callS (As := [.ref q3, .int (nI x), .int (nI y)]) (rest := []) (csC := [(q3, .inl (0, 108, .inl A3))]) (is := [2]) ln_Lw_205 w_st_Lw_in ok_Lw_isFedRight_Lw_in d_Lw_isFedRight_112 (C_Lw_in g q3 A3 (nI x) (nI y)) rfl rfl (Nat.le_of_ble_eq_true rfl) rfl (by decide) (by omega) (by omega) (fun E cs1 hx => ?_) (fun v cs1 hx => ?_)
            · exact absurd hx.1 (by simp)
            · obtain ⟨e1, rfl⟩ := hx
              cases e1
              refine ⟨rfl, ?_⟩
              refine y_st (st2 := [.int (inV A3 (nI x) (nI y))]) rfl ?_
              refine y_cs (cs2 := [(q1, .inl (0, 108, .inl A1)), (q2, .inl (0, 108, .inl A2)), (q3, .inl (0, 108, .inl A3))]) rfl ?_
              refine y_st (st2 := [.int (frO f h (12 * y + x))]) (by rw [inV_s (cl_in hx hy), e3 _ (by omega)]) ?_
              refine y_istore (lv' := [(14, .int (frO f h (12 * y + x))), (13, .int 0), (12, .int 1), (11, .int k), (10, .int (nI x)), (9, .int (nI y)), (8, .ref q3), (7, .ref q2), (6, .ref q1), (5, .int (nI e)), (4, .int (nI b)), (3, .int (nI a)), (2, .int 1), (1, .int h), (0, .ref (ad 0))]) d_Lw_isFedRight_115 (by decide) rfl ?_
              refine y_iload_n d_Lw_isFedRight_117 rfl 11 rfl ?_
              refine y_iload d_Lw_isFedRight_118 3 rfl ?_
              refine y_bipush d_Lw_isFedRight_120 (v := 114) (by decide) ?_
              refine y_icmp_ne (tgt := 134) d_Lw_isFedRight_122 (by decide) (fun c_122 => ?_) (fun c_122 => ?_)
              · refine y_iconst d_Lw_isFedRight_134 (v := 0) (by decide) ?_
                refine y_callS (As := [.int 0]) (rest := [.int (nI a)]) (csC := []) (is := []) ln_Lw_66 w_st_Lw_told ok_Lw_isFedRight_Lw_told d_Lw_isFedRight_135 (C_Lw_told g 0) rfl rfl (Nat.le_of_ble_eq_true rfl) rfl (by decide) (by omega) (by omega) (fun E cs1 hx => ?_) (fun v cs1 hx => ?_)
                · exact absurd hx.1 (by simp)
                · obtain ⟨e1, rfl⟩ := hx
                  cases e1
                  refine ⟨rfl, ?_⟩
                  refine y_st (st2 := [.int (if (0 : Int32) = 0 then 0 else 1), .int (nI a)]) rfl ?_
                  refine y_cs (cs2 := [(q1, .inl (0, 108, .inl A1)), (q2, .inl (0, 108, .inl A2)), (q3, .inl (0, 108, .inl A3))]) rfl ?_
                  refine y_iadd d_Lw_isFedRight_138 (v := nI a) tl0n ?_
                  refine y_istore_n (lv' := [(3, .int (nI a)), (14, .int (frO f h (12 * y + x))), (13, .int 0), (12, .int 1), (11, .int k), (10, .int (nI x)), (9, .int (nI y)), (8, .ref q3), (7, .ref q2), (6, .ref q1), (5, .int (nI e)), (4, .int (nI b)), (2, .int 1), (1, .int h), (0, .ref (ad 0))]) d_Lw_isFedRight_139 rfl (by decide) rfl ?_
                  refine y_iload d_Lw_isFedRight_140 11 rfl ?_
                  refine y_iload d_Lw_isFedRight_142 4 rfl ?_
                  refine y_bipush d_Lw_isFedRight_144 (v := 99) (by decide) ?_
                  refine y_icmp_ne (tgt := 158) d_Lw_isFedRight_146 (by decide) (fun c_146 => ?_) (fun c_146 => ?_)
                  · refine y_iconst d_Lw_isFedRight_158 (v := 0) (by decide) ?_
                    refine y_callS (As := [.int 0]) (rest := [.int (nI b)]) (csC := []) (is := []) ln_Lw_66 w_st_Lw_told ok_Lw_isFedRight_Lw_told d_Lw_isFedRight_159 (C_Lw_told g 0) rfl rfl (Nat.le_of_ble_eq_true rfl) rfl (by decide) (by omega) (by omega) (fun E cs1 hx => ?_) (fun v cs1 hx => ?_)
                    · exact absurd hx.1 (by simp)
                    · obtain ⟨e1, rfl⟩ := hx
                      cases e1
                      refine ⟨rfl, ?_⟩
                      refine y_st (st2 := [.int (if (0 : Int32) = 0 then 0 else 1), .int (nI b)]) rfl ?_
                      refine y_cs (cs2 := [(q1, .inl (0, 108, .inl A1)), (q2, .inl (0, 108, .inl A2)), (q3, .inl (0, 108, .inl A3))]) rfl ?_
                      refine y_iadd d_Lw_isFedRight_162 (v := nI b) tl0n ?_
                      refine y_istore (lv' := [(4, .int (nI b)), (3, .int (nI a)), (14, .int (frO f h (12 * y + x))), (13, .int 0), (12, .int 1), (11, .int k), (10, .int (nI x)), (9, .int (nI y)), (8, .ref q3), (7, .ref q2), (6, .ref q1), (5, .int (nI e)), (2, .int 1), (1, .int h), (0, .ref (ad 0))]) d_Lw_isFedRight_163 (by decide) rfl ?_
                      refine y_iload d_Lw_isFedRight_165 11 rfl ?_
                      refine y_iload d_Lw_isFedRight_167 5 rfl ?_
                      refine y_bipush d_Lw_isFedRight_169 (v := 99) (by decide) ?_
                      refine y_icmp_ne (tgt := 183) d_Lw_isFedRight_171 (by decide) (fun c_171 => ?_) (fun c_171 => ?_)
                      · refine y_iconst d_Lw_isFedRight_183 (v := 0) (by decide) ?_
                        refine y_callS (As := [.int 0]) (rest := [.int (nI e)]) (csC := []) (is := []) ln_Lw_66 w_st_Lw_told ok_Lw_isFedRight_Lw_told d_Lw_isFedRight_184 (C_Lw_told g 0) rfl rfl (Nat.le_of_ble_eq_true rfl) rfl (by decide) (by omega) (by omega) (fun E cs1 hx => ?_) (fun v cs1 hx => ?_)
                        · exact absurd hx.1 (by simp)
                        · obtain ⟨e1, rfl⟩ := hx
                          cases e1
                          refine ⟨rfl, ?_⟩
                          refine y_st (st2 := [.int (if (0 : Int32) = 0 then 0 else 1), .int (nI e)]) rfl ?_
                          refine y_cs (cs2 := [(q1, .inl (0, 108, .inl A1)), (q2, .inl (0, 108, .inl A2)), (q3, .inl (0, 108, .inl A3))]) rfl ?_
                          refine y_iadd d_Lw_isFedRight_187 (v := nI e) tl0n ?_
                          refine y_istore (lv' := [(5, .int (nI e)), (4, .int (nI b)), (3, .int (nI a)), (14, .int (frO f h (12 * y + x))), (13, .int 0), (12, .int 1), (11, .int k), (10, .int (nI x)), (9, .int (nI y)), (8, .ref q3), (7, .ref q2), (6, .ref q1), (2, .int 1), (1, .int h), (0, .ref (ad 0))]) d_Lw_isFedRight_188 (by decide) rfl ?_
                          refine y_iload d_Lw_isFedRight_190 6 rfl ?_
                          refine y_bipush d_Lw_isFedRight_192 (v := 114) (by decide) ?_
                          refine y_icmp_ne (tgt := 201) d_Lw_isFedRight_194 (by decide) (fun c_194 => ?_) (fun c_194 => ?_)
                          · refine y_iconst d_Lw_isFedRight_201 (v := 0) (by decide) ?_
                            refine y_istore (lv' := [(15, .int 0), (5, .int (nI e)), (4, .int (nI b)), (3, .int (nI a)), (14, .int (frO f h (12 * y + x))), (13, .int 0), (12, .int 1), (11, .int k), (10, .int (nI x)), (9, .int (nI y)), (8, .ref q3), (7, .ref q2), (6, .ref q1), (2, .int 1), (1, .int h), (0, .ref (ad 0))]) d_Lw_isFedRight_202 (by decide) rfl ?_
                            refine y_iconst d_Lw_isFedRight_204 (v := 0) (by decide) ?_
                            refine y_istore (lv' := [(16, .int 0), (15, .int 0), (5, .int (nI e)), (4, .int (nI b)), (3, .int (nI a)), (14, .int (frO f h (12 * y + x))), (13, .int 0), (12, .int 1), (11, .int k), (10, .int (nI x)), (9, .int (nI y)), (8, .ref q3), (7, .ref q2), (6, .ref q1), (2, .int 1), (1, .int h), (0, .ref (ad 0))]) d_Lw_isFedRight_205 (by decide) rfl ?_
                            refine y_lv (lv' := [(16, .int 0), (15, .int 0), (14, .int (frO f h (12 * y + x))), (13, .int 0), (12, .int 1), (11, .int k), (10, .int (nI x)), (9, .int (nI y)), (8, .ref q3), (7, .ref q2), (6, .ref q1), (5, .int (nI e)), (4, .int (nI b)), (3, .int (nI a)), (2, .int 1), (1, .int h), (0, .ref (ad 0))]) [0, 1, 5, 6, 7, 8, 9, 10, 11, 12, 13, 2, 3, 4, 14, 15, 16] rfl ?_
                            refine y_lv (lv' := [(16, .int 0), (15, .int 0), (14, .int (frO f h (12 * y + x))), (13, .int 0), (12, .int 1), (11, .int k), (10, .int (nI x)), (9, .int (nI y)), (8, .ref q3), (7, .ref q2), (6, .ref q1), (5, .int (nI e)), (4, .int (nI b)), (3, .int (nI a)), (2, .int 1), (1, .int h), (0, .ref (ad 0))]) [0, 1, 2, 3, 4, 5, 6, 7, 8, 9, 10, 11, 12, 13, 14, 15, 16] rfl ?_
                            refine y_lvE (lv2 := [(16, .int (nI 0)), (15, .int (hsv A2 A3 (frO f h (12 * y + x)) 0 (nI x) (nI y) 0)), (14, .int (frO f h (12 * y + x))), (13, .int 0), (12, .int 1), (11, .int k), (10, .int (nI x)), (9, .int (nI y)), (8, .ref q3), (7, .ref q2), (6, .ref q1), (5, .int (nI e)), (4, .int (nI b)), (3, .int (nI a)), (2, .int 1), (1, .int h), (0, .ref (ad 0))]) rfl ?_
                            refine H_side g hW hh n1 h1 n2 h2 n3 h3 e1 e2 e3 ?_ 5 0 (by decide) (by decide)
                            refine y_iload_n d_Lw_isFedRight_278 rfl 14 rfl ?_
                            refine y_if_eq (tgt := 331) d_Lw_isFedRight_279 (by decide) (fun c_279 => ?_) (fun c_279 => ?_)
                            · exact absurd c_279 (by decide)
                            · refine y_iload d_Lw_isFedRight_282 3 rfl ?_
                              refine y_if_eq (tgt := 297) d_Lw_isFedRight_284 (by decide) (fun c_284 => ?_) (fun c_284 => ?_)
                              · refine y_iload d_Lw_isFedRight_297 5 rfl ?_
                                refine y_bipush d_Lw_isFedRight_299 (v := 114) (by decide) ?_
                                refine y_icmp_ne (tgt := 311) d_Lw_isFedRight_301 (by decide) (fun c_301 => ?_) (fun c_301 => ?_)
                                · refine y_iload d_Lw_isFedRight_311 2 rfl ?_
                                  refine y_iconst d_Lw_isFedRight_313 (v := 1) (by decide) ?_
                                  refine y_icmp_lt (tgt := 321) d_Lw_isFedRight_314 (by decide) (fun c_314 => ?_) (fun c_314 => ?_)
                                  · exact absurd (Int32.lt_of_le_of_lt ((frO_k hh _ (by omega)).2 hv) c_314) (by decide)
                                  · refine y_iconst d_Lw_isFedRight_317 (v := 1) (by decide) ?_
                                    refine y_goto (tgt := 322) d_Lw_isFedRight_318 (by decide) ?_
                                    refine y_iload d_Lw_isFedRight_322 4 rfl ?_
                                    refine y_icmp_ne (tgt := 331) d_Lw_isFedRight_324 (by decide) (fun c_324 => ?_) (fun c_324 => ?_)
                                    · exact absurd c_324 (by decide)
                                    · refine y_iconst d_Lw_isFedRight_327 (v := 1) (by decide) ?_
                                      refine y_goto (tgt := 332) d_Lw_isFedRight_328 (by decide) ?_
                                      refine y_istore_n (lv' := [(2, .int 1), (16, .int (nI 4)), (15, .int (hsv A2 A3 (frO f h (12 * y + x)) 0 (nI x) (nI y) 4)), (14, .int (frO f h (12 * y + x))), (13, .int 0), (12, .int 1), (11, .int k), (10, .int (nI x)), (9, .int (nI y)), (8, .ref q3), (7, .ref q2), (6, .ref q1), (5, .int (nI e)), (4, .int (nI b)), (3, .int (nI a)), (1, .int h), (0, .ref (ad 0))]) d_Lw_isFedRight_332 rfl (by decide) rfl ?_
                                      refine y_iinc (lv' := [(10, .int (nI (x + 1))), (2, .int 1), (16, .int (nI 4)), (15, .int (hsv A2 A3 (frO f h (12 * y + x)) 0 (nI x) (nI y) 4)), (14, .int (frO f h (12 * y + x))), (13, .int 0), (12, .int 1), (11, .int k), (9, .int (nI y)), (8, .ref q3), (7, .ref q2), (6, .ref q1), (5, .int (nI e)), (4, .int (nI b)), (3, .int (nI a)), (1, .int h), (0, .ref (ad 0))]) (v := nI (x + 1)) d_Lw_isFedRight_333 (j := 7) rfl (nI_add _ _) (by decide) rfl ?_
                                      refine y_goto (tgt := 50) d_Lw_isFedRight_336 (by decide) ?_
                                      refine y_lv (lv' := [(10, .int (nI (x + 1))), (9, .int (nI y)), (8, .ref q3), (7, .ref q2), (6, .ref q1), (5, .int (nI e)), (4, .int (nI b)), (3, .int (nI a)), (2, .int 1), (1, .int h), (0, .ref (ad 0))]) [0, 8, 9, 10, 11, 12, 13, 14, 1, 15, 16] rfl ?_
                                      exact y_bud (by omega) (by omega) K
                                · exact absurd c_301 k4
                              · exact absurd c_284 (by decide)
                          · exact absurd c_194 k4
                      · exact absurd c_171 k9
                  · exact absurd c_146 k9
              · exact absurd c_122 k4
          · exact absurd c_96 (by decide)
set_option maxHeartbeats 4000000 in
set_option maxRecDepth 100000 in
theorem F_H (g : zG) {ad : Nat → Nat} {t0 : zTT} {u : zNN} {f : Nat → Int32} {p : Nat} {w9 : zW} (hW : Wd g ad t0 u f p w9) {q1 q2 q3 : Nat} {A1 A2 A3 : Nat → Int32} {h : Int32} (hh : 1250 ≤ h ∧ h < 1450) (n1 : z_nf ad q1) (h1 : w9 q1 = some (.inl (0, 108, .inl A1))) (n2 : z_nf ad q2) (h2 : w9 q2 = some (.inl (0, 108, .inl A2))) (n3 : z_nf ad q3) (h3 : w9 q3 = some (.inl (0, 108, .inl A3))) (e1 : ∀ c, c < 108 → A1 c = fiO f c) (e2 : ∀ c, c < 108 → A2 c = fdO f h c) (e3 : ∀ c, c < 108 → A3 c = frO f h c) {x y a b e : Nat} {kc ks : Nat} (hx : x < 12) (hy : y < 9) {k : Int32} (k4 : ¬ k = 114) (k9 : ¬ k = 99) (hk : f (12 * y + x) = k) (hv : fiO f (12 * y + x) < 0) (he : fdO f h (12 * y + x) = 0) (K : DU g M_Lw_isFedRight (fun o w1 => o = .inl (some (.int 1)) ∧ Wd g ad t0 u f p w1) w9 3 50 [(10, .int (nI (x + 1))), (9, .int (nI y)), (8, .ref q3), (7, .ref q2), (6, .ref q1), (5, .int (nI e)), (4, .int (nI b)), (3, .int (nI a)), (2, .int 1), (1, .int h), (0, .ref (ad 0))] [] [(q1, .inl (0, 108, .inl A1)), (q2, .inl (0, 108, .inl A2)), (q3, .inl (0, 108, .inl A3))] (kc) (ks)) : DU g M_Lw_isFedRight (fun o w1 => o = .inl (some (.int 1)) ∧ Wd g ad t0 u f p w1) w9 3 57 [(10, .int (nI x)), (9, .int (nI y)), (8, .ref q3), (7, .ref q2), (6, .ref q1), (5, .int (nI e)), (4, .int (nI b)), (3, .int (nI a)), (2, .int 1), (1, .int h), (0, .ref (ad 0))] [] [(q1, .inl (0, 108, .inl A1)), (q2, .inl (0, 108, .inl A2)), (q3, .inl (0, 108, .inl A3))] (kc + 1) (ks + 6) := by
  refine y_aload_n d_Lw_isFedRight_57 rfl 10 rfl ?_
  refine y_iload d_Lw_isFedRight_58 0 rfl ?_
  refine y_iload d_Lw_isFedRight_60 1 rfl ?_
  refine yw_callS (As := [.ref (ad 0), .int (nI x), .int (nI y)]) (rest := []) ln_Lw_197 w_st_Lw_at ok_Lw_isFedRight_Lw_at d_Lw_isFedRight_62 (fun wA hA => T_at (hW.al hA rfl (List.forall_mem_cons.mpr ⟨⟨n1, _, _, h1⟩, (List.forall_mem_cons.mpr ⟨⟨n2, _, _, h2⟩, (List.forall_mem_cons.mpr ⟨⟨n3, _, _, h3⟩, (fun _ h => nomatch h)⟩)⟩)⟩)) hx hy) rfl rfl (Nat.le_of_ble_eq_true rfl) (by omega) (by omega) (fun wA62 hA62 E wB62 hx => ?_) (fun wA62 hA62 v wB62 hx => ?_)
  · exact absurd hx.1 (by simp)
  · obtain ⟨e1, e2⟩ := hx
    cases e1
    refine yw_st (st2 := [.int (f (12 * y + x))]) rfl ?_
    subst e2
    refine y_go hA62 ?_
    refine y_st (st2 := [.int k]) (by rw [hk]) ?_
    refine y_istore (lv' := [(11, .int k), (10, .int (nI x)), (9, .int (nI y)), (8, .ref q3), (7, .ref q2), (6, .ref q1), (5, .int (nI e)), (4, .int (nI b)), (3, .int (nI a)), (2, .int 1), (1, .int h), (0, .ref (ad 0))]) d_Lw_isFedRight_65 (by decide) rfl ?_
    refine y_aload d_Lw_isFedRight_67 5 rfl ?_
    refine y_iload d_Lw_isFedRight_69 1 rfl ?_
    refine y_iload d_Lw_isFedRight_71 2 rfl ?_
    refine y_callS (As := [.ref q1, .int (nI x), .int (nI y)]) (rest := []) (csC := [(q1, .inl (0, 108, .inl A1))]) (is := [0]) ln_Lw_205 w_st_Lw_in ok_Lw_isFedRight_Lw_in d_Lw_isFedRight_73 (C_Lw_in g q1 A1 (nI x) (nI y)) rfl rfl (Nat.le_of_ble_eq_true rfl) rfl (by decide) (by omega) (by omega) (fun E cs1 hx => ?_) (fun v cs1 hx => ?_)
    · exact absurd hx.1 (by simp)
    · obtain ⟨e1, rfl⟩ := hx
      cases e1
      refine ⟨rfl, ?_⟩
      refine y_st (st2 := [.int (inV A1 (nI x) (nI y))]) rfl ?_
      refine y_cs (cs2 := [(q1, .inl (0, 108, .inl A1)), (q2, .inl (0, 108, .inl A2)), (q3, .inl (0, 108, .inl A3))]) rfl ?_
      refine y_st (st2 := [.int (fiO f (12 * y + x))]) (by rw [inV_s (cl_in hx hy), e1 _ (by omega)]) ?_
      refine y_if_lt (tgt := 83) d_Lw_isFedRight_76 (by decide) (fun c_76 => ?_) (fun c_76 => ?_)
      · refine y_iconst d_Lw_isFedRight_83 (v := 0) (by decide) ?_
        refine y_istore (lv' := [(12, .int 0), (11, .int k), (10, .int (nI x)), (9, .int (nI y)), (8, .ref q3), (7, .ref q2), (6, .ref q1), (5, .int (nI e)), (4, .int (nI b)), (3, .int (nI a)), (2, .int 1), (1, .int h), (0, .ref (ad 0))]) d_Lw_isFedRight_84 (by decide) rfl ?_
        refine y_aload d_Lw_isFedRight_86 5 rfl ?_
        refine y_iload d_Lw_isFedRight_88 2 rfl ?_
        refine y_iload d_Lw_isFedRight_90 3 rfl ?_
        refine y_callS (As := [.ref q2, .int (nI x), .int (nI y)]) (rest := []) (csC := [(q2, .inl (0, 108, .inl A2))]) (is := [1]) ln_Lw_205 w_st_Lw_in ok_Lw_isFedRight_Lw_in d_Lw_isFedRight_92 (C_Lw_in g q2 A2 (nI x) (nI y)) rfl rfl (Nat.le_of_ble_eq_true rfl) rfl (by decide) (by omega) (by omega) (fun E cs1 hx => ?_) (fun v cs1 hx => ?_)
        · exact absurd hx.1 (by simp)
        · obtain ⟨e1, rfl⟩ := hx
          cases e1
          refine ⟨rfl, ?_⟩
          refine y_st (st2 := [.int (inV A2 (nI x) (nI y))]) rfl ?_
          refine y_cs (cs2 := [(q1, .inl (0, 108, .inl A1)), (q2, .inl (0, 108, .inl A2)), (q3, .inl (0, 108, .inl A3))]) rfl ?_
          refine y_st (st2 := [.int 0]) (by rw [inV_s (cl_in hx hy), e2 _ (by omega), he]) ?_
          refine y_iconst d_Lw_isFedRight_95 (v := 1) (by decide) ?_
          refine y_icmp_ne (tgt := 103) d_Lw_isFedRight_96 (by decide) (fun c_96 => ?_) (fun c_96 => ?_)
          · refine y_iconst d_Lw_isFedRight_103 (v := 0) (by decide) ?_
            refine y_istore (lv' := [(13, .int 0), (12, .int 0), (11, .int k), (10, .int (nI x)), (9, .int (nI y)), (8, .ref q3), (7, .ref q2), (6, .ref q1), (5, .int (nI e)), (4, .int (nI b)), (3, .int (nI a)), (2, .int 1), (1, .int h), (0, .ref (ad 0))]) d_Lw_isFedRight_104 (by decide) rfl ?_
            refine y_aload d_Lw_isFedRight_106 5 rfl ?_
            refine y_iload d_Lw_isFedRight_108 3 rfl ?_
            refine y_iload d_Lw_isFedRight_110 4 rfl ?_
            refine y_callS (As := [.ref q3, .int (nI x), .int (nI y)]) (rest := []) (csC := [(q3, .inl (0, 108, .inl A3))]) (is := [2]) ln_Lw_205 w_st_Lw_in ok_Lw_isFedRight_Lw_in d_Lw_isFedRight_112 (C_Lw_in g q3 A3 (nI x) (nI y)) rfl rfl (Nat.le_of_ble_eq_true rfl) rfl (by decide) (by omega) (by omega) (fun E cs1 hx => ?_) (fun v cs1 hx => ?_)
            · exact absurd hx.1 (by simp)
            · obtain ⟨e1, rfl⟩ := hx
              cases e1
              refine ⟨rfl, ?_⟩
              refine y_st (st2 := [.int (inV A3 (nI x) (nI y))]) rfl ?_
              refine y_cs (cs2 := [(q1, .inl (0, 108, .inl A1)), (q2, .inl (0, 108, .inl A2)), (q3, .inl (0, 108, .inl A3))]) rfl ?_
              refine y_st (st2 := [.int ((-1))]) (by rw [inV_s (cl_in hx hy), e3 _ (by omega), (frO_k hh _ (by omega)).1 hv]) ?_
              refine y_istore (lv' := [(14, .int (-1)), (13, .int 0), (12, .int 0), (11, .int k), (10, .int (nI x)), (9, .int (nI y)), (8, .ref q3), (7, .ref q2), (6, .ref q1), (5, .int (nI e)), (4, .int (nI b)), (3, .int (nI a)), (2, .int 1), (1, .int h), (0, .ref (ad 0))]) d_Lw_isFedRight_115 (by decide) rfl ?_
              refine y_iload_n d_Lw_isFedRight_117 rfl 11 rfl ?_
              refine y_iload d_Lw_isFedRight_118 3 rfl ?_
              refine y_bipush d_Lw_isFedRight_120 (v := 114) (by decide) ?_
              refine y_icmp_ne (tgt := 134) d_Lw_isFedRight_122 (by decide) (fun c_122 => ?_) (fun c_122 => ?_)
              · refine y_iconst d_Lw_isFedRight_134 (v := 0) (by decide) ?_
                refine y_callS (As := [.int 0]) (rest := [.int (nI a)]) (csC := []) (is := []) ln_Lw_66 w_st_Lw_told ok_Lw_isFedRight_Lw_told d_Lw_isFedRight_135 (C_Lw_told g 0) rfl rfl (Nat.le_of_ble_eq_true rfl) rfl (by decide) (by omega) (by omega) (fun E cs1 hx => ?_) (fun v cs1 hx => ?_)
                · exact absurd hx.1 (by simp)
                · obtain ⟨e1, rfl⟩ := hx
                  cases e1
                  refine ⟨rfl, ?_⟩
                  refine y_st (st2 := [.int (if (0 : Int32) = 0 then 0 else 1), .int (nI a)]) rfl ?_
                  refine y_cs (cs2 := [(q1, .inl (0, 108, .inl A1)), (q2, .inl (0, 108, .inl A2)), (q3, .inl (0, 108, .inl A3))]) rfl ?_
                  refine y_iadd d_Lw_isFedRight_138 (v := nI a) tl0n ?_
                  refine y_istore_n (lv' := [(3, .int (nI a)), (14, .int (-1)), (13, .int 0), (12, .int 0), (11, .int k), (10, .int (nI x)), (9, .int (nI y)), (8, .ref q3), (7, .ref q2), (6, .ref q1), (5, .int (nI e)), (4, .int (nI b)), (2, .int 1), (1, .int h), (0, .ref (ad 0))]) d_Lw_isFedRight_139 rfl (by decide) rfl ?_
                  refine y_iload d_Lw_isFedRight_140 11 rfl ?_
                  refine y_iload d_Lw_isFedRight_142 4 rfl ?_
                  refine y_bipush d_Lw_isFedRight_144 (v := 99) (by decide) ?_
                  refine y_icmp_ne (tgt := 158) d_Lw_isFedRight_146 (by decide) (fun c_146 => ?_) (fun c_146 => ?_)
                  · refine y_iconst d_Lw_isFedRight_158 (v := 0) (by decide) ?_
                    refine y_callS (As := [.int 0]) (rest := [.int (nI b)]) (csC := []) (is := []) ln_Lw_66 w_st_Lw_told ok_Lw_isFedRight_Lw_told d_Lw_isFedRight_159 (C_Lw_told g 0) rfl rfl (Nat.le_of_ble_eq_true rfl) rfl (by decide) (by omega) (by omega) (fun E cs1 hx => ?_) (fun v cs1 hx => ?_)
                    · exact absurd hx.1 (by simp)
                    · obtain ⟨e1, rfl⟩ := hx
                      cases e1
                      refine ⟨rfl, ?_⟩
                      refine y_st (st2 := [.int (if (0 : Int32) = 0 then 0 else 1), .int (nI b)]) rfl ?_
                      refine y_cs (cs2 := [(q1, .inl (0, 108, .inl A1)), (q2, .inl (0, 108, .inl A2)), (q3, .inl (0, 108, .inl A3))]) rfl ?_
                      refine y_iadd d_Lw_isFedRight_162 (v := nI b) tl0n ?_
                      refine y_istore (lv' := [(4, .int (nI b)), (3, .int (nI a)), (14, .int (-1)), (13, .int 0), (12, .int 0), (11, .int k), (10, .int (nI x)), (9, .int (nI y)), (8, .ref q3), (7, .ref q2), (6, .ref q1), (5, .int (nI e)), (2, .int 1), (1, .int h), (0, .ref (ad 0))]) d_Lw_isFedRight_163 (by decide) rfl ?_
                      refine y_iload d_Lw_isFedRight_165 11 rfl ?_
                      refine y_iload d_Lw_isFedRight_167 5 rfl ?_
                      refine y_bipush d_Lw_isFedRight_169 (v := 99) (by decide) ?_
                      refine y_icmp_ne (tgt := 183) d_Lw_isFedRight_171 (by decide) (fun c_171 => ?_) (fun c_171 => ?_)
                      · refine y_iconst d_Lw_isFedRight_183 (v := 0) (by decide) ?_
                        refine y_callS (As := [.int 0]) (rest := [.int (nI e)]) (csC := []) (is := []) ln_Lw_66 w_st_Lw_told ok_Lw_isFedRight_Lw_told d_Lw_isFedRight_184 (C_Lw_told g 0) rfl rfl (Nat.le_of_ble_eq_true rfl) rfl (by decide) (by omega) (by omega) (fun E cs1 hx => ?_) (fun v cs1 hx => ?_)
                        · exact absurd hx.1 (by simp)
                        · obtain ⟨e1, rfl⟩ := hx
                          cases e1
                          refine ⟨rfl, ?_⟩
                          refine y_st (st2 := [.int (if (0 : Int32) = 0 then 0 else 1), .int (nI e)]) rfl ?_
                          refine y_cs (cs2 := [(q1, .inl (0, 108, .inl A1)), (q2, .inl (0, 108, .inl A2)), (q3, .inl (0, 108, .inl A3))]) rfl ?_
                          refine y_iadd d_Lw_isFedRight_187 (v := nI e) tl0n ?_
                          refine y_istore (lv' := [(5, .int (nI e)), (4, .int (nI b)), (3, .int (nI a)), (14, .int (-1)), (13, .int 0), (12, .int 0), (11, .int k), (10, .int (nI x)), (9, .int (nI y)), (8, .ref q3), (7, .ref q2), (6, .ref q1), (2, .int 1), (1, .int h), (0, .ref (ad 0))]) d_Lw_isFedRight_188 (by decide) rfl ?_
                          refine y_iload d_Lw_isFedRight_190 6 rfl ?_
                          refine y_bipush d_Lw_isFedRight_192 (v := 114) (by decide) ?_
                          refine y_icmp_ne (tgt := 201) d_Lw_isFedRight_194 (by decide) (fun c_194 => ?_) (fun c_194 => ?_)
                          · refine y_iconst d_Lw_isFedRight_201 (v := 0) (by decide) ?_
                            refine y_istore (lv' := [(15, .int 0), (5, .int (nI e)), (4, .int (nI b)), (3, .int (nI a)), (14, .int (-1)), (13, .int 0), (12, .int 0), (11, .int k), (10, .int (nI x)), (9, .int (nI y)), (8, .ref q3), (7, .ref q2), (6, .ref q1), (2, .int 1), (1, .int h), (0, .ref (ad 0))]) d_Lw_isFedRight_202 (by decide) rfl ?_
                            refine y_iconst d_Lw_isFedRight_204 (v := 0) (by decide) ?_
                            refine y_istore (lv' := [(16, .int 0), (15, .int 0), (5, .int (nI e)), (4, .int (nI b)), (3, .int (nI a)), (14, .int (-1)), (13, .int 0), (12, .int 0), (11, .int k), (10, .int (nI x)), (9, .int (nI y)), (8, .ref q3), (7, .ref q2), (6, .ref q1), (2, .int 1), (1, .int h), (0, .ref (ad 0))]) d_Lw_isFedRight_205 (by decide) rfl ?_
                            refine y_lv (lv' := [(16, .int 0), (15, .int 0), (14, .int (-1)), (13, .int 0), (12, .int 0), (11, .int k), (10, .int (nI x)), (9, .int (nI y)), (8, .ref q3), (7, .ref q2), (6, .ref q1), (5, .int (nI e)), (4, .int (nI b)), (3, .int (nI a)), (2, .int 1), (1, .int h), (0, .ref (ad 0))]) [0, 1, 5, 6, 7, 8, 9, 10, 11, 12, 13, 2, 3, 4, 14, 15, 16] rfl ?_
                            refine y_lv (lv' := [(16, .int 0), (15, .int 0), (14, .int (-1)), (13, .int 0), (12, .int 0), (11, .int k), (10, .int (nI x)), (9, .int (nI y)), (8, .ref q3), (7, .ref q2), (6, .ref q1), (5, .int (nI e)), (4, .int (nI b)), (3, .int (nI a)), (2, .int 1), (1, .int h), (0, .ref (ad 0))]) [0, 1, 2, 3, 4, 5, 6, 7, 8, 9, 10, 11, 12, 13, 14, 15, 16] rfl ?_
                            refine y_lvE (lv2 := [(16, .int (nI 0)), (15, .int (hsv A2 A3 (-1) 0 (nI x) (nI y) 0)), (14, .int (-1)), (13, .int 0), (12, .int 0), (11, .int k), (10, .int (nI x)), (9, .int (nI y)), (8, .ref q3), (7, .ref q2), (6, .ref q1), (5, .int (nI e)), (4, .int (nI b)), (3, .int (nI a)), (2, .int 1), (1, .int h), (0, .ref (ad 0))]) rfl ?_
                            refine H_side g hW hh n1 h1 n2 h2 n3 h3 e1 e2 e3 ?_ 5 0 (by decide) (by decide)
                            refine y_iload_n d_Lw_isFedRight_278 rfl 14 rfl ?_
                            refine y_if_eq (tgt := 331) d_Lw_isFedRight_279 (by decide) (fun c_279 => ?_) (fun c_279 => ?_)
                            · exact absurd c_279 (by decide)
                            · refine y_iload d_Lw_isFedRight_282 3 rfl ?_
                              refine y_if_eq (tgt := 297) d_Lw_isFedRight_284 (by decide) (fun c_284 => ?_) (fun c_284 => ?_)
                              · refine y_iload d_Lw_isFedRight_297 5 rfl ?_
                                refine y_bipush d_Lw_isFedRight_299 (v := 114) (by decide) ?_
                                refine y_icmp_ne (tgt := 311) d_Lw_isFedRight_301 (by decide) (fun c_301 => ?_) (fun c_301 => ?_)
                                · refine y_iload d_Lw_isFedRight_311 2 rfl ?_
                                  refine y_iconst d_Lw_isFedRight_313 (v := 1) (by decide) ?_
                                  refine y_icmp_lt (tgt := 321) d_Lw_isFedRight_314 (by decide) (fun c_314 => ?_) (fun c_314 => ?_)
                                  · refine y_iconst d_Lw_isFedRight_321 (v := 0) (by decide) ?_
                                    refine y_iload d_Lw_isFedRight_322 4 rfl ?_
                                    refine y_icmp_ne (tgt := 331) d_Lw_isFedRight_324 (by decide) (fun c_324 => ?_) (fun c_324 => ?_)
                                    · exact absurd c_324 (by decide)
                                    · refine y_iconst d_Lw_isFedRight_327 (v := 1) (by decide) ?_
                                      refine y_goto (tgt := 332) d_Lw_isFedRight_328 (by decide) ?_
                                      refine y_istore_n (lv' := [(2, .int 1), (16, .int (nI 4)), (15, .int (hsv A2 A3 (-1) 0 (nI x) (nI y) 4)), (14, .int (-1)), (13, .int 0), (12, .int 0), (11, .int k), (10, .int (nI x)), (9, .int (nI y)), (8, .ref q3), (7, .ref q2), (6, .ref q1), (5, .int (nI e)), (4, .int (nI b)), (3, .int (nI a)), (1, .int h), (0, .ref (ad 0))]) d_Lw_isFedRight_332 rfl (by decide) rfl ?_
                                      refine y_iinc (lv' := [(10, .int (nI (x + 1))), (2, .int 1), (16, .int (nI 4)), (15, .int (hsv A2 A3 (-1) 0 (nI x) (nI y) 4)), (14, .int (-1)), (13, .int 0), (12, .int 0), (11, .int k), (9, .int (nI y)), (8, .ref q3), (7, .ref q2), (6, .ref q1), (5, .int (nI e)), (4, .int (nI b)), (3, .int (nI a)), (1, .int h), (0, .ref (ad 0))]) (v := nI (x + 1)) d_Lw_isFedRight_333 (j := 7) rfl (nI_add _ _) (by decide) rfl ?_
                                      refine y_goto (tgt := 50) d_Lw_isFedRight_336 (by decide) ?_
                                      refine y_lv (lv' := [(10, .int (nI (x + 1))), (9, .int (nI y)), (8, .ref q3), (7, .ref q2), (6, .ref q1), (5, .int (nI e)), (4, .int (nI b)), (3, .int (nI a)), (2, .int 1), (1, .int h), (0, .ref (ad 0))]) [0, 8, 9, 10, 11, 12, 13, 14, 1, 15, 16] rfl ?_
                                      exact y_bud (by omega) (by omega) K
                                  · exact absurd c_314 (by decide)
                                · exact absurd c_301 k4
                              · exact absurd c_284 (by decide)
                          · exact absurd c_194 k4
                      · exact absurd c_171 k9
                  · exact absurd c_146 k9
              · exact absurd c_122 k4
          · exact absurd c_96 (by decide)
      · exact absurd hv c_76
theorem d_Lw_isFedRight_50 : decode method_19_code 50 = .ok (.iload 10, 2) := zo_21 (d := 10) (zd_b zq_method_19_code_1 18 rfl rfl rfl) (zd_b zq_method_19_code_1 19 rfl rfl rfl)
theorem d_Lw_isFedRight_52 : decode method_19_code 52 = .ok (.bipush 12, 2) := zo_16 (d := 12) (zd_b zq_method_19_code_1 20 rfl rfl rfl) (zd_b zq_method_19_code_1 21 rfl rfl rfl) (by decide +kernel)
theorem d_Lw_isFedRight_54 : decode method_19_code 54 = .ok (.if_icmp .ge 285, 3) := zo_162 (d := 1) (e := 29) (zd_b zq_method_19_code_1 22 rfl rfl rfl) (zd_b zq_method_19_code_1 23 rfl rfl rfl) (zd_b zq_method_19_code_1 24 rfl rfl rfl) (by decide +kernel)
theorem d_Lw_isFedRight_339 : decode method_19_code 339 = .ok (.iinc 9 1, 3) := by decide +kernel
theorem d_Lw_isFedRight_342 : decode method_19_code 342 = .ok (.goto (-302), 3) := zo_167 (d := 254) (e := 210) (zd_b zq_method_19_code_10 22 rfl rfl rfl) (zd_b zq_method_19_code_10 23 rfl rfl rfl) (zd_b zq_method_19_code_10 24 rfl rfl rfl) (by decide +kernel)
theorem d_Lw_isFedRight_40 : decode method_19_code 40 = .ok (.iload 9, 2) := zo_21 (d := 9) (zd_b zq_method_19_code_1 8 rfl rfl rfl) (zd_b zq_method_19_code_1 9 rfl rfl rfl)
theorem d_Lw_isFedRight_42 : decode method_19_code 42 = .ok (.bipush 9, 2) := zo_16 (d := 9) (zd_b zq_method_19_code_1 10 rfl rfl rfl) (zd_b zq_method_19_code_1 11 rfl rfl rfl) (by decide +kernel)
theorem d_Lw_isFedRight_44 : decode method_19_code 44 = .ok (.if_icmp .ge 301, 3) := zo_162 (d := 1) (e := 45) (zd_b zq_method_19_code_1 12 rfl rfl rfl) (zd_b zq_method_19_code_1 13 rfl rfl rfl) (zd_b zq_method_19_code_1 14 rfl rfl rfl) (by decide +kernel)
theorem d_Lw_isFedRight_47 : decode method_19_code 47 = .ok (.iconst 0, 1) := zo_3 (zd_b zq_method_19_code_1 15 rfl rfl rfl)
theorem d_Lw_isFedRight_48 : decode method_19_code 48 = .ok (.istore 10, 2) := zo_54 (d := 10) (zd_b zq_method_19_code_1 16 rfl rfl rfl) (zd_b zq_method_19_code_1 17 rfl rfl rfl)
set_option maxHeartbeats 4000000 in
set_option maxRecDepth 100000 in
theorem F_cells (g : zG) {ad : Nat → Nat} {t0 : zTT} {u : zNN} {f : Nat → Int32} {p : Nat} {w9 : zW} (hW : Wd g ad t0 u f p w9) {q1 q2 q3 : Nat} {A1 A2 A3 : Nat → Int32} {h : Int32} (hh : 1250 ≤ h ∧ h < 1450) (n1 : z_nf ad q1) (h1 : w9 q1 = some (.inl (0, 108, .inl A1))) (n2 : z_nf ad q2) (h2 : w9 q2 = some (.inl (0, 108, .inl A2))) (n3 : z_nf ad q3) (h3 : w9 q3 = some (.inl (0, 108, .inl A3))) (e1 : ∀ c, c < 108 → A1 c = fiO f c) (e2 : ∀ c, c < 108 → A2 c = fdO f h c) (e3 : ∀ c, c < 108 → A3 c = frO f h c) (K : DU g M_Lw_isFedRight (fun o w1 => o = .inl (some (.int 1)) ∧ Wd g ad t0 u f p w1) w9 3 345 [(8, .ref q3), (7, .ref q2), (6, .ref q1), (5, .int (nI (cF f (fiO f) 108))), (4, .int (nI (cC f (fdO f h) 108))), (3, .int (nI (fdR f (fiO f) 108))), (2, .int 1), (1, .int h), (0, .ref (ad 0))] [] [(q1, .inl (0, 108, .inl A1)), (q2, .inl (0, 108, .inl A2)), (q3, .inl (0, 108, .inl A3))] (2) (12)) : ∀ (d y x a b e : Nat), y < 9 → x ≤ 12 → 13 * (8 - y) + (12 - x) < d → a = fdR f (fiO f) (12 * y + x) → b = cC f (fdO f h) (12 * y + x) → e = cF f (fiO f) (12 * y + x) → DU g M_Lw_isFedRight (fun o w1 => o = .inl (some (.int 1)) ∧ Wd g ad t0 u f p w1) w9 3 50 [(10, .int (nI x)), (9, .int (nI y)), (8, .ref q3), (7, .ref q2), (6, .ref q1), (5, .int (nI e)), (4, .int (nI b)), (3, .int (nI a)), (2, .int 1), (1, .int h), (0, .ref (ad 0))] [] [(q1, .inl (0, 108, .inl A1)), (q2, .inl (0, 108, .inl A2)), (q3, .inl (0, 108, .inl A3))] (108 - (12 * y + x) + 2) (6 * (108 - (12 * y + x)) + 12) := by
  intro d
  induction d with
  | zero => intro y x a b e hy hx0 k2; exact absurd k2 (by omega)
  | succ d ih =>
    intro y x a b e hy hx0 k2 hI1 hI2 hI3
    refine y_iload d_Lw_isFedRight_50 0 rfl ?_
    refine y_bipush d_Lw_isFedRight_52 (v := 12) (by decide) ?_
    refine y_icmp_ge (tgt := 339) d_Lw_isFedRight_54 (by decide) (fun c_54 => ?_) (fun c_54 => ?_)
    · have hn := z_le (a := 12) (b := x) (by omega) (by omega) c_54
      obtain rfl : x = 12 := by omega
      refine y_iinc (lv' := [(9, .int (nI (y + 1))), (10, .int (nI 12)), (8, .ref q3), (7, .ref q2), (6, .ref q1), (5, .int (nI e)), (4, .int (nI b)), (3, .int (nI a)), (2, .int 1), (1, .int h), (0, .ref (ad 0))]) (v := nI (y + 1)) d_Lw_isFedRight_339 (j := 1) rfl (nI_add _ _) (by decide) rfl ?_
      refine y_goto (tgt := 40) d_Lw_isFedRight_342 (by decide) ?_
      refine y_iload d_Lw_isFedRight_40 0 rfl ?_
      refine y_bipush d_Lw_isFedRight_42 (v := 9) (by decide) ?_
      refine y_icmp_ge (tgt := 345) d_Lw_isFedRight_44 (by decide) (fun c_44 => ?_) (fun c_44 => ?_)
      · have hn9 := z_le (a := 9) (b := y + 1) (by omega) (by omega) c_44
        obtain rfl : y = 8 := by omega
        subst hI1 hI2 hI3
        refine y_lv (lv' := [(8, .ref q3), (7, .ref q2), (6, .ref q1), (5, .int (nI (cF f (fiO f) (12 * 8 + 12)))), (4, .int (nI (cC f (fdO f h) (12 * 8 + 12)))), (3, .int (nI (fdR f (fiO f) (12 * 8 + 12)))), (2, .int 1), (1, .int h), (0, .ref (ad 0))]) [2, 3, 4, 5, 6, 7, 8, 9, 10] rfl ?_
        exact y_bud (by omega) (by omega) K
      · have hn9 := z_nle (a := 9) (b := y + 1) (by omega) (by omega) c_44
        refine y_iconst d_Lw_isFedRight_47 (v := 0) (by decide) ?_
        refine y_istore (lv' := [(10, .int 0), (9, .int (nI (y + 1))), (8, .ref q3), (7, .ref q2), (6, .ref q1), (5, .int (nI e)), (4, .int (nI b)), (3, .int (nI a)), (2, .int 1), (1, .int h), (0, .ref (ad 0))]) d_Lw_isFedRight_48 (by decide) rfl ?_
        refine y_lv (lv' := [(10, .int 0), (9, .int (nI (y + 1))), (8, .ref q3), (7, .ref q2), (6, .ref q1), (5, .int (nI e)), (4, .int (nI b)), (3, .int (nI a)), (2, .int 1), (1, .int h), (0, .ref (ad 0))]) [0, 1, 2, 3, 4, 5, 6, 7, 8, 9, 10] rfl ?_
        refine y_lvE (lv2 := [(10, .int (nI 0)), (9, .int (nI (y + 1))), (8, .ref q3), (7, .ref q2), (6, .ref q1), (5, .int (nI e)), (4, .int (nI b)), (3, .int (nI a)), (2, .int 1), (1, .int h), (0, .ref (ad 0))]) rfl ?_
        exact y_bud (by omega) (by omega) (ih (y + 1) 0 _ _ _ (by omega) (by omega) (by omega) (by rw [show 12 * (y + 1) + 0 = 12 * y + 12 by omega]; exact hI1) (by rw [show 12 * (y + 1) + 0 = 12 * y + 12 by omega]; exact hI2) (by rw [show 12 * (y + 1) + 0 = 12 * y + 12 by omega]; exact hI3))
    · have hx := z_nle (a := 12) (b := x) (by omega) (by omega) c_54
      refine y_lv (lv' := [(10, .int (nI x)), (9, .int (nI y)), (8, .ref q3), (7, .ref q2), (6, .ref q1), (5, .int (nI e)), (4, .int (nI b)), (3, .int (nI a)), (2, .int 1), (1, .int h), (0, .ref (ad 0))]) [0, 1, 2, 3, 4, 5, 6, 7, 8, 9, 10] rfl ?_
      have hc : 12 * y + x < 108 := by omega
      have ok := fdO_ok f h
      by_cases hk : f (12 * y + x) = 114
      · by_cases hv : fiO f (12 * y + x) < 0
        · have he : fdO f h (12 * y + x) = 0 := Decidable.not_not.mp (fun z => ok.2.1 _ hc z hv)
          have K := ih y (x + 1) _ _ _ hy (by omega) (by omega) (hI1.trans (cn_n (p := fun k => decide (f k = 114 ∧ ¬ fiO f k < 0)) (decide_eq_false (fun z => z.2 hv)))) (hI2.trans (cn_n (p := fun k => decide (f k = 99 ∧ ¬ fdO f h k = 0)) (decide_eq_false (fun z => z.2 he)))) (hI3.trans (cn_n (p := fun k => decide (f k = 99 ∧ ¬ fiO f k < 0)) (decide_eq_false (fun z => z.2 hv))))
          exact y_bud (by omega) (by omega) (F_B g hW hh n1 h1 n2 h2 n3 h3 e1 e2 e3 hx hy hk hv he K)
        · rcases ok.1 _ hc with he | he
          · exact absurd he (ok.2.2.1 _ hc hk hv)
          · have K := ih y (x + 1) _ _ _ hy (by omega) (by omega) ((congrArg (· + 1) hI1).trans (cn_y (p := fun k => decide (f k = 114 ∧ ¬ fiO f k < 0)) (decide_eq_true ⟨hk, hv⟩))) (hI2.trans (cn_n (p := fun k => decide (f k = 99 ∧ ¬ fdO f h k = 0)) (decide_eq_false (fun z => absurd (hk.symm.trans z.1) (by decide))))) (hI3.trans (cn_n (p := fun k => decide (f k = 99 ∧ ¬ fiO f k < 0)) (decide_eq_false (fun z => absurd (hk.symm.trans z.1) (by decide)))))
            exact y_bud (by omega) (by omega) (F_A g hW hh n1 h1 n2 h2 n3 h3 e1 e2 e3 hx hy hk hv he K)
      · have k4 := hk
        clear hk
        by_cases hk : f (12 * y + x) = 99
        · by_cases hv : fiO f (12 * y + x) < 0
          · have he : fdO f h (12 * y + x) = 0 := Decidable.not_not.mp (fun z => ok.2.1 _ hc z hv)
            have K := ih y (x + 1) _ _ _ hy (by omega) (by omega) (hI1.trans (cn_n (p := fun k => decide (f k = 114 ∧ ¬ fiO f k < 0)) (decide_eq_false (fun z => z.2 hv)))) (hI2.trans (cn_n (p := fun k => decide (f k = 99 ∧ ¬ fdO f h k = 0)) (decide_eq_false (fun z => z.2 he)))) (hI3.trans (cn_n (p := fun k => decide (f k = 99 ∧ ¬ fiO f k < 0)) (decide_eq_false (fun z => z.2 hv))))
            exact y_bud (by omega) (by omega) (F_E g hW hh n1 h1 n2 h2 n3 h3 e1 e2 e3 hx hy hk hv he K)
          · rcases ok.1 _ hc with he | he
            · have K := ih y (x + 1) _ _ _ hy (by omega) (by omega) (hI1.trans (cn_n (p := fun k => decide (f k = 114 ∧ ¬ fiO f k < 0)) (decide_eq_false (fun z => absurd (hk.symm.trans z.1) (by decide))))) (hI2.trans (cn_n (p := fun k => decide (f k = 99 ∧ ¬ fdO f h k = 0)) (decide_eq_false (fun z => z.2 he)))) ((congrArg (· + 1) hI3).trans (cn_y (p := fun k => decide (f k = 99 ∧ ¬ fiO f k < 0)) (decide_eq_true ⟨hk, hv⟩)))
              exact y_bud (by omega) (by omega) (F_D g hW hh n1 h1 n2 h2 n3 h3 e1 e2 e3 hx hy hk hv he K)
            · have K := ih y (x + 1) _ _ _ hy (by omega) (by omega) (hI1.trans (cn_n (p := fun k => decide (f k = 114 ∧ ¬ fiO f k < 0)) (decide_eq_false (fun z => absurd (hk.symm.trans z.1) (by decide))))) ((congrArg (· + 1) hI2).trans (cn_y (p := fun k => decide (f k = 99 ∧ ¬ fdO f h k = 0)) (decide_eq_true ⟨hk, by rw [he]; decide⟩))) ((congrArg (· + 1) hI3).trans (cn_y (p := fun k => decide (f k = 99 ∧ ¬ fiO f k < 0)) (decide_eq_true ⟨hk, hv⟩)))
              exact y_bud (by omega) (by omega) (F_C g hW hh n1 h1 n2 h2 n3 h3 e1 e2 e3 hx hy hk hv he K)
        · have k9 := hk
          by_cases hv : fiO f (12 * y + x) < 0
          · have he : fdO f h (12 * y + x) = 0 := Decidable.not_not.mp (fun z => ok.2.1 _ hc z hv)
            have K := ih y (x + 1) _ _ _ hy (by omega) (by omega) (hI1.trans (cn_n (p := fun k => decide (f k = 114 ∧ ¬ fiO f k < 0)) (decide_eq_false (fun z => z.2 hv)))) (hI2.trans (cn_n (p := fun k => decide (f k = 99 ∧ ¬ fdO f h k = 0)) (decide_eq_false (fun z => z.2 he)))) (hI3.trans (cn_n (p := fun k => decide (f k = 99 ∧ ¬ fiO f k < 0)) (decide_eq_false (fun z => z.2 hv))))
            exact y_bud (by omega) (by omega) (F_H g hW hh n1 h1 n2 h2 n3 h3 e1 e2 e3 hx hy k4 k9 rfl hv he K)
          · rcases ok.1 _ hc with he | he
            · have K := ih y (x + 1) _ _ _ hy (by omega) (by omega) (hI1.trans (cn_n (p := fun k => decide (f k = 114 ∧ ¬ fiO f k < 0)) (decide_eq_false (fun z => k4 z.1)))) (hI2.trans (cn_n (p := fun k => decide (f k = 99 ∧ ¬ fdO f h k = 0)) (decide_eq_false (fun z => z.2 he)))) (hI3.trans (cn_n (p := fun k => decide (f k = 99 ∧ ¬ fiO f k < 0)) (decide_eq_false (fun z => k9 z.1))))
              exact y_bud (by omega) (by omega) (F_G g hW hh n1 h1 n2 h2 n3 h3 e1 e2 e3 hx hy k4 k9 rfl hv he K)
            · have K := ih y (x + 1) _ _ _ hy (by omega) (by omega) (hI1.trans (cn_n (p := fun k => decide (f k = 114 ∧ ¬ fiO f k < 0)) (decide_eq_false (fun z => k4 z.1)))) (hI2.trans (cn_n (p := fun k => decide (f k = 99 ∧ ¬ fdO f h k = 0)) (decide_eq_false (fun z => k9 z.1)))) (hI3.trans (cn_n (p := fun k => decide (f k = 99 ∧ ¬ fiO f k < 0)) (decide_eq_false (fun z => k9 z.1))))
              exact y_bud (by omega) (by omega) (F_F g hW hh n1 h1 n2 h2 n3 h3 e1 e2 e3 hx hy k4 k9 rfl hv he K)
theorem d_Lw_isFedRight_345 : decode method_19_code 345 = .ok (.aload_n 0, 1) := zo_42 (zd_b zq_method_19_code_10 25 rfl rfl rfl)
theorem d_Lw_isFedRight_346 : decode method_19_code 346 = .ok (.bipush 26, 2) := zo_16 (d := 26) (zd_b zq_method_19_code_10 26 rfl rfl rfl) (zd_b zq_method_19_code_10 27 rfl rfl rfl) (by decide +kernel)
theorem d_Lw_isFedRight_348 : decode method_19_code 348 = .ok (.iload_n 1, 1) := zo_27 (zd_b zq_method_19_code_10 28 rfl rfl rfl)
theorem d_Lw_isFedRight_349 : decode method_19_code 349 = .ok (.iconst 0, 1) := zo_3 (zd_b zq_method_19_code_10 29 rfl rfl rfl)
theorem d_Lw_isFedRight_350 : decode method_19_code 350 = .ok (.invokestatic 193, 3) := zo_184 (d := 0) (e := 193) (zd_b zq_method_19_code_10 30 rfl rfl rfl) (zd_b zq_method_19_code_10 31 rfl rfl rfl) (zd_b zq_method_19_code_11 0 rfl rfl rfl)
theorem ok_Lw_isFedRight_Lw_ask : z_ok M_Lw_isFedRight M_Lw_ask 4 := ⟨z_mj6 (i := 177) rfl (by decide +kernel), rfl, ⟨by decide +kernel, by decide +kernel, by decide +kernel⟩, ⟨by decide, by decide⟩, z_mj1 (i := 0) rfl (by decide +kernel), rfl⟩
theorem d_Lw_isFedRight_353 : decode method_19_code 353 = .ok (.istore 9, 2) := zo_54 (d := 9) (zd_b zq_method_19_code_11 1 rfl rfl rfl) (zd_b zq_method_19_code_11 2 rfl rfl rfl)
theorem d_Lw_isFedRight_355 : decode method_19_code 355 = .ok (.aload_n 0, 1) := zo_42 (zd_b zq_method_19_code_11 3 rfl rfl rfl)
theorem d_Lw_isFedRight_356 : decode method_19_code 356 = .ok (.bipush 27, 2) := zo_16 (d := 27) (zd_b zq_method_19_code_11 4 rfl rfl rfl) (zd_b zq_method_19_code_11 5 rfl rfl rfl) (by decide +kernel)
theorem d_Lw_isFedRight_358 : decode method_19_code 358 = .ok (.iload_n 1, 1) := zo_27 (zd_b zq_method_19_code_11 6 rfl rfl rfl)
theorem d_Lw_isFedRight_359 : decode method_19_code 359 = .ok (.iconst 0, 1) := zo_3 (zd_b zq_method_19_code_11 7 rfl rfl rfl)
theorem d_Lw_isFedRight_360 : decode method_19_code 360 = .ok (.invokestatic 193, 3) := zo_184 (d := 0) (e := 193) (zd_b zq_method_19_code_11 8 rfl rfl rfl) (zd_b zq_method_19_code_11 9 rfl rfl rfl) (zd_b zq_method_19_code_11 10 rfl rfl rfl)
theorem d_Lw_isFedRight_363 : decode method_19_code 363 = .ok (.istore 10, 2) := zo_54 (d := 10) (zd_b zq_method_19_code_11 11 rfl rfl rfl) (zd_b zq_method_19_code_11 12 rfl rfl rfl)
theorem d_Lw_isFedRight_365 : decode method_19_code 365 = .ok (.iload_n 2, 1) := zo_28 (zd_b zq_method_19_code_11 13 rfl rfl rfl)
theorem d_Lw_isFedRight_366 : decode method_19_code 366 = .ok (.ifCond .eq 49, 3) := zo_153 (d := 0) (e := 49) (zd_b zq_method_19_code_11 14 rfl rfl rfl) (zd_b zq_method_19_code_11 15 rfl rfl rfl) (zd_b zq_method_19_code_11 16 rfl rfl rfl) (by decide +kernel)
theorem d_Lw_isFedRight_369 : decode method_19_code 369 = .ok (.iload 4, 2) := zo_21 (d := 4) (zd_b zq_method_19_code_11 17 rfl rfl rfl) (zd_b zq_method_19_code_11 18 rfl rfl rfl)
theorem d_Lw_isFedRight_371 : decode method_19_code 371 = .ok (.bipush 10, 2) := zo_16 (d := 10) (zd_b zq_method_19_code_11 19 rfl rfl rfl) (zd_b zq_method_19_code_11 20 rfl rfl rfl) (by decide +kernel)
theorem d_Lw_isFedRight_373 : decode method_19_code 373 = .ok (.iload_n 3, 1) := zo_29 (zd_b zq_method_19_code_11 21 rfl rfl rfl)
theorem d_Lw_isFedRight_374 : decode method_19_code 374 = .ok (.imul, 1) := zo_104 (zd_b zq_method_19_code_11 22 rfl rfl rfl)
theorem d_Lw_isFedRight_375 : decode method_19_code 375 = .ok (.if_icmp .gt 40, 3) := zo_163 (d := 0) (e := 40) (zd_b zq_method_19_code_11 23 rfl rfl rfl) (zd_b zq_method_19_code_11 24 rfl rfl rfl) (zd_b zq_method_19_code_11 25 rfl rfl rfl) (by decide +kernel)
theorem d_Lw_isFedRight_378 : decode method_19_code 378 = .ok (.iload 9, 2) := zo_21 (d := 9) (zd_b zq_method_19_code_11 26 rfl rfl rfl) (zd_b zq_method_19_code_11 27 rfl rfl rfl)
theorem d_Lw_isFedRight_380 : decode method_19_code 380 = .ok (.iload 5, 2) := zo_21 (d := 5) (zd_b zq_method_19_code_11 28 rfl rfl rfl) (zd_b zq_method_19_code_11 29 rfl rfl rfl)
theorem d_Lw_isFedRight_382 : decode method_19_code 382 = .ok (.iload 4, 2) := zo_21 (d := 4) (zd_b zq_method_19_code_11 30 rfl rfl rfl) (zd_b zq_method_19_code_11 31 rfl rfl rfl)
theorem d_Lw_isFedRight_384 : decode method_19_code 384 = .ok (.isub, 1) := zo_100 (zd_b zq_method_19_code_12 0 rfl rfl rfl)
theorem d_Lw_isFedRight_385 : decode method_19_code 385 = .ok (.if_icmp .ne 30, 3) := zo_160 (d := 0) (e := 30) (zd_b zq_method_19_code_12 1 rfl rfl rfl) (zd_b zq_method_19_code_12 2 rfl rfl rfl) (zd_b zq_method_19_code_12 3 rfl rfl rfl) (by decide +kernel)
theorem d_Lw_isFedRight_388 : decode method_19_code 388 = .ok (.iload 10, 2) := zo_21 (d := 10) (zd_b zq_method_19_code_12 4 rfl rfl rfl) (zd_b zq_method_19_code_12 5 rfl rfl rfl)
theorem d_Lw_isFedRight_390 : decode method_19_code 390 = .ok (.iload 9, 2) := zo_21 (d := 9) (zd_b zq_method_19_code_12 6 rfl rfl rfl) (zd_b zq_method_19_code_12 7 rfl rfl rfl)
theorem d_Lw_isFedRight_392 : decode method_19_code 392 = .ok (.if_icmp .gt 23, 3) := zo_163 (d := 0) (e := 23) (zd_b zq_method_19_code_12 8 rfl rfl rfl) (zd_b zq_method_19_code_12 9 rfl rfl rfl) (zd_b zq_method_19_code_12 10 rfl rfl rfl) (by decide +kernel)
theorem d_Lw_isFedRight_395 : decode method_19_code 395 = .ok (.iload 5, 2) := zo_21 (d := 5) (zd_b zq_method_19_code_12 11 rfl rfl rfl) (zd_b zq_method_19_code_12 12 rfl rfl rfl)
theorem d_Lw_isFedRight_397 : decode method_19_code 397 = .ok (.bipush 10, 2) := zo_16 (d := 10) (zd_b zq_method_19_code_12 13 rfl rfl rfl) (zd_b zq_method_19_code_12 14 rfl rfl rfl) (by decide +kernel)
theorem d_Lw_isFedRight_399 : decode method_19_code 399 = .ok (.iload_n 3, 1) := zo_29 (zd_b zq_method_19_code_12 15 rfl rfl rfl)
theorem d_Lw_isFedRight_400 : decode method_19_code 400 = .ok (.imul, 1) := zo_104 (zd_b zq_method_19_code_12 16 rfl rfl rfl)
theorem d_Lw_isFedRight_401 : decode method_19_code 401 = .ok (.if_icmp .gt 10, 3) := zo_163 (d := 0) (e := 10) (zd_b zq_method_19_code_12 17 rfl rfl rfl) (zd_b zq_method_19_code_12 18 rfl rfl rfl) (zd_b zq_method_19_code_12 19 rfl rfl rfl) (by decide +kernel)
theorem d_Lw_isFedRight_411 : decode method_19_code 411 = .ok (.iconst 1, 1) := zo_4 (zd_b zq_method_19_code_12 27 rfl rfl rfl)
theorem d_Lw_isFedRight_412 : decode method_19_code 412 = .ok (.goto 4, 3) := zo_167 (d := 0) (e := 4) (zd_b zq_method_19_code_12 28 rfl rfl rfl) (zd_b zq_method_19_code_12 29 rfl rfl rfl) (zd_b zq_method_19_code_12 30 rfl rfl rfl) (by decide +kernel)
theorem d_Lw_isFedRight_416 : decode method_19_code 416 = .ok (.ireturn, 1) := zo_172 (zd_b zq_method_19_code_13 0 rfl rfl rfl)
theorem d_Lw_isFedRight_404 : decode method_19_code 404 = .ok (.iload 10, 2) := zo_21 (d := 10) (zd_b zq_method_19_code_12 20 rfl rfl rfl) (zd_b zq_method_19_code_12 21 rfl rfl rfl)
theorem d_Lw_isFedRight_406 : decode method_19_code 406 = .ok (.iload 9, 2) := zo_21 (d := 9) (zd_b zq_method_19_code_12 22 rfl rfl rfl) (zd_b zq_method_19_code_12 23 rfl rfl rfl)
theorem d_Lw_isFedRight_408 : decode method_19_code 408 = .ok (.if_icmp .ne 7, 3) := zo_160 (d := 0) (e := 7) (zd_b zq_method_19_code_12 24 rfl rfl rfl) (zd_b zq_method_19_code_12 25 rfl rfl rfl) (zd_b zq_method_19_code_12 26 rfl rfl rfl) (by decide +kernel)
set_option maxHeartbeats 4000000 in
set_option maxRecDepth 100000 in
theorem F_end (g : zG) {ad : Nat → Nat} {t0 : zTT} {u : zNN} {f : Nat → Int32} {p : Nat} {w9 : zW} (hW : Wd g ad t0 u f p w9) {q1 q2 q3 : Nat} {A1 A2 A3 : Nat → Int32} {h : Int32} (hh : 1250 ≤ h ∧ h < 1450) (n1 : z_nf ad q1) (h1 : w9 q1 = some (.inl (0, 108, .inl A1))) (n2 : z_nf ad q2) (h2 : w9 q2 = some (.inl (0, 108, .inl A2))) (n3 : z_nf ad q3) (h3 : w9 q3 = some (.inl (0, 108, .inl A3))) (e1 : ∀ c, c < 108 → A1 c = fiO f c) (e2 : ∀ c, c < 108 → A2 c = fdO f h c) (e3 : ∀ c, c < 108 → A3 c = frO f h c) : DU g M_Lw_isFedRight (fun o w1 => o = .inl (some (.int 1)) ∧ Wd g ad t0 u f p w1) w9 3 345 [(8, .ref q3), (7, .ref q2), (6, .ref q1), (5, .int (nI (cF f (fiO f) 108))), (4, .int (nI (cC f (fdO f h) 108))), (3, .int (nI (fdR f (fiO f) 108))), (2, .int 1), (1, .int h), (0, .ref (ad 0))] [] [(q1, .inl (0, 108, .inl A1)), (q2, .inl (0, 108, .inl A2)), (q3, .inl (0, 108, .inl A3))] (2) (12) := by
  have s1 := sh_sum f h
  have s2 := (fdO_ok f h).2.2.2.2.1
  have s3 := an_le f h
  have s4 : fdR f (fiO f) 108 ≤ 108 := fa_cnt_le _ _
  have s5 : fdF f (fiO f) ≤ 108 := fa_cnt_le _ _
  have s6 : fdC f (fdO f h) = cC f (fdO f h) 108 := rfl
  have s7 : fdF f (fiO f) = cF f (fiO f) 108 := rfl
  refine y_aload_n d_Lw_isFedRight_345 rfl 8 rfl ?_
  refine y_bipush d_Lw_isFedRight_346 (v := 26) (by decide) ?_
  refine y_iload_n d_Lw_isFedRight_348 rfl 7 rfl ?_
  refine y_iconst d_Lw_isFedRight_349 (v := 0) (by decide) ?_
  refine yw_callS (As := [.ref (ad 0), .int 26, .int h, .int 0]) (rest := []) ln_Lw_193 w_st_Lw_ask ok_Lw_isFedRight_Lw_ask d_Lw_isFedRight_350 (fun wA hA => T_shrunk (hW.al hA rfl (List.forall_mem_cons.mpr ⟨⟨n1, _, _, h1⟩, (List.forall_mem_cons.mpr ⟨⟨n2, _, _, h2⟩, (List.forall_mem_cons.mpr ⟨⟨n3, _, _, h3⟩, (fun _ h => nomatch h)⟩)⟩)⟩)) (hh_w hh)) rfl rfl (Nat.le_of_ble_eq_true rfl) (by omega) (by omega) (fun wA350 hA350 E wB350 hx => ?_) (fun wA350 hA350 v wB350 hx => ?_)
  · obtain ⟨e9, -⟩ := hx
    cases e9
  · obtain ⟨e9, hW2, -⟩ := hx
    cases e9
    refine yw_st (st2 := [.int (nI (shO f h))]) rfl ?_
    refine y_base (cs := []) (z_I.nil _) ?_
    refine y_istore (lv' := [(9, .int (nI (shO f h))), (8, .ref q3), (7, .ref q2), (6, .ref q1), (5, .int (nI (cF f (fiO f) 108))), (4, .int (nI (cC f (fdO f h) 108))), (3, .int (nI (fdR f (fiO f) 108))), (2, .int 1), (1, .int h), (0, .ref (ad 0))]) d_Lw_isFedRight_353 (by decide) rfl ?_
    refine y_aload_n d_Lw_isFedRight_355 rfl 9 rfl ?_
    refine y_bipush d_Lw_isFedRight_356 (v := 27) (by decide) ?_
    refine y_iload_n d_Lw_isFedRight_358 rfl 8 rfl ?_
    refine y_iconst d_Lw_isFedRight_359 (v := 0) (by decide) ?_
    refine yw_callS (As := [.ref (ad 0), .int 27, .int h, .int 0]) (rest := []) ln_Lw_193 w_st_Lw_ask ok_Lw_isFedRight_Lw_ask d_Lw_isFedRight_360 (fun wA hA => T_anew (hW2.e (z_I.same (z_I.nil _) hA)) (hh_w hh)) rfl rfl (Nat.le_of_ble_eq_true rfl) (by omega) (by omega) (fun wA360 hA360 E wB360 hx => ?_) (fun wA360 hA360 v wB360 hx => ?_)
    · obtain ⟨e9, -⟩ := hx
      cases e9
    · obtain ⟨e9, hW3, -⟩ := hx
      cases e9
      refine yw_st (st2 := [.int (nI (anO f h))]) rfl ?_
      refine y_base (cs := []) (z_I.nil _) ?_
      refine y_istore (lv' := [(10, .int (nI (anO f h))), (9, .int (nI (shO f h))), (8, .ref q3), (7, .ref q2), (6, .ref q1), (5, .int (nI (cF f (fiO f) 108))), (4, .int (nI (cC f (fdO f h) 108))), (3, .int (nI (fdR f (fiO f) 108))), (2, .int 1), (1, .int h), (0, .ref (ad 0))]) d_Lw_isFedRight_363 (by decide) rfl ?_
      refine y_iload_n d_Lw_isFedRight_365 rfl 8 rfl ?_
      refine y_if_eq (tgt := 415) d_Lw_isFedRight_366 (by decide) (fun c_366 => ?_) (fun c_366 => ?_)
      · exact absurd c_366 (by decide)
      · refine y_iload d_Lw_isFedRight_369 6 rfl ?_
        refine y_bipush d_Lw_isFedRight_371 (v := 10) (by decide) ?_
        refine y_iload_n d_Lw_isFedRight_373 rfl 7 rfl ?_
        refine y_imul d_Lw_isFedRight_374 (v := nI (10 * (fdR f (fiO f) 108))) (pk_mul _ _) ?_
        refine y_icmp_gt (tgt := 415) d_Lw_isFedRight_375 (by decide) (fun c_375 => ?_) (fun c_375 => ?_)
        · exact absurd (z_lt (a := 10 * fdR f (fiO f) 108) (b := cC f (fdO f h) 108) (by omega) (by omega) c_375) (by omega)
        · refine y_iload d_Lw_isFedRight_378 1 rfl ?_
          refine y_iload d_Lw_isFedRight_380 5 rfl ?_
          refine y_iload d_Lw_isFedRight_382 6 rfl ?_
          refine y_isub d_Lw_isFedRight_384 (v := nI (cF f (fiO f) 108 - cC f (fdO f h) 108)) (nI_sub (by omega)) ?_
          refine y_icmp_ne (tgt := 415) d_Lw_isFedRight_385 (by decide) (fun c_385 => ?_) (fun c_385 => ?_)
          · exact absurd (congrArg nI (show shO f h = cF f (fiO f) 108 - cC f (fdO f h) 108 by omega)) c_385
          · refine y_iload d_Lw_isFedRight_388 0 rfl ?_
            refine y_iload d_Lw_isFedRight_390 1 rfl ?_
            refine y_icmp_gt (tgt := 415) d_Lw_isFedRight_392 (by decide) (fun c_392 => ?_) (fun c_392 => ?_)
            · exact absurd (z_lt (a := shO f h) (b := anO f h) (by omega) (by omega) c_392) (by omega)
            · refine y_iload d_Lw_isFedRight_395 5 rfl ?_
              refine y_bipush d_Lw_isFedRight_397 (v := 10) (by decide) ?_
              refine y_iload_n d_Lw_isFedRight_399 rfl 7 rfl ?_
              refine y_imul d_Lw_isFedRight_400 (v := nI (10 * (fdR f (fiO f) 108))) (pk_mul _ _) ?_
              refine y_icmp_gt (tgt := 411) d_Lw_isFedRight_401 (by decide) (fun c_401 => ?_) (fun c_401 => ?_)
              · refine y_iconst d_Lw_isFedRight_411 (v := 1) (by decide) ?_
                refine y_goto (tgt := 416) d_Lw_isFedRight_412 (by decide) ?_
                refine y_iret d_Lw_isFedRight_416 rfl rfl ?_
                exact fun w1 k1 => ⟨rfl, hW3.e (z_I.same (z_I.nil _) k1)⟩
              · refine y_iload d_Lw_isFedRight_404 0 rfl ?_
                refine y_iload d_Lw_isFedRight_406 1 rfl ?_
                refine y_icmp_ne (tgt := 415) d_Lw_isFedRight_408 (by decide) (fun c_408 => ?_) (fun c_408 => ?_)
                · exact absurd (congrArg nI (an_eq (by have := z_nlt (a := 10 * fdR f (fiO f) 108) (b := cF f (fiO f) 108) (by omega) (by omega) c_401; omega))) c_408
                · refine y_iconst d_Lw_isFedRight_411 (v := 1) (by decide) ?_
                  refine y_goto (tgt := 416) d_Lw_isFedRight_412 (by decide) ?_
                  refine y_iret d_Lw_isFedRight_416 rfl rfl ?_
                  exact fun w1 k1 => ⟨rfl, hW3.e (z_I.same (z_I.nil _) k1)⟩
theorem d_Lw_isFedRight_0 : decode method_19_code 0 = .ok (.iconst 1, 1) := zo_4 (zd_b zq_method_19_code_0 0 rfl rfl rfl)
theorem d_Lw_isFedRight_1 : decode method_19_code 1 = .ok (.istore_n 2, 1) := zo_61 (zd_b zq_method_19_code_0 1 rfl rfl rfl)
theorem d_Lw_isFedRight_2 : decode method_19_code 2 = .ok (.iconst 0, 1) := zo_3 (zd_b zq_method_19_code_0 2 rfl rfl rfl)
theorem d_Lw_isFedRight_3 : decode method_19_code 3 = .ok (.istore_n 3, 1) := zo_62 (zd_b zq_method_19_code_0 3 rfl rfl rfl)
theorem d_Lw_isFedRight_4 : decode method_19_code 4 = .ok (.iconst 0, 1) := zo_3 (zd_b zq_method_19_code_0 4 rfl rfl rfl)
theorem d_Lw_isFedRight_5 : decode method_19_code 5 = .ok (.istore 4, 2) := zo_54 (d := 4) (zd_b zq_method_19_code_0 5 rfl rfl rfl) (zd_b zq_method_19_code_0 6 rfl rfl rfl)
theorem d_Lw_isFedRight_7 : decode method_19_code 7 = .ok (.iconst 0, 1) := zo_3 (zd_b zq_method_19_code_0 7 rfl rfl rfl)
theorem d_Lw_isFedRight_8 : decode method_19_code 8 = .ok (.istore 5, 2) := zo_54 (d := 5) (zd_b zq_method_19_code_0 8 rfl rfl rfl) (zd_b zq_method_19_code_0 9 rfl rfl rfl)
theorem d_Lw_isFedRight_10 : decode method_19_code 10 = .ok (.aload_n 0, 1) := zo_42 (zd_b zq_method_19_code_0 10 rfl rfl rfl)
theorem d_Lw_isFedRight_11 : decode method_19_code 11 = .ok (.bipush 21, 2) := zo_16 (d := 21) (zd_b zq_method_19_code_0 11 rfl rfl rfl) (zd_b zq_method_19_code_0 12 rfl rfl rfl) (by decide +kernel)
theorem d_Lw_isFedRight_13 : decode method_19_code 13 = .ok (.iconst 0, 1) := zo_3 (zd_b zq_method_19_code_0 13 rfl rfl rfl)
theorem d_Lw_isFedRight_14 : decode method_19_code 14 = .ok (.invokestatic 201, 3) := zo_184 (d := 0) (e := 201) (zd_b zq_method_19_code_0 14 rfl rfl rfl) (zd_b zq_method_19_code_0 15 rfl rfl rfl) (zd_b zq_method_19_code_0 16 rfl rfl rfl)
theorem ok_Lw_isFedRight_Lw_rows : z_ok M_Lw_isFedRight M_Lw_rows 3 := ⟨z_mj6 (i := 161) rfl (by decide +kernel), rfl, ⟨by decide +kernel, by decide +kernel, by decide +kernel⟩, ⟨by decide, by decide⟩, z_mj1 (i := 0) rfl (by decide +kernel), rfl⟩
theorem d_Lw_isFedRight_17 : decode method_19_code 17 = .ok (.astore 6, 2) := zo_58 (d := 6) (zd_b zq_method_19_code_0 17 rfl rfl rfl) (zd_b zq_method_19_code_0 18 rfl rfl rfl)
theorem d_Lw_isFedRight_19 : decode method_19_code 19 = .ok (.aload_n 0, 1) := zo_42 (zd_b zq_method_19_code_0 19 rfl rfl rfl)
theorem d_Lw_isFedRight_20 : decode method_19_code 20 = .ok (.bipush 25, 2) := zo_16 (d := 25) (zd_b zq_method_19_code_0 20 rfl rfl rfl) (zd_b zq_method_19_code_0 21 rfl rfl rfl) (by decide +kernel)
theorem d_Lw_isFedRight_22 : decode method_19_code 22 = .ok (.iload_n 1, 1) := zo_27 (zd_b zq_method_19_code_0 22 rfl rfl rfl)
theorem d_Lw_isFedRight_23 : decode method_19_code 23 = .ok (.invokestatic 201, 3) := zo_184 (d := 0) (e := 201) (zd_b zq_method_19_code_0 23 rfl rfl rfl) (zd_b zq_method_19_code_0 24 rfl rfl rfl) (zd_b zq_method_19_code_0 25 rfl rfl rfl)
theorem d_Lw_isFedRight_26 : decode method_19_code 26 = .ok (.astore 7, 2) := zo_58 (d := 7) (zd_b zq_method_19_code_0 26 rfl rfl rfl) (zd_b zq_method_19_code_0 27 rfl rfl rfl)
theorem d_Lw_isFedRight_28 : decode method_19_code 28 = .ok (.aload_n 0, 1) := zo_42 (zd_b zq_method_19_code_0 28 rfl rfl rfl)
theorem d_Lw_isFedRight_29 : decode method_19_code 29 = .ok (.bipush 23, 2) := zo_16 (d := 23) (zd_b zq_method_19_code_0 29 rfl rfl rfl) (zd_b zq_method_19_code_0 30 rfl rfl rfl) (by decide +kernel)
theorem d_Lw_isFedRight_31 : decode method_19_code 31 = .ok (.iload_n 1, 1) := zo_27 (zd_b zq_method_19_code_0 31 rfl rfl rfl)
theorem d_Lw_isFedRight_32 : decode method_19_code 32 = .ok (.invokestatic 201, 3) := zo_184 (d := 0) (e := 201) (zd_b zq_method_19_code_1 0 rfl rfl rfl) (zd_b zq_method_19_code_1 1 rfl rfl rfl) (zd_b zq_method_19_code_1 2 rfl rfl rfl)
theorem d_Lw_isFedRight_35 : decode method_19_code 35 = .ok (.astore 8, 2) := zo_58 (d := 8) (zd_b zq_method_19_code_1 3 rfl rfl rfl) (zd_b zq_method_19_code_1 4 rfl rfl rfl)
theorem d_Lw_isFedRight_37 : decode method_19_code 37 = .ok (.iconst 0, 1) := zo_3 (zd_b zq_method_19_code_1 5 rfl rfl rfl)
theorem d_Lw_isFedRight_38 : decode method_19_code 38 = .ok (.istore 9, 2) := zo_54 (d := 9) (zd_b zq_method_19_code_1 6 rfl rfl rfl) (zd_b zq_method_19_code_1 7 rfl rfl rfl)
set_option maxHeartbeats 4000000 in
set_option maxRecDepth 100000 in
theorem Z_isFedRight {g : zG} {ad : Nat → Nat} {t0 : zTT} {u : zNN} {f : Nat → Int32} {p : Nat} {w : zW} (hW : Wd g ad t0 u f p w) {h : Int32} (hh : 1250 ≤ h ∧ h < 1450) : zMB g M_Lw_isFedRight [.ref (ad 0), .int h] w (fun o w1 => o = .inl (some (.int 1)) ∧ Wd g ad t0 u f p w1) 1000 6000 := by
  refine y_of (by decide) rfl (Nat.le_of_ble_eq_true rfl) (y_base (cs := []) (z_I.nil w) ?_)
  refine y_lvE (lv2 := [(0, .ref (ad 0)), (1, .int h)]) rfl ?_
  refine y_iconst d_Lw_isFedRight_0 (v := 1) (by decide) ?_
  refine y_istore_n (lv' := [(2, .int 1), (0, .ref (ad 0)), (1, .int h)]) d_Lw_isFedRight_1 rfl (by decide) rfl ?_
  refine y_iconst d_Lw_isFedRight_2 (v := 0) (by decide) ?_
  refine y_istore_n (lv' := [(3, .int 0), (2, .int 1), (0, .ref (ad 0)), (1, .int h)]) d_Lw_isFedRight_3 rfl (by decide) rfl ?_
  refine y_iconst d_Lw_isFedRight_4 (v := 0) (by decide) ?_
  refine y_istore (lv' := [(4, .int 0), (3, .int 0), (2, .int 1), (0, .ref (ad 0)), (1, .int h)]) d_Lw_isFedRight_5 (by decide) rfl ?_
  refine y_iconst d_Lw_isFedRight_7 (v := 0) (by decide) ?_
  refine y_istore (lv' := [(5, .int 0), (4, .int 0), (3, .int 0), (2, .int 1), (0, .ref (ad 0)), (1, .int h)]) d_Lw_isFedRight_8 (by decide) rfl ?_
  refine y_aload_n d_Lw_isFedRight_10 rfl 4 rfl ?_
  refine y_bipush d_Lw_isFedRight_11 (v := 21) (by decide) ?_
  refine y_iconst d_Lw_isFedRight_13 (v := 0) (by decide) ?_
  refine yw_callS (As := [.ref (ad 0), .int 21, .int 0]) (rest := []) ln_Lw_201 w_st_Lw_rows ok_Lw_isFedRight_Lw_rows d_Lw_isFedRight_14 (fun wA hA => Z_rows (wh := 21) (h0 := 0) (F := fiO f) (hW.e (z_I.same (z_I.nil _) hA)) (fun w8 x y hx hy h8 => (T_filled h8 hx hy).mono (by decide) (by decide) (fun _ _ z => z))) rfl rfl (Nat.le_of_ble_eq_true rfl) (by omega) (by omega) (fun wA14 hA14 E wB14 hx => ?_) (fun wA14 hA14 v wB14 hx => ?_)
  · obtain ⟨q1, A1, e9, -⟩ := hx
    cases e9
  · obtain ⟨q1, A1, e9, h1, e1, hn1, hW1, hk1⟩ := hx
    cases e9
    refine yw_st (st2 := [.ref q1]) rfl ?_
    have n1 := (hW.e (z_I.same (z_I.nil _) hA14)).nf hn1
    refine y_base (cs := [(q1, .inl (0, 108, .inl A1))]) (z_I.mk (List.forall_mem_cons.mpr ⟨h1, (fun _ h => nomatch h)⟩) (by simp)) ?_
    refine y_astore (lv' := [(6, .ref q1), (5, .int 0), (4, .int 0), (3, .int 0), (2, .int 1), (0, .ref (ad 0)), (1, .int h)]) d_Lw_isFedRight_17 (by decide) rfl ?_
    refine y_aload_n d_Lw_isFedRight_19 rfl 5 rfl ?_
    refine y_bipush d_Lw_isFedRight_20 (v := 25) (by decide) ?_
    refine y_iload_n d_Lw_isFedRight_22 rfl 6 rfl ?_
    refine yw_callS (As := [.ref (ad 0), .int 25, .int h]) (rest := []) ln_Lw_201 w_st_Lw_rows ok_Lw_isFedRight_Lw_rows d_Lw_isFedRight_23 (fun wA hA => Z_rows (wh := 25) (h0 := h) (F := fdO f h) (hW1.al hA rfl (List.forall_mem_cons.mpr ⟨⟨n1, _, _, h1⟩, (fun _ h => nomatch h)⟩)) (fun w8 x y hx hy h8 => T_fed h8 hx hy (hh_w hh))) rfl rfl (Nat.le_of_ble_eq_true rfl) (by omega) (by omega) (fun wA23 hA23 E wB23 hx => ?_) (fun wA23 hA23 v wB23 hx => ?_)
    · obtain ⟨q2, A2, e9, -⟩ := hx
      cases e9
    · obtain ⟨q2, A2, e9, h2, e2, hn2, hW2, hk2⟩ := hx
      cases e9
      refine yw_st (st2 := [.ref q2]) rfl ?_
      have n2 := (hW1.al hA23 rfl (List.forall_mem_cons.mpr ⟨⟨n1, _, _, h1⟩, (fun _ h => nomatch h)⟩)).nf hn2
      have d12 : ¬ q1 = q2 := fun z => by rw [← z, hA23.at (q0 := 0) rfl] at hn2; cases hn2
      have h1 := hk2.q n1 (hA23.at (q0 := 0) rfl)
      refine y_base (cs := [(q1, .inl (0, 108, .inl A1)), (q2, .inl (0, 108, .inl A2))]) (z_I.mk (List.forall_mem_cons.mpr ⟨h1, (List.forall_mem_cons.mpr ⟨h2, (fun _ h => nomatch h)⟩)⟩) (by simp [d12])) ?_
      refine y_astore (lv' := [(7, .ref q2), (6, .ref q1), (5, .int 0), (4, .int 0), (3, .int 0), (2, .int 1), (0, .ref (ad 0)), (1, .int h)]) d_Lw_isFedRight_26 (by decide) rfl ?_
      refine y_aload_n d_Lw_isFedRight_28 rfl 6 rfl ?_
      refine y_bipush d_Lw_isFedRight_29 (v := 23) (by decide) ?_
      refine y_iload_n d_Lw_isFedRight_31 rfl 7 rfl ?_
      refine yw_callS (As := [.ref (ad 0), .int 23, .int h]) (rest := []) ln_Lw_201 w_st_Lw_rows ok_Lw_isFedRight_Lw_rows d_Lw_isFedRight_32 (fun wA hA => Z_rows (wh := 23) (h0 := h) (F := frO f h) (hW2.al hA rfl (List.forall_mem_cons.mpr ⟨⟨n1, _, _, h1⟩, (List.forall_mem_cons.mpr ⟨⟨n2, _, _, h2⟩, (fun _ h => nomatch h)⟩)⟩)) (fun w8 x y hx hy h8 => T_frozen h8 hx hy (hh_w hh))) rfl rfl (Nat.le_of_ble_eq_true rfl) (by omega) (by omega) (fun wA32 hA32 E wB32 hx => ?_) (fun wA32 hA32 v wB32 hx => ?_)
      · obtain ⟨q3, A3, e9, -⟩ := hx
        cases e9
      · obtain ⟨q3, A3, e9, h3, e3, hn3, hW3, hk3⟩ := hx
        cases e9
        refine yw_st (st2 := [.ref q3]) rfl ?_
        have n3 := (hW2.al hA32 rfl (List.forall_mem_cons.mpr ⟨⟨n1, _, _, h1⟩, (List.forall_mem_cons.mpr ⟨⟨n2, _, _, h2⟩, (fun _ h => nomatch h)⟩)⟩)).nf hn3
        have d13 : ¬ q1 = q3 := fun z => by rw [← z, hA32.at (q0 := 0) rfl] at hn3; cases hn3
        have d23 : ¬ q2 = q3 := fun z => by rw [← z, hA32.at (q0 := 1) rfl] at hn3; cases hn3
        have h1 := hk3.q n1 (hA32.at (q0 := 0) rfl)
        have h2 := hk3.q n2 (hA32.at (q0 := 1) rfl)
        refine y_base (cs := [(q1, .inl (0, 108, .inl A1)), (q2, .inl (0, 108, .inl A2)), (q3, .inl (0, 108, .inl A3))]) (z_I.mk (List.forall_mem_cons.mpr ⟨h1, (List.forall_mem_cons.mpr ⟨h2, (List.forall_mem_cons.mpr ⟨h3, (fun _ h => nomatch h)⟩)⟩)⟩) (by simp [d12, d13, d23])) ?_
        refine y_astore (lv' := [(8, .ref q3), (7, .ref q2), (6, .ref q1), (5, .int 0), (4, .int 0), (3, .int 0), (2, .int 1), (0, .ref (ad 0)), (1, .int h)]) d_Lw_isFedRight_35 (by decide) rfl ?_
        refine y_iconst d_Lw_isFedRight_37 (v := 0) (by decide) ?_
        refine y_istore (lv' := [(9, .int 0), (8, .ref q3), (7, .ref q2), (6, .ref q1), (5, .int 0), (4, .int 0), (3, .int 0), (2, .int 1), (0, .ref (ad 0)), (1, .int h)]) d_Lw_isFedRight_38 (by decide) rfl ?_
        refine y_iload d_Lw_isFedRight_40 0 rfl ?_
        refine y_bipush d_Lw_isFedRight_42 (v := 9) (by decide) ?_
        refine y_icmp_ge (tgt := 345) d_Lw_isFedRight_44 (by decide) (fun c_44 => ?_) (fun c_44 => ?_)
        · exact absurd c_44 (by decide)
        · refine y_iconst d_Lw_isFedRight_47 (v := 0) (by decide) ?_
          refine y_istore (lv' := [(10, .int 0), (9, .int 0), (8, .ref q3), (7, .ref q2), (6, .ref q1), (5, .int 0), (4, .int 0), (3, .int 0), (2, .int 1), (0, .ref (ad 0)), (1, .int h)]) d_Lw_isFedRight_48 (by decide) rfl ?_
          refine y_lv (lv' := [(10, .int 0), (9, .int 0), (8, .ref q3), (7, .ref q2), (6, .ref q1), (5, .int 0), (4, .int 0), (3, .int 0), (2, .int 1), (1, .int h), (0, .ref (ad 0))]) [0, 1, 2, 3, 4, 5, 6, 7, 8, 10, 9] rfl ?_
          refine y_lv (lv' := [(10, .int 0), (9, .int 0), (8, .ref q3), (7, .ref q2), (6, .ref q1), (5, .int 0), (4, .int 0), (3, .int 0), (2, .int 1), (1, .int h), (0, .ref (ad 0))]) [0, 1, 2, 3, 4, 5, 6, 7, 8, 9, 10] rfl ?_
          refine y_lvE (lv2 := [(10, .int (nI 0)), (9, .int (nI 0)), (8, .ref q3), (7, .ref q2), (6, .ref q1), (5, .int (nI 0)), (4, .int (nI 0)), (3, .int (nI 0)), (2, .int 1), (1, .int h), (0, .ref (ad 0))]) rfl ?_
          refine y_bud (kc2 := 110) (ks2 := 660) (by omega) (by omega) (F_cells g hW3 hh n1 h1 n2 h2 n3 h3 e1 e2 e3 ?_ 200 0 0 0 0 0 (by decide) (by decide) (by decide) rfl rfl rfl)
          exact F_end g hW3 hh n1 h1 n2 h2 n3 h3 e1 e2 e3
