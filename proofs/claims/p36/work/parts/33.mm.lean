theorem C_Mm_beside (g : zG) (c s : Nat) (hc : c < 108) (hs : s < 4) : CT g M_Mm_beside [.int (nI c), .int (nI s)] [] (fun o cs1 => o = .inl (some (.int (oI (bs c s)))) ∧ cs1 = []) 0 0 := by
  rcases (show s = 0 ∨ s = 1 ∨ s = 2 ∨ s = 3 by omega) with rfl | rfl | rfl | rfl
  · by_cases h : 12 ≤ c
    · rw [show bs c 0 = some (c - 12) from (if_pos rfl).trans (if_pos h)]; exact C_Mm_beside0b g c hc h
    · rw [show bs c 0 = none from (if_pos rfl).trans (if_neg h)]; exact C_Mm_beside0a g c hc (by omega)
  · by_cases h : 0 < c % 12
    · rw [show bs c 1 = some (c - 1) from (if_neg (by decide)).trans ((if_pos rfl).trans (if_pos h))]; exact C_Mm_beside1b g c hc h
    · rw [show bs c 1 = none from (if_neg (by decide)).trans ((if_pos rfl).trans (if_neg h))]; exact C_Mm_beside1a g c hc (by omega)
  · by_cases h : c % 12 < 11
    · rw [show bs c 2 = some (c + 1) from (if_neg (by decide)).trans ((if_neg (by decide)).trans ((if_pos rfl).trans (if_pos h)))]; exact C_Mm_beside2b g c hc h
    · rw [show bs c 2 = none from (if_neg (by decide)).trans ((if_neg (by decide)).trans ((if_pos rfl).trans (if_neg h)))]; exact C_Mm_beside2a g c hc (by omega)
  · by_cases h : c < 96
    · rw [show bs c 3 = some (c + 12) from (if_neg (by decide)).trans ((if_neg (by decide)).trans ((if_neg (by decide)).trans (if_pos h)))]; exact C_Mm_beside3b g c hc h
    · rw [show bs c 3 = none from (if_neg (by decide)).trans ((if_neg (by decide)).trans ((if_neg (by decide)).trans (if_neg h)))]; exact C_Mm_beside3a g c hc (by omega)
theorem z_updk {f : Nat → Int32} {c : Nat} {k : Int32} (h : f c = k) : upd f c k = f := by
  funext x
  unfold upd
  split
  · next e => subst e; exact h.symm
  · rfl
theorem oI_nm {c s : Nat} (h : ¬ oI (bs c s) = -1) : ∃ o, bs c s = some o := by
  cases e : bs c s with
  | none => rw [e] at h; exact absurd rfl h
  | some o => exact ⟨o, rfl⟩
theorem nI_nm1 {a : Nat} (h : a < 2 ^ 31) : ¬ nI a = -1 := fun e => absurd (show nI a < 0 by rw [e]; decide) (nI_nneg h)
theorem ucF (ks : Nat → Int32) : ∀ i, (ucS ks i).1 = 0 ∨ (ucS ks i).1 = 1
  | 0 => Or.inr rfl
  | i + 1 => by
    rw [ucS]
    split
    · exact Or.inl rfl
    · split
      · exact ucF ks i
      · exact ucF ks i
theorem ucR {ks : Nat → Int32} {i : Nat} (hz : z_kind (ks i)) : ucS ks (i + 1) = (if (ucS ks i).1 = 0 ∨ ks i = 46 ∨ ks i = 107 then 0 else 1, (ucS ks i).2 + if ((ucS ks i).1 = 0 ∨ ks i = 46 ∨ ks i = 107) ∧ tmB (ks i) = true then 1 else 0) := by
  rcases ucF ks i with hf | hf
  · rcases hz with h | h | h | h | h | h
    · rw [ucS_a (by rw [h]; decide), h]; simp [hf, tmB]
    · rw [ucS_b (by rw [h]; decide) (by rw [hf, h]; decide), h]; simp [hf, tmB]
    · rw [ucS_b (by rw [h]; decide) (by rw [hf, h]; decide), h]; simp [hf, tmB]
    · rw [ucS_b (by rw [h]; decide) (by rw [hf, h]; decide), h]; simp [hf, tmB]
    · rw [ucS_c (by rw [h]; decide) (by rw [hf, h]; decide), h]; simp [hf, tmB]; exact Prod.ext hf rfl
    · rw [ucS_a (by rw [h]; decide), h]; simp [hf, tmB]
  · rcases hz with h | h | h | h | h | h
    · rw [ucS_a (by rw [h]; decide), h]; simp [hf, tmB]
    · rw [ucS_c (by rw [h]; decide) (by rw [hf, h]; decide), h]; simp [hf, tmB]; exact Prod.ext hf rfl
    · rw [ucS_c (by rw [h]; decide) (by rw [hf, h]; decide), h]; simp [hf, tmB]; exact Prod.ext hf rfl
    · rw [ucS_c (by rw [h]; decide) (by rw [hf, h]; decide), h]; simp [hf, tmB]; exact Prod.ext hf rfl
    · rw [ucS_c (by rw [h]; decide) (by rw [hf, h]; decide), h]; simp [hf, tmB]; exact Prod.ext hf rfl
    · rw [ucS_a (by rw [h]; decide), h]; simp [hf, tmB]
def dnI (p i : Nat) : Int32 := Int32.ofInt ((p : Int) - 1 - i)
theorem dn0 : ∀ p, p < 9 → nI p - 1 = dnI p 0 := by decide
theorem dn1 : ∀ p, p < 9 → ∀ i, i < p → dnI p i + (-1) = dnI p (i + 1) := by decide
theorem dnL : ∀ p, p < 9 → ∀ i, i < p → ¬ dnI p i < 0 ∧ dnI p i = nI (p - 1 - i) := by decide
theorem dnE : ∀ p, p < 9 → dnI p p < 0 := by decide
abbrev M_Mm_draw : zM := (⟨"IronpourModel", "draw", "(CIIII)I"⟩, prog_14_method_8_code, 10, (Option.some FieldType.int), 8, 179, [])
theorem d_Mm_draw_0 : decode prog_14_method_8_code 0 = .ok (.aload_n 0, 1) := zo_42 (zd_b zq_prog_14_method_8_code_0 0 rfl rfl rfl)
theorem d_Mm_draw_1 : decode prog_14_method_8_code 1 = .ok (.iconst 0, 1) := zo_3 (zd_b zq_prog_14_method_8_code_0 1 rfl rfl rfl)
theorem d_Mm_draw_2 : decode prog_14_method_8_code 2 = .ok (.putfield 84, 3) := zo_181 (d := 0) (e := 84) (zd_b zq_prog_14_method_8_code_0 2 rfl rfl rfl) (zd_b zq_prog_14_method_8_code_0 3 rfl rfl rfl) (zd_b zq_prog_14_method_8_code_0 4 rfl rfl rfl)
theorem d_Mm_draw_5 : decode prog_14_method_8_code 5 = .ok (.iload_n 2, 1) := zo_28 (zd_b zq_prog_14_method_8_code_0 5 rfl rfl rfl)
theorem d_Mm_draw_6 : decode prog_14_method_8_code 6 = .ok (.iload_n 3, 1) := zo_29 (zd_b zq_prog_14_method_8_code_0 6 rfl rfl rfl)
theorem d_Mm_draw_7 : decode prog_14_method_8_code 7 = .ok (.invokestatic 91, 3) := zo_184 (d := 0) (e := 91) (zd_b zq_prog_14_method_8_code_0 7 rfl rfl rfl) (zd_b zq_prog_14_method_8_code_0 8 rfl rfl rfl) (zd_b zq_prog_14_method_8_code_0 9 rfl rfl rfl)
theorem ok_Mm_draw_Mm_isCell : z_ok M_Mm_draw M_Mm_isCell 2 := ⟨z_mj7 (i := 187) rfl (by decide +kernel), rfl, ⟨by decide +kernel, by decide +kernel, by decide +kernel⟩, ⟨by decide, by decide⟩, z_mj1 (i := 14) rfl (by decide +kernel), rfl⟩
theorem d_Mm_draw_10 : decode prog_14_method_8_code 10 = .ok (.ifCond .eq 33, 3) := zo_153 (d := 0) (e := 33) (zd_b zq_prog_14_method_8_code_0 10 rfl rfl rfl) (zd_b zq_prog_14_method_8_code_0 11 rfl rfl rfl) (zd_b zq_prog_14_method_8_code_0 12 rfl rfl rfl) (by decide +kernel)
theorem d_Mm_draw_43 : decode prog_14_method_8_code 43 = .ok (.iconst 0, 1) := zo_3 (zd_b zq_prog_14_method_8_code_1 11 rfl rfl rfl)
theorem d_Mm_draw_44 : decode prog_14_method_8_code 44 = .ok (.istore 6, 2) := zo_54 (d := 6) (zd_b zq_prog_14_method_8_code_1 12 rfl rfl rfl) (zd_b zq_prog_14_method_8_code_1 13 rfl rfl rfl)
theorem d_Mm_draw_46 : decode prog_14_method_8_code 46 = .ok (.aload_n 0, 1) := zo_42 (zd_b zq_prog_14_method_8_code_1 14 rfl rfl rfl)
theorem d_Mm_draw_47 : decode prog_14_method_8_code 47 = .ok (.ldc 95, 2) := zo_18 (d := 95) (zd_b zq_prog_14_method_8_code_1 15 rfl rfl rfl) (zd_b zq_prog_14_method_8_code_1 16 rfl rfl rfl)
theorem d_Mm_draw_49 : decode prog_14_method_8_code 49 = .ok (.iload_n 1, 1) := zo_27 (zd_b zq_prog_14_method_8_code_1 17 rfl rfl rfl)
theorem d_Mm_draw_50 : decode prog_14_method_8_code 50 = .ok (.invokevirtual 97, 3) := zo_182 (d := 0) (e := 97) (zd_b zq_prog_14_method_8_code_1 18 rfl rfl rfl) (zd_b zq_prog_14_method_8_code_1 19 rfl rfl rfl) (zd_b zq_prog_14_method_8_code_1 20 rfl rfl rfl)
theorem ok_Mm_draw_String_indexOf_0 : z_ok M_Mm_draw M_String_indexOf_0 1 := ⟨z_mj3 (i := 58) rfl (by decide +kernel), rfl, ⟨by decide +kernel, by decide +kernel, by decide +kernel⟩, ⟨by decide, by decide⟩, z_mj1 (i := 15) rfl (by decide +kernel), rfl⟩
theorem ln_Mm_97 : Cond.methodLink "IronpourModel" 97 M_String_indexOf_0.1 ∈ z_gw := z_mj7 (i := 192) rfl (by decide +kernel)
theorem d_Mm_draw_53 : decode prog_14_method_8_code 53 = .ok (.ifCond .lt 8, 3) := zo_155 (d := 0) (e := 8) (zd_b zq_prog_14_method_8_code_1 21 rfl rfl rfl) (zd_b zq_prog_14_method_8_code_1 22 rfl rfl rfl) (zd_b zq_prog_14_method_8_code_1 23 rfl rfl rfl) (by decide +kernel)
theorem d_Mm_draw_61 : decode prog_14_method_8_code 61 = .ok (.iconst 1, 1) := zo_4 (zd_b zq_prog_14_method_8_code_1 29 rfl rfl rfl)
theorem d_Mm_draw_62 : decode prog_14_method_8_code 62 = .ok (.goto 4, 3) := zo_167 (d := 0) (e := 4) (zd_b zq_prog_14_method_8_code_1 30 rfl rfl rfl) (zd_b zq_prog_14_method_8_code_1 31 rfl rfl rfl) (zd_b zq_prog_14_method_8_code_2 0 rfl rfl rfl) (by decide +kernel)
theorem d_Mm_draw_66 : decode prog_14_method_8_code 66 = .ok (.iconst 1, 1) := zo_4 (zd_b zq_prog_14_method_8_code_2 2 rfl rfl rfl)
theorem d_Mm_draw_67 : decode prog_14_method_8_code 67 = .ok (.invokevirtual 103, 3) := zo_182 (d := 0) (e := 103) (zd_b zq_prog_14_method_8_code_2 3 rfl rfl rfl) (zd_b zq_prog_14_method_8_code_2 4 rfl rfl rfl) (zd_b zq_prog_14_method_8_code_2 5 rfl rfl rfl)
theorem ok_Mm_draw_Mm_fails : z_ok M_Mm_draw M_Mm_fails 2 := ⟨z_mj7 (i := 196) rfl (by decide +kernel), rfl, ⟨by decide +kernel, by decide +kernel, by decide +kernel⟩, ⟨by decide, by decide⟩, z_mj1 (i := 14) rfl (by decide +kernel), rfl⟩
theorem d_Mm_draw_70 : decode prog_14_method_8_code 70 = .ok (.ifCond .eq 5, 3) := zo_153 (d := 0) (e := 5) (zd_b zq_prog_14_method_8_code_2 6 rfl rfl rfl) (zd_b zq_prog_14_method_8_code_2 7 rfl rfl rfl) (zd_b zq_prog_14_method_8_code_2 8 rfl rfl rfl) (by decide +kernel)
theorem d_Mm_draw_73 : decode prog_14_method_8_code 73 = .ok (.iconst 0, 1) := zo_3 (zd_b zq_prog_14_method_8_code_2 9 rfl rfl rfl)
theorem d_Mm_draw_74 : decode prog_14_method_8_code 74 = .ok (.ireturn, 1) := zo_172 (zd_b zq_prog_14_method_8_code_2 10 rfl rfl rfl)
theorem d_Mm_draw_56 : decode prog_14_method_8_code 56 = .ok (.iload 6, 2) := zo_21 (d := 6) (zd_b zq_prog_14_method_8_code_1 24 rfl rfl rfl) (zd_b zq_prog_14_method_8_code_1 25 rfl rfl rfl)
theorem d_Mm_draw_58 : decode prog_14_method_8_code 58 = .ok (.ifCond .ne 7, 3) := zo_154 (d := 0) (e := 7) (zd_b zq_prog_14_method_8_code_1 26 rfl rfl rfl) (zd_b zq_prog_14_method_8_code_1 27 rfl rfl rfl) (zd_b zq_prog_14_method_8_code_1 28 rfl rfl rfl) (by decide +kernel)
theorem d_Mm_draw_13 : decode prog_14_method_8_code 13 = .ok (.iload 4, 2) := zo_21 (d := 4) (zd_b zq_prog_14_method_8_code_0 13 rfl rfl rfl) (zd_b zq_prog_14_method_8_code_0 14 rfl rfl rfl)
theorem d_Mm_draw_15 : decode prog_14_method_8_code 15 = .ok (.iconst 1, 1) := zo_4 (zd_b zq_prog_14_method_8_code_0 15 rfl rfl rfl)
theorem d_Mm_draw_16 : decode prog_14_method_8_code 16 = .ok (.bipush 12, 2) := zo_16 (d := 12) (zd_b zq_prog_14_method_8_code_0 16 rfl rfl rfl) (zd_b zq_prog_14_method_8_code_0 17 rfl rfl rfl) (by decide +kernel)
theorem d_Mm_draw_18 : decode prog_14_method_8_code 18 = .ok (.iload_n 2, 1) := zo_28 (zd_b zq_prog_14_method_8_code_0 18 rfl rfl rfl)
theorem d_Mm_draw_19 : decode prog_14_method_8_code 19 = .ok (.isub, 1) := zo_100 (zd_b zq_prog_14_method_8_code_0 19 rfl rfl rfl)
theorem d_Mm_draw_20 : decode prog_14_method_8_code 20 = .ok (.invokestatic 87, 3) := zo_184 (d := 0) (e := 87) (zd_b zq_prog_14_method_8_code_0 20 rfl rfl rfl) (zd_b zq_prog_14_method_8_code_0 21 rfl rfl rfl) (zd_b zq_prog_14_method_8_code_0 22 rfl rfl rfl)
theorem ok_Mm_draw_Mm_in : z_ok M_Mm_draw M_Mm_in 3 := ⟨z_mj7 (i := 190) rfl (by decide +kernel), rfl, ⟨by decide +kernel, by decide +kernel, by decide +kernel⟩, ⟨by decide, by decide⟩, z_mj1 (i := 14) rfl (by decide +kernel), rfl⟩
theorem d_Mm_draw_23 : decode prog_14_method_8_code 23 = .ok (.ifCond .eq 20, 3) := zo_153 (d := 0) (e := 20) (zd_b zq_prog_14_method_8_code_0 23 rfl rfl rfl) (zd_b zq_prog_14_method_8_code_0 24 rfl rfl rfl) (zd_b zq_prog_14_method_8_code_0 25 rfl rfl rfl) (by decide +kernel)
theorem d_Mm_draw_26 : decode prog_14_method_8_code 26 = .ok (.iload 5, 2) := zo_21 (d := 5) (zd_b zq_prog_14_method_8_code_0 26 rfl rfl rfl) (zd_b zq_prog_14_method_8_code_0 27 rfl rfl rfl)
theorem d_Mm_draw_28 : decode prog_14_method_8_code 28 = .ok (.iconst 1, 1) := zo_4 (zd_b zq_prog_14_method_8_code_0 28 rfl rfl rfl)
theorem d_Mm_draw_29 : decode prog_14_method_8_code 29 = .ok (.bipush 9, 2) := zo_16 (d := 9) (zd_b zq_prog_14_method_8_code_0 29 rfl rfl rfl) (zd_b zq_prog_14_method_8_code_0 30 rfl rfl rfl) (by decide +kernel)
theorem d_Mm_draw_31 : decode prog_14_method_8_code 31 = .ok (.iload_n 3, 1) := zo_29 (zd_b zq_prog_14_method_8_code_0 31 rfl rfl rfl)
theorem d_Mm_draw_32 : decode prog_14_method_8_code 32 = .ok (.isub, 1) := zo_100 (zd_b zq_prog_14_method_8_code_1 0 rfl rfl rfl)
theorem d_Mm_draw_33 : decode prog_14_method_8_code 33 = .ok (.invokestatic 87, 3) := zo_184 (d := 0) (e := 87) (zd_b zq_prog_14_method_8_code_1 1 rfl rfl rfl) (zd_b zq_prog_14_method_8_code_1 2 rfl rfl rfl) (zd_b zq_prog_14_method_8_code_1 3 rfl rfl rfl)
theorem d_Mm_draw_36 : decode prog_14_method_8_code 36 = .ok (.ifCond .eq 7, 3) := zo_153 (d := 0) (e := 7) (zd_b zq_prog_14_method_8_code_1 4 rfl rfl rfl) (zd_b zq_prog_14_method_8_code_1 5 rfl rfl rfl) (zd_b zq_prog_14_method_8_code_1 6 rfl rfl rfl) (by decide +kernel)
theorem d_Mm_draw_39 : decode prog_14_method_8_code 39 = .ok (.iconst 1, 1) := zo_4 (zd_b zq_prog_14_method_8_code_1 7 rfl rfl rfl)
theorem d_Mm_draw_40 : decode prog_14_method_8_code 40 = .ok (.goto 4, 3) := zo_167 (d := 0) (e := 4) (zd_b zq_prog_14_method_8_code_1 8 rfl rfl rfl) (zd_b zq_prog_14_method_8_code_1 9 rfl rfl rfl) (zd_b zq_prog_14_method_8_code_1 10 rfl rfl rfl) (by decide +kernel)
set_option maxHeartbeats 4000000 in
set_option maxRecDepth 100000 in
theorem C_Mm_drawE (g : zG) (m mp mf mh mn mt mz mc_ mq mgr ml mi mr mm mu mk mx : Nat) (th pt cl wa co_ fi bu ho lh mg wd fpi fal : Int32) (po de : Int64) (f : Nat → Int32) (k x y w v : Int32) (hd : ¬ (0 ≤ z_ix 0 k ∧ (0 ≤ x ∧ x < 12 ∧ 0 ≤ y ∧ y < 9) ∧ 1 ≤ w ∧ w ≤ 12 - x ∧ 1 ≤ v ∧ v ≤ 9 - y)) : CT g M_Mm_draw [.ref m, .int k, .int x, .int y, .int w, .int v] [(m, .inr (12, [.int th, .ref mp, .int pt, .ref mf, .ref mh, .ref mn, .ref mt, .ref mz, .ref mc_, .ref mq, .ref mgr, .int cl, .int wa, .int co_, .int fi, .int bu, .int ho, .ref ml, .ref mi, .ref mr, .int lh, .int mg, .int wd, .int fpi, .int fal, .ref mm, .ref mu, .ref mk, .ref mx, .long po, .long de])), (mp, .inl (1, 108, .inl f))] (fun o cs1 => o = .inl (some (.int 0)) ∧ cs1 = [(m, .inr (12, [.int 1, .ref mp, .int pt, .ref mf, .ref mh, .ref mn, .ref mt, .ref mz, .ref mc_, .ref mq, .ref mgr, .int cl, .int wa, .int co_, .int fi, .int bu, .int ho, .ref ml, .ref mi, .ref mr, .int lh, .int mg, .int wd, .int fpi, .int fal, .ref mm, .ref mu, .ref mk, .ref mx, .long po, .long de])), (mp, .inl (1, 108, .inl f))]) 0 0 := by
  refine z_of (by decide) rfl (Nat.le_of_ble_eq_true rfl) (fun w0 => ?_)
  refine r_lvE (lv2 := [(0, .ref m), (1, .int k), (2, .int x), (3, .int y), (4, .int w), (5, .int v)]) rfl ?_
  refine r_aload_n d_Mm_draw_0 rfl 0 rfl ?_
  refine r_iconst d_Mm_draw_1 (v := 0) (by decide) ?_
  refine r_put fp_Mm_84 d_Mm_draw_2 (fun h => nomatch h) rfl rfl (q0 := 0) rfl (Nat.le_of_ble_eq_true rfl) (cs' := [(m, .inr (12, [.int 0, .ref mp, .int pt, .ref mf, .ref mh, .ref mn, .ref mt, .ref mz, .ref mc_, .ref mq, .ref mgr, .int cl, .int wa, .int co_, .int fi, .int bu, .int ho, .ref ml, .ref mi, .ref mr, .int lh, .int mg, .int wd, .int fpi, .int fal, .ref mm, .ref mu, .ref mk, .ref mx, .long po, .long de])), (mp, .inl (1, 108, .inl f))]) rfl ?_
  refine r_iload_n d_Mm_draw_5 rfl 2 rfl ?_
  refine r_iload_n d_Mm_draw_6 rfl 3 rfl ?_
  refine r_callS (As := [.int x, .int y]) (rest := []) (csC := []) (is := []) ln_Mm_91 w_st_Mm_isCell ok_Mm_draw_Mm_isCell d_Mm_draw_7 (C_Mm_isCell g x y) rfl rfl (Nat.le_of_ble_eq_true rfl) rfl (by decide) (by omega) (by omega) (fun E cs1 hx => ?_) (fun v cs1 hx => ?_)
  · exact absurd hx.1 (by simp)
  · obtain ⟨e1, rfl⟩ := hx
    cases e1
    refine ⟨rfl, ?_⟩
    refine r_st (st2 := [.int (if 0 ≤ x ∧ x < 12 ∧ 0 ≤ y ∧ y < 9 then 1 else 0)]) rfl ?_
    refine r_cs (cs2 := [(m, .inr (12, [.int 0, .ref mp, .int pt, .ref mf, .ref mh, .ref mn, .ref mt, .ref mz, .ref mc_, .ref mq, .ref mgr, .int cl, .int wa, .int co_, .int fi, .int bu, .int ho, .ref ml, .ref mi, .ref mr, .int lh, .int mg, .int wd, .int fpi, .int fal, .ref mm, .ref mu, .ref mk, .ref mx, .long po, .long de])), (mp, .inl (1, 108, .inl f))]) rfl ?_
    refine r_if_eq (tgt := 43) d_Mm_draw_10 (by decide) (fun c_10 => ?_) (fun c_10 => ?_)
    · refine r_iconst d_Mm_draw_43 (v := 0) (by decide) ?_
      refine r_istore (lv' := [(6, .int 0), (0, .ref m), (1, .int k), (2, .int x), (3, .int y), (4, .int w), (5, .int v)]) d_Mm_draw_44 (by decide) rfl ?_
      refine r_aload_n d_Mm_draw_46 rfl 1 rfl ?_
      refine r_ldcS (own := "IronpourModel") (i := 0) (by decide) d_Mm_draw_47 ?_
      refine r_iload_n d_Mm_draw_49 rfl 2 rfl ?_
      refine r_callVS (As := [.int k]) (rest := [.ref m]) (csC := []) (is := []) (i := 0) (by first | assumption | decide) rfl ln_Mm_97 w_im_String_indexOf_0 w_se_String_indexOf_0 ok_Mm_draw_String_indexOf_0 d_Mm_draw_50 (C_St_indexOf g 0 (by decide) k) rfl rfl (Nat.le_of_ble_eq_true rfl) rfl (by decide) (by omega) (by omega) (fun E cs1 hx => ?_) (fun v cs1 hx => ?_)
      · exact absurd hx.1 (by simp)
      · obtain ⟨e1, rfl⟩ := hx
        cases e1
        refine ⟨rfl, ?_⟩
        refine r_st (st2 := [.int (z_ix 0 k), .ref m]) rfl ?_
        refine r_cs (cs2 := [(m, .inr (12, [.int 0, .ref mp, .int pt, .ref mf, .ref mh, .ref mn, .ref mt, .ref mz, .ref mc_, .ref mq, .ref mgr, .int cl, .int wa, .int co_, .int fi, .int bu, .int ho, .ref ml, .ref mi, .ref mr, .int lh, .int mg, .int wd, .int fpi, .int fal, .ref mm, .ref mu, .ref mk, .ref mx, .long po, .long de])), (mp, .inl (1, 108, .inl f))]) rfl ?_
        refine r_if_lt (tgt := 61) d_Mm_draw_53 (by decide) (fun c_53 => ?_) (fun c_53 => ?_)
        · refine r_iconst d_Mm_draw_61 (v := 1) (by decide) ?_
          refine r_goto (tgt := 66) d_Mm_draw_62 (by decide) ?_
          refine r_iconst d_Mm_draw_66 (v := 1) (by decide) ?_
          refine r_callV (As := [.int 1, .int 1]) (rest := []) (csC := [(m, .inr (12, [.int 0, .ref mp, .int pt, .ref mf, .ref mh, .ref mn, .ref mt, .ref mz, .ref mc_, .ref mq, .ref mgr, .int cl, .int wa, .int co_, .int fi, .int bu, .int ho, .ref ml, .ref mi, .ref mr, .int lh, .int mg, .int wd, .int fpi, .int fal, .ref mm, .ref mu, .ref mk, .ref mx, .long po, .long de]))]) (is := [0]) (q0 := 0) rfl rfl ln_Mm_103 w_im_Mm_fails w_se_Mm_fails ok_Mm_draw_Mm_fails d_Mm_draw_67 (C_Mm_fails1 g m mp mf mh mn mt mz mc_ mq mgr ml mi mr mm mu mk mx th pt cl wa co_ fi bu ho lh mg wd fpi fal po de) rfl rfl (Nat.le_of_ble_eq_true rfl) rfl (by decide) (by omega) (by omega) (fun E cs1 hx => ?_) (fun v cs1 hx => ?_)
          · exact absurd hx.1 (by simp)
          · obtain ⟨e1, rfl⟩ := hx
            cases e1
            refine ⟨rfl, ?_⟩
            refine r_st (st2 := [.int 1]) rfl ?_
            refine r_cs (cs2 := [(m, .inr (12, [.int 1, .ref mp, .int pt, .ref mf, .ref mh, .ref mn, .ref mt, .ref mz, .ref mc_, .ref mq, .ref mgr, .int cl, .int wa, .int co_, .int fi, .int bu, .int ho, .ref ml, .ref mi, .ref mr, .int lh, .int mg, .int wd, .int fpi, .int fal, .ref mm, .ref mu, .ref mk, .ref mx, .long po, .long de])), (mp, .inl (1, 108, .inl f))]) rfl ?_
            refine r_if_eq (tgt := 75) d_Mm_draw_70 (by decide) (fun c_70 => ?_) (fun c_70 => ?_)
            · exact absurd c_70 (by decide)
            · refine r_iconst d_Mm_draw_73 (v := 0) (by decide) ?_
              refine r_iret d_Mm_draw_74 rfl rfl ?_
              exact ⟨rfl, rfl⟩
        · refine r_iload d_Mm_draw_56 0 rfl ?_
          refine r_if_ne (tgt := 65) d_Mm_draw_58 (by decide) (fun c_58 => ?_) (fun c_58 => ?_)
          · exact absurd c_58 (by decide)
          · refine r_iconst d_Mm_draw_61 (v := 1) (by decide) ?_
            refine r_goto (tgt := 66) d_Mm_draw_62 (by decide) ?_
            refine r_iconst d_Mm_draw_66 (v := 1) (by decide) ?_
            refine r_callV (As := [.int 1, .int 1]) (rest := []) (csC := [(m, .inr (12, [.int 0, .ref mp, .int pt, .ref mf, .ref mh, .ref mn, .ref mt, .ref mz, .ref mc_, .ref mq, .ref mgr, .int cl, .int wa, .int co_, .int fi, .int bu, .int ho, .ref ml, .ref mi, .ref mr, .int lh, .int mg, .int wd, .int fpi, .int fal, .ref mm, .ref mu, .ref mk, .ref mx, .long po, .long de]))]) (is := [0]) (q0 := 0) rfl rfl ln_Mm_103 w_im_Mm_fails w_se_Mm_fails ok_Mm_draw_Mm_fails d_Mm_draw_67 (C_Mm_fails1 g m mp mf mh mn mt mz mc_ mq mgr ml mi mr mm mu mk mx th pt cl wa co_ fi bu ho lh mg wd fpi fal po de) rfl rfl (Nat.le_of_ble_eq_true rfl) rfl (by decide) (by omega) (by omega) (fun E cs1 hx => ?_) (fun v cs1 hx => ?_)
            · exact absurd hx.1 (by simp)
            · obtain ⟨e1, rfl⟩ := hx
              cases e1
              refine ⟨rfl, ?_⟩
              refine r_st (st2 := [.int 1]) rfl ?_
              refine r_cs (cs2 := [(m, .inr (12, [.int 1, .ref mp, .int pt, .ref mf, .ref mh, .ref mn, .ref mt, .ref mz, .ref mc_, .ref mq, .ref mgr, .int cl, .int wa, .int co_, .int fi, .int bu, .int ho, .ref ml, .ref mi, .ref mr, .int lh, .int mg, .int wd, .int fpi, .int fal, .ref mm, .ref mu, .ref mk, .ref mx, .long po, .long de])), (mp, .inl (1, 108, .inl f))]) rfl ?_
              refine r_if_eq (tgt := 75) d_Mm_draw_70 (by decide) (fun c_70 => ?_) (fun c_70 => ?_)
              · exact absurd c_70 (by decide)
              · refine r_iconst d_Mm_draw_73 (v := 0) (by decide) ?_
                refine r_iret d_Mm_draw_74 rfl rfl ?_
                exact ⟨rfl, rfl⟩
    · refine r_iload d_Mm_draw_13 4 rfl ?_
      refine r_iconst d_Mm_draw_15 (v := 1) (by decide) ?_
      refine r_bipush d_Mm_draw_16 (v := 12) (by decide) ?_
      refine r_iload_n d_Mm_draw_18 rfl 2 rfl ?_
      refine r_isub d_Mm_draw_19 (v := 12 - x) rfl ?_
      refine r_callS (As := [.int w, .int 1, .int (12 - x)]) (rest := []) (csC := []) (is := []) ln_Mm_87 w_st_Mm_in ok_Mm_draw_Mm_in d_Mm_draw_20 (C_Mm_in g w 1 (12 - x)) rfl rfl (Nat.le_of_ble_eq_true rfl) rfl (by decide) (by omega) (by omega) (fun E cs1 hx => ?_) (fun v cs1 hx => ?_)
      · exact absurd hx.1 (by simp)
      · obtain ⟨e1, rfl⟩ := hx
        cases e1
        refine ⟨rfl, ?_⟩
        refine r_st (st2 := [.int (if 1 ≤ w ∧ w ≤ 12 - x then 1 else 0)]) rfl ?_
        refine r_cs (cs2 := [(m, .inr (12, [.int 0, .ref mp, .int pt, .ref mf, .ref mh, .ref mn, .ref mt, .ref mz, .ref mc_, .ref mq, .ref mgr, .int cl, .int wa, .int co_, .int fi, .int bu, .int ho, .ref ml, .ref mi, .ref mr, .int lh, .int mg, .int wd, .int fpi, .int fal, .ref mm, .ref mu, .ref mk, .ref mx, .long po, .long de])), (mp, .inl (1, 108, .inl f))]) rfl ?_
        refine r_if_eq (tgt := 43) d_Mm_draw_23 (by decide) (fun c_23 => ?_) (fun c_23 => ?_)
        · refine r_iconst d_Mm_draw_43 (v := 0) (by decide) ?_
          refine r_istore (lv' := [(6, .int 0), (0, .ref m), (1, .int k), (2, .int x), (3, .int y), (4, .int w), (5, .int v)]) d_Mm_draw_44 (by decide) rfl ?_
          refine r_aload_n d_Mm_draw_46 rfl 1 rfl ?_
          refine r_ldcS (own := "IronpourModel") (i := 0) (by decide) d_Mm_draw_47 ?_
          refine r_iload_n d_Mm_draw_49 rfl 2 rfl ?_
          refine r_callVS (As := [.int k]) (rest := [.ref m]) (csC := []) (is := []) (i := 0) (by first | assumption | decide) rfl ln_Mm_97 w_im_String_indexOf_0 w_se_String_indexOf_0 ok_Mm_draw_String_indexOf_0 d_Mm_draw_50 (C_St_indexOf g 0 (by decide) k) rfl rfl (Nat.le_of_ble_eq_true rfl) rfl (by decide) (by omega) (by omega) (fun E cs1 hx => ?_) (fun v cs1 hx => ?_)
          · exact absurd hx.1 (by simp)
          · obtain ⟨e1, rfl⟩ := hx
            cases e1
            refine ⟨rfl, ?_⟩
            refine r_st (st2 := [.int (z_ix 0 k), .ref m]) rfl ?_
            refine r_cs (cs2 := [(m, .inr (12, [.int 0, .ref mp, .int pt, .ref mf, .ref mh, .ref mn, .ref mt, .ref mz, .ref mc_, .ref mq, .ref mgr, .int cl, .int wa, .int co_, .int fi, .int bu, .int ho, .ref ml, .ref mi, .ref mr, .int lh, .int mg, .int wd, .int fpi, .int fal, .ref mm, .ref mu, .ref mk, .ref mx, .long po, .long de])), (mp, .inl (1, 108, .inl f))]) rfl ?_
            refine r_if_lt (tgt := 61) d_Mm_draw_53 (by decide) (fun c_53 => ?_) (fun c_53 => ?_)
            · refine r_iconst d_Mm_draw_61 (v := 1) (by decide) ?_
              refine r_goto (tgt := 66) d_Mm_draw_62 (by decide) ?_
              refine r_iconst d_Mm_draw_66 (v := 1) (by decide) ?_
              refine r_callV (As := [.int 1, .int 1]) (rest := []) (csC := [(m, .inr (12, [.int 0, .ref mp, .int pt, .ref mf, .ref mh, .ref mn, .ref mt, .ref mz, .ref mc_, .ref mq, .ref mgr, .int cl, .int wa, .int co_, .int fi, .int bu, .int ho, .ref ml, .ref mi, .ref mr, .int lh, .int mg, .int wd, .int fpi, .int fal, .ref mm, .ref mu, .ref mk, .ref mx, .long po, .long de]))]) (is := [0]) (q0 := 0) rfl rfl ln_Mm_103 w_im_Mm_fails w_se_Mm_fails ok_Mm_draw_Mm_fails d_Mm_draw_67 (C_Mm_fails1 g m mp mf mh mn mt mz mc_ mq mgr ml mi mr mm mu mk mx th pt cl wa co_ fi bu ho lh mg wd fpi fal po de) rfl rfl (Nat.le_of_ble_eq_true rfl) rfl (by decide) (by omega) (by omega) (fun E cs1 hx => ?_) (fun v cs1 hx => ?_)
              · exact absurd hx.1 (by simp)
              · obtain ⟨e1, rfl⟩ := hx
                cases e1
                refine ⟨rfl, ?_⟩
                refine r_st (st2 := [.int 1]) rfl ?_
                refine r_cs (cs2 := [(m, .inr (12, [.int 1, .ref mp, .int pt, .ref mf, .ref mh, .ref mn, .ref mt, .ref mz, .ref mc_, .ref mq, .ref mgr, .int cl, .int wa, .int co_, .int fi, .int bu, .int ho, .ref ml, .ref mi, .ref mr, .int lh, .int mg, .int wd, .int fpi, .int fal, .ref mm, .ref mu, .ref mk, .ref mx, .long po, .long de])), (mp, .inl (1, 108, .inl f))]) rfl ?_
                refine r_if_eq (tgt := 75) d_Mm_draw_70 (by decide) (fun c_70 => ?_) (fun c_70 => ?_)
                · exact absurd c_70 (by decide)
                · refine r_iconst d_Mm_draw_73 (v := 0) (by decide) ?_
                  refine r_iret d_Mm_draw_74 rfl rfl ?_
                  exact ⟨rfl, rfl⟩
            · refine r_iload d_Mm_draw_56 0 rfl ?_
              refine r_if_ne (tgt := 65) d_Mm_draw_58 (by decide) (fun c_58 => ?_) (fun c_58 => ?_)
              · exact absurd c_58 (by decide)
              · refine r_iconst d_Mm_draw_61 (v := 1) (by decide) ?_
                refine r_goto (tgt := 66) d_Mm_draw_62 (by decide) ?_
                refine r_iconst d_Mm_draw_66 (v := 1) (by decide) ?_
                refine r_callV (As := [.int 1, .int 1]) (rest := []) (csC := [(m, .inr (12, [.int 0, .ref mp, .int pt, .ref mf, .ref mh, .ref mn, .ref mt, .ref mz, .ref mc_, .ref mq, .ref mgr, .int cl, .int wa, .int co_, .int fi, .int bu, .int ho, .ref ml, .ref mi, .ref mr, .int lh, .int mg, .int wd, .int fpi, .int fal, .ref mm, .ref mu, .ref mk, .ref mx, .long po, .long de]))]) (is := [0]) (q0 := 0) rfl rfl ln_Mm_103 w_im_Mm_fails w_se_Mm_fails ok_Mm_draw_Mm_fails d_Mm_draw_67 (C_Mm_fails1 g m mp mf mh mn mt mz mc_ mq mgr ml mi mr mm mu mk mx th pt cl wa co_ fi bu ho lh mg wd fpi fal po de) rfl rfl (Nat.le_of_ble_eq_true rfl) rfl (by decide) (by omega) (by omega) (fun E cs1 hx => ?_) (fun v cs1 hx => ?_)
                · exact absurd hx.1 (by simp)
                · obtain ⟨e1, rfl⟩ := hx
                  cases e1
                  refine ⟨rfl, ?_⟩
                  refine r_st (st2 := [.int 1]) rfl ?_
                  refine r_cs (cs2 := [(m, .inr (12, [.int 1, .ref mp, .int pt, .ref mf, .ref mh, .ref mn, .ref mt, .ref mz, .ref mc_, .ref mq, .ref mgr, .int cl, .int wa, .int co_, .int fi, .int bu, .int ho, .ref ml, .ref mi, .ref mr, .int lh, .int mg, .int wd, .int fpi, .int fal, .ref mm, .ref mu, .ref mk, .ref mx, .long po, .long de])), (mp, .inl (1, 108, .inl f))]) rfl ?_
                  refine r_if_eq (tgt := 75) d_Mm_draw_70 (by decide) (fun c_70 => ?_) (fun c_70 => ?_)
                  · exact absurd c_70 (by decide)
                  · refine r_iconst d_Mm_draw_73 (v := 0) (by decide) ?_
                    refine r_iret d_Mm_draw_74 rfl rfl ?_
                    exact ⟨rfl, rfl⟩
        · refine r_iload d_Mm_draw_26 5 rfl ?_
          refine r_iconst d_Mm_draw_28 (v := 1) (by decide) ?_
          refine r_bipush d_Mm_draw_29 (v := 9) (by decide) ?_
          refine r_iload_n d_Mm_draw_31 rfl 3 rfl ?_
          refine r_isub d_Mm_draw_32 (v := 9 - y) rfl ?_
          refine r_callS (As := [.int v, .int 1, .int (9 - y)]) (rest := []) (csC := []) (is := []) ln_Mm_87 w_st_Mm_in ok_Mm_draw_Mm_in d_Mm_draw_33 (C_Mm_in g v 1 (9 - y)) rfl rfl (Nat.le_of_ble_eq_true rfl) rfl (by decide) (by omega) (by omega) (fun E cs1 hx => ?_) (fun v cs1 hx => ?_)
          · exact absurd hx.1 (by simp)
          · obtain ⟨e1, rfl⟩ := hx
            cases e1
            refine ⟨rfl, ?_⟩
            refine r_st (st2 := [.int (if 1 ≤ v ∧ v ≤ 9 - y then 1 else 0)]) rfl ?_
            refine r_cs (cs2 := [(m, .inr (12, [.int 0, .ref mp, .int pt, .ref mf, .ref mh, .ref mn, .ref mt, .ref mz, .ref mc_, .ref mq, .ref mgr, .int cl, .int wa, .int co_, .int fi, .int bu, .int ho, .ref ml, .ref mi, .ref mr, .int lh, .int mg, .int wd, .int fpi, .int fal, .ref mm, .ref mu, .ref mk, .ref mx, .long po, .long de])), (mp, .inl (1, 108, .inl f))]) rfl ?_
            refine r_if_eq (tgt := 43) d_Mm_draw_36 (by decide) (fun c_36 => ?_) (fun c_36 => ?_)
            · refine r_iconst d_Mm_draw_43 (v := 0) (by decide) ?_
              refine r_istore (lv' := [(6, .int 0), (0, .ref m), (1, .int k), (2, .int x), (3, .int y), (4, .int w), (5, .int v)]) d_Mm_draw_44 (by decide) rfl ?_
              refine r_aload_n d_Mm_draw_46 rfl 1 rfl ?_
              refine r_ldcS (own := "IronpourModel") (i := 0) (by decide) d_Mm_draw_47 ?_
              refine r_iload_n d_Mm_draw_49 rfl 2 rfl ?_
              refine r_callVS (As := [.int k]) (rest := [.ref m]) (csC := []) (is := []) (i := 0) (by first | assumption | decide) rfl ln_Mm_97 w_im_String_indexOf_0 w_se_String_indexOf_0 ok_Mm_draw_String_indexOf_0 d_Mm_draw_50 (C_St_indexOf g 0 (by decide) k) rfl rfl (Nat.le_of_ble_eq_true rfl) rfl (by decide) (by omega) (by omega) (fun E cs1 hx => ?_) (fun v cs1 hx => ?_)
              · exact absurd hx.1 (by simp)
              · obtain ⟨e1, rfl⟩ := hx
                cases e1
                refine ⟨rfl, ?_⟩
                refine r_st (st2 := [.int (z_ix 0 k), .ref m]) rfl ?_
                refine r_cs (cs2 := [(m, .inr (12, [.int 0, .ref mp, .int pt, .ref mf, .ref mh, .ref mn, .ref mt, .ref mz, .ref mc_, .ref mq, .ref mgr, .int cl, .int wa, .int co_, .int fi, .int bu, .int ho, .ref ml, .ref mi, .ref mr, .int lh, .int mg, .int wd, .int fpi, .int fal, .ref mm, .ref mu, .ref mk, .ref mx, .long po, .long de])), (mp, .inl (1, 108, .inl f))]) rfl ?_
                refine r_if_lt (tgt := 61) d_Mm_draw_53 (by decide) (fun c_53 => ?_) (fun c_53 => ?_)
                · refine r_iconst d_Mm_draw_61 (v := 1) (by decide) ?_
                  refine r_goto (tgt := 66) d_Mm_draw_62 (by decide) ?_
                  refine r_iconst d_Mm_draw_66 (v := 1) (by decide) ?_
                  refine r_callV (As := [.int 1, .int 1]) (rest := []) (csC := [(m, .inr (12, [.int 0, .ref mp, .int pt, .ref mf, .ref mh, .ref mn, .ref mt, .ref mz, .ref mc_, .ref mq, .ref mgr, .int cl, .int wa, .int co_, .int fi, .int bu, .int ho, .ref ml, .ref mi, .ref mr, .int lh, .int mg, .int wd, .int fpi, .int fal, .ref mm, .ref mu, .ref mk, .ref mx, .long po, .long de]))]) (is := [0]) (q0 := 0) rfl rfl ln_Mm_103 w_im_Mm_fails w_se_Mm_fails ok_Mm_draw_Mm_fails d_Mm_draw_67 (C_Mm_fails1 g m mp mf mh mn mt mz mc_ mq mgr ml mi mr mm mu mk mx th pt cl wa co_ fi bu ho lh mg wd fpi fal po de) rfl rfl (Nat.le_of_ble_eq_true rfl) rfl (by decide) (by omega) (by omega) (fun E cs1 hx => ?_) (fun v cs1 hx => ?_)
                  · exact absurd hx.1 (by simp)
                  · obtain ⟨e1, rfl⟩ := hx
                    cases e1
                    refine ⟨rfl, ?_⟩
                    refine r_st (st2 := [.int 1]) rfl ?_
                    refine r_cs (cs2 := [(m, .inr (12, [.int 1, .ref mp, .int pt, .ref mf, .ref mh, .ref mn, .ref mt, .ref mz, .ref mc_, .ref mq, .ref mgr, .int cl, .int wa, .int co_, .int fi, .int bu, .int ho, .ref ml, .ref mi, .ref mr, .int lh, .int mg, .int wd, .int fpi, .int fal, .ref mm, .ref mu, .ref mk, .ref mx, .long po, .long de])), (mp, .inl (1, 108, .inl f))]) rfl ?_
                    refine r_if_eq (tgt := 75) d_Mm_draw_70 (by decide) (fun c_70 => ?_) (fun c_70 => ?_)
                    · exact absurd c_70 (by decide)
                    · refine r_iconst d_Mm_draw_73 (v := 0) (by decide) ?_
                      refine r_iret d_Mm_draw_74 rfl rfl ?_
                      exact ⟨rfl, rfl⟩
                · refine r_iload d_Mm_draw_56 0 rfl ?_
                  refine r_if_ne (tgt := 65) d_Mm_draw_58 (by decide) (fun c_58 => ?_) (fun c_58 => ?_)
                  · exact absurd c_58 (by decide)
                  · refine r_iconst d_Mm_draw_61 (v := 1) (by decide) ?_
                    refine r_goto (tgt := 66) d_Mm_draw_62 (by decide) ?_
                    refine r_iconst d_Mm_draw_66 (v := 1) (by decide) ?_
                    refine r_callV (As := [.int 1, .int 1]) (rest := []) (csC := [(m, .inr (12, [.int 0, .ref mp, .int pt, .ref mf, .ref mh, .ref mn, .ref mt, .ref mz, .ref mc_, .ref mq, .ref mgr, .int cl, .int wa, .int co_, .int fi, .int bu, .int ho, .ref ml, .ref mi, .ref mr, .int lh, .int mg, .int wd, .int fpi, .int fal, .ref mm, .ref mu, .ref mk, .ref mx, .long po, .long de]))]) (is := [0]) (q0 := 0) rfl rfl ln_Mm_103 w_im_Mm_fails w_se_Mm_fails ok_Mm_draw_Mm_fails d_Mm_draw_67 (C_Mm_fails1 g m mp mf mh mn mt mz mc_ mq mgr ml mi mr mm mu mk mx th pt cl wa co_ fi bu ho lh mg wd fpi fal po de) rfl rfl (Nat.le_of_ble_eq_true rfl) rfl (by decide) (by omega) (by omega) (fun E cs1 hx => ?_) (fun v cs1 hx => ?_)
                    · exact absurd hx.1 (by simp)
                    · obtain ⟨e1, rfl⟩ := hx
                      cases e1
                      refine ⟨rfl, ?_⟩
                      refine r_st (st2 := [.int 1]) rfl ?_
                      refine r_cs (cs2 := [(m, .inr (12, [.int 1, .ref mp, .int pt, .ref mf, .ref mh, .ref mn, .ref mt, .ref mz, .ref mc_, .ref mq, .ref mgr, .int cl, .int wa, .int co_, .int fi, .int bu, .int ho, .ref ml, .ref mi, .ref mr, .int lh, .int mg, .int wd, .int fpi, .int fal, .ref mm, .ref mu, .ref mk, .ref mx, .long po, .long de])), (mp, .inl (1, 108, .inl f))]) rfl ?_
                      refine r_if_eq (tgt := 75) d_Mm_draw_70 (by decide) (fun c_70 => ?_) (fun c_70 => ?_)
                      · exact absurd c_70 (by decide)
                      · refine r_iconst d_Mm_draw_73 (v := 0) (by decide) ?_
                        refine r_iret d_Mm_draw_74 rfl rfl ?_
                        exact ⟨rfl, rfl⟩
            · refine r_iconst d_Mm_draw_39 (v := 1) (by decide) ?_
              refine r_goto (tgt := 44) d_Mm_draw_40 (by decide) ?_
              refine r_istore (lv' := [(6, .int 1), (0, .ref m), (1, .int k), (2, .int x), (3, .int y), (4, .int w), (5, .int v)]) d_Mm_draw_44 (by decide) rfl ?_
              refine r_aload_n d_Mm_draw_46 rfl 1 rfl ?_
              refine r_ldcS (own := "IronpourModel") (i := 0) (by decide) d_Mm_draw_47 ?_
              refine r_iload_n d_Mm_draw_49 rfl 2 rfl ?_
              refine r_callVS (As := [.int k]) (rest := [.ref m]) (csC := []) (is := []) (i := 0) (by first | assumption | decide) rfl ln_Mm_97 w_im_String_indexOf_0 w_se_String_indexOf_0 ok_Mm_draw_String_indexOf_0 d_Mm_draw_50 (C_St_indexOf g 0 (by decide) k) rfl rfl (Nat.le_of_ble_eq_true rfl) rfl (by decide) (by omega) (by omega) (fun E cs1 hx => ?_) (fun v cs1 hx => ?_)
              · exact absurd hx.1 (by simp)
              · obtain ⟨e1, rfl⟩ := hx
                cases e1
                refine ⟨rfl, ?_⟩
                refine r_st (st2 := [.int (z_ix 0 k), .ref m]) rfl ?_
                refine r_cs (cs2 := [(m, .inr (12, [.int 0, .ref mp, .int pt, .ref mf, .ref mh, .ref mn, .ref mt, .ref mz, .ref mc_, .ref mq, .ref mgr, .int cl, .int wa, .int co_, .int fi, .int bu, .int ho, .ref ml, .ref mi, .ref mr, .int lh, .int mg, .int wd, .int fpi, .int fal, .ref mm, .ref mu, .ref mk, .ref mx, .long po, .long de])), (mp, .inl (1, 108, .inl f))]) rfl ?_
                refine r_if_lt (tgt := 61) d_Mm_draw_53 (by decide) (fun c_53 => ?_) (fun c_53 => ?_)
                · refine r_iconst d_Mm_draw_61 (v := 1) (by decide) ?_
                  refine r_goto (tgt := 66) d_Mm_draw_62 (by decide) ?_
                  refine r_iconst d_Mm_draw_66 (v := 1) (by decide) ?_
                  refine r_callV (As := [.int 1, .int 1]) (rest := []) (csC := [(m, .inr (12, [.int 0, .ref mp, .int pt, .ref mf, .ref mh, .ref mn, .ref mt, .ref mz, .ref mc_, .ref mq, .ref mgr, .int cl, .int wa, .int co_, .int fi, .int bu, .int ho, .ref ml, .ref mi, .ref mr, .int lh, .int mg, .int wd, .int fpi, .int fal, .ref mm, .ref mu, .ref mk, .ref mx, .long po, .long de]))]) (is := [0]) (q0 := 0) rfl rfl ln_Mm_103 w_im_Mm_fails w_se_Mm_fails ok_Mm_draw_Mm_fails d_Mm_draw_67 (C_Mm_fails1 g m mp mf mh mn mt mz mc_ mq mgr ml mi mr mm mu mk mx th pt cl wa co_ fi bu ho lh mg wd fpi fal po de) rfl rfl (Nat.le_of_ble_eq_true rfl) rfl (by decide) (by omega) (by omega) (fun E cs1 hx => ?_) (fun v cs1 hx => ?_)
                  · exact absurd hx.1 (by simp)
                  · obtain ⟨e1, rfl⟩ := hx
                    cases e1
                    refine ⟨rfl, ?_⟩
                    refine r_st (st2 := [.int 1]) rfl ?_
                    refine r_cs (cs2 := [(m, .inr (12, [.int 1, .ref mp, .int pt, .ref mf, .ref mh, .ref mn, .ref mt, .ref mz, .ref mc_, .ref mq, .ref mgr, .int cl, .int wa, .int co_, .int fi, .int bu, .int ho, .ref ml, .ref mi, .ref mr, .int lh, .int mg, .int wd, .int fpi, .int fal, .ref mm, .ref mu, .ref mk, .ref mx, .long po, .long de])), (mp, .inl (1, 108, .inl f))]) rfl ?_
                    refine r_if_eq (tgt := 75) d_Mm_draw_70 (by decide) (fun c_70 => ?_) (fun c_70 => ?_)
                    · exact absurd c_70 (by decide)
                    · refine r_iconst d_Mm_draw_73 (v := 0) (by decide) ?_
                      refine r_iret d_Mm_draw_74 rfl rfl ?_
                      exact ⟨rfl, rfl⟩
                · refine r_iload d_Mm_draw_56 0 rfl ?_
                  refine r_if_ne (tgt := 65) d_Mm_draw_58 (by decide) (fun c_58 => ?_) (fun c_58 => ?_)
                  · exact absurd ⟨Int32.not_lt.mp c_53, z_b1 c_10, (z_b1 c_23).1, (z_b1 c_23).2, (z_b1 c_36).1, (z_b1 c_36).2⟩ hd
                  · exact absurd c_58 (by decide)
theorem d_Mm_draw_93 : decode prog_14_method_8_code 93 = .ok (.iload 9, 2) := zo_21 (d := 9) (zd_b zq_prog_14_method_8_code_2 29 rfl rfl rfl) (zd_b zq_prog_14_method_8_code_2 30 rfl rfl rfl)
theorem d_Mm_draw_95 : decode prog_14_method_8_code 95 = .ok (.iload_n 2, 1) := zo_28 (zd_b zq_prog_14_method_8_code_2 31 rfl rfl rfl)
theorem d_Mm_draw_96 : decode prog_14_method_8_code 96 = .ok (.iload 4, 2) := zo_21 (d := 4) (zd_b zq_prog_14_method_8_code_3 0 rfl rfl rfl) (zd_b zq_prog_14_method_8_code_3 1 rfl rfl rfl)
theorem d_Mm_draw_98 : decode prog_14_method_8_code 98 = .ok (.iadd, 1) := zo_96 (zd_b zq_prog_14_method_8_code_3 2 rfl rfl rfl)
theorem d_Mm_draw_99 : decode prog_14_method_8_code 99 = .ok (.if_icmp .ge 50, 3) := zo_162 (d := 0) (e := 50) (zd_b zq_prog_14_method_8_code_3 3 rfl rfl rfl) (zd_b zq_prog_14_method_8_code_3 4 rfl rfl rfl) (zd_b zq_prog_14_method_8_code_3 5 rfl rfl rfl) (by decide +kernel)
theorem d_Mm_draw_102 : decode prog_14_method_8_code 102 = .ok (.iload 7, 2) := zo_21 (d := 7) (zd_b zq_prog_14_method_8_code_3 6 rfl rfl rfl) (zd_b zq_prog_14_method_8_code_3 7 rfl rfl rfl)
theorem d_Mm_draw_104 : decode prog_14_method_8_code 104 = .ok (.aload_n 0, 1) := zo_42 (zd_b zq_prog_14_method_8_code_3 8 rfl rfl rfl)
theorem d_Mm_draw_105 : decode prog_14_method_8_code 105 = .ok (.getfield 7, 3) := zo_180 (d := 0) (e := 7) (zd_b zq_prog_14_method_8_code_3 9 rfl rfl rfl) (zd_b zq_prog_14_method_8_code_3 10 rfl rfl rfl) (zd_b zq_prog_14_method_8_code_3 11 rfl rfl rfl)
theorem d_Mm_draw_108 : decode prog_14_method_8_code 108 = .ok (.bipush 12, 2) := zo_16 (d := 12) (zd_b zq_prog_14_method_8_code_3 12 rfl rfl rfl) (zd_b zq_prog_14_method_8_code_3 13 rfl rfl rfl) (by decide +kernel)
theorem d_Mm_draw_110 : decode prog_14_method_8_code 110 = .ok (.iload 8, 2) := zo_21 (d := 8) (zd_b zq_prog_14_method_8_code_3 14 rfl rfl rfl) (zd_b zq_prog_14_method_8_code_3 15 rfl rfl rfl)
theorem d_Mm_draw_112 : decode prog_14_method_8_code 112 = .ok (.imul, 1) := zo_104 (zd_b zq_prog_14_method_8_code_3 16 rfl rfl rfl)
theorem d_Mm_draw_113 : decode prog_14_method_8_code 113 = .ok (.iload 9, 2) := zo_21 (d := 9) (zd_b zq_prog_14_method_8_code_3 17 rfl rfl rfl) (zd_b zq_prog_14_method_8_code_3 18 rfl rfl rfl)
theorem d_Mm_draw_115 : decode prog_14_method_8_code 115 = .ok (.iadd, 1) := zo_96 (zd_b zq_prog_14_method_8_code_3 19 rfl rfl rfl)
theorem d_Mm_draw_116 : decode prog_14_method_8_code 116 = .ok (.caload, 1) := zo_52 (zd_b zq_prog_14_method_8_code_3 20 rfl rfl rfl)
theorem d_Mm_draw_117 : decode prog_14_method_8_code 117 = .ok (.iload_n 1, 1) := zo_27 (zd_b zq_prog_14_method_8_code_3 21 rfl rfl rfl)
theorem d_Mm_draw_118 : decode prog_14_method_8_code 118 = .ok (.if_icmp .ne 7, 3) := zo_160 (d := 0) (e := 7) (zd_b zq_prog_14_method_8_code_3 22 rfl rfl rfl) (zd_b zq_prog_14_method_8_code_3 23 rfl rfl rfl) (zd_b zq_prog_14_method_8_code_3 24 rfl rfl rfl) (by decide +kernel)
theorem d_Mm_draw_125 : decode prog_14_method_8_code 125 = .ok (.iconst 1, 1) := zo_4 (zd_b zq_prog_14_method_8_code_3 29 rfl rfl rfl)
theorem d_Mm_draw_126 : decode prog_14_method_8_code 126 = .ok (.iadd, 1) := zo_96 (zd_b zq_prog_14_method_8_code_3 30 rfl rfl rfl)
theorem d_Mm_draw_127 : decode prog_14_method_8_code 127 = .ok (.istore 7, 2) := zo_54 (d := 7) (zd_b zq_prog_14_method_8_code_3 31 rfl rfl rfl) (zd_b zq_prog_14_method_8_code_4 0 rfl rfl rfl)
theorem d_Mm_draw_129 : decode prog_14_method_8_code 129 = .ok (.aload_n 0, 1) := zo_42 (zd_b zq_prog_14_method_8_code_4 1 rfl rfl rfl)
theorem d_Mm_draw_130 : decode prog_14_method_8_code 130 = .ok (.getfield 7, 3) := zo_180 (d := 0) (e := 7) (zd_b zq_prog_14_method_8_code_4 2 rfl rfl rfl) (zd_b zq_prog_14_method_8_code_4 3 rfl rfl rfl) (zd_b zq_prog_14_method_8_code_4 4 rfl rfl rfl)
theorem d_Mm_draw_133 : decode prog_14_method_8_code 133 = .ok (.bipush 12, 2) := zo_16 (d := 12) (zd_b zq_prog_14_method_8_code_4 5 rfl rfl rfl) (zd_b zq_prog_14_method_8_code_4 6 rfl rfl rfl) (by decide +kernel)
theorem d_Mm_draw_135 : decode prog_14_method_8_code 135 = .ok (.iload 8, 2) := zo_21 (d := 8) (zd_b zq_prog_14_method_8_code_4 7 rfl rfl rfl) (zd_b zq_prog_14_method_8_code_4 8 rfl rfl rfl)
theorem d_Mm_draw_137 : decode prog_14_method_8_code 137 = .ok (.imul, 1) := zo_104 (zd_b zq_prog_14_method_8_code_4 9 rfl rfl rfl)
theorem d_Mm_draw_138 : decode prog_14_method_8_code 138 = .ok (.iload 9, 2) := zo_21 (d := 9) (zd_b zq_prog_14_method_8_code_4 10 rfl rfl rfl) (zd_b zq_prog_14_method_8_code_4 11 rfl rfl rfl)
theorem d_Mm_draw_140 : decode prog_14_method_8_code 140 = .ok (.iadd, 1) := zo_96 (zd_b zq_prog_14_method_8_code_4 12 rfl rfl rfl)
theorem d_Mm_draw_141 : decode prog_14_method_8_code 141 = .ok (.iload_n 1, 1) := zo_27 (zd_b zq_prog_14_method_8_code_4 13 rfl rfl rfl)
theorem d_Mm_draw_142 : decode prog_14_method_8_code 142 = .ok (.castore, 1) := zo_85 (zd_b zq_prog_14_method_8_code_4 14 rfl rfl rfl)
theorem d_Mm_draw_143 : decode prog_14_method_8_code 143 = .ok (.iinc 9 1, 3) := by decide +kernel
theorem d_Mm_draw_146 : decode prog_14_method_8_code 146 = .ok (.goto (-53), 3) := zo_167 (d := 255) (e := 203) (zd_b zq_prog_14_method_8_code_4 18 rfl rfl rfl) (zd_b zq_prog_14_method_8_code_4 19 rfl rfl rfl) (zd_b zq_prog_14_method_8_code_4 20 rfl rfl rfl) (by decide +kernel)
theorem d_Mm_draw_121 : decode prog_14_method_8_code 121 = .ok (.iconst 0, 1) := zo_3 (zd_b zq_prog_14_method_8_code_3 25 rfl rfl rfl)
theorem d_Mm_draw_122 : decode prog_14_method_8_code 122 = .ok (.goto 4, 3) := zo_167 (d := 0) (e := 4) (zd_b zq_prog_14_method_8_code_3 26 rfl rfl rfl) (zd_b zq_prog_14_method_8_code_3 27 rfl rfl rfl) (zd_b zq_prog_14_method_8_code_3 28 rfl rfl rfl) (by decide +kernel)
theorem d_Mm_draw_81 : decode prog_14_method_8_code 81 = .ok (.iload 8, 2) := zo_21 (d := 8) (zd_b zq_prog_14_method_8_code_2 17 rfl rfl rfl) (zd_b zq_prog_14_method_8_code_2 18 rfl rfl rfl)
theorem d_Mm_draw_83 : decode prog_14_method_8_code 83 = .ok (.iload_n 3, 1) := zo_29 (zd_b zq_prog_14_method_8_code_2 19 rfl rfl rfl)
theorem d_Mm_draw_84 : decode prog_14_method_8_code 84 = .ok (.iload 5, 2) := zo_21 (d := 5) (zd_b zq_prog_14_method_8_code_2 20 rfl rfl rfl) (zd_b zq_prog_14_method_8_code_2 21 rfl rfl rfl)
theorem d_Mm_draw_86 : decode prog_14_method_8_code 86 = .ok (.iadd, 1) := zo_96 (zd_b zq_prog_14_method_8_code_2 22 rfl rfl rfl)
theorem d_Mm_draw_87 : decode prog_14_method_8_code 87 = .ok (.if_icmp .ge 68, 3) := zo_162 (d := 0) (e := 68) (zd_b zq_prog_14_method_8_code_2 23 rfl rfl rfl) (zd_b zq_prog_14_method_8_code_2 24 rfl rfl rfl) (zd_b zq_prog_14_method_8_code_2 25 rfl rfl rfl) (by decide +kernel)
theorem d_Mm_draw_155 : decode prog_14_method_8_code 155 = .ok (.iload 7, 2) := zo_21 (d := 7) (zd_b zq_prog_14_method_8_code_4 27 rfl rfl rfl) (zd_b zq_prog_14_method_8_code_4 28 rfl rfl rfl)
theorem d_Mm_draw_157 : decode prog_14_method_8_code 157 = .ok (.ireturn, 1) := zo_172 (zd_b zq_prog_14_method_8_code_4 29 rfl rfl rfl)
theorem d_Mm_draw_90 : decode prog_14_method_8_code 90 = .ok (.iload_n 2, 1) := zo_28 (zd_b zq_prog_14_method_8_code_2 26 rfl rfl rfl)
theorem d_Mm_draw_91 : decode prog_14_method_8_code 91 = .ok (.istore 9, 2) := zo_54 (d := 9) (zd_b zq_prog_14_method_8_code_2 27 rfl rfl rfl) (zd_b zq_prog_14_method_8_code_2 28 rfl rfl rfl)
theorem d_Mm_draw_149 : decode prog_14_method_8_code 149 = .ok (.iinc 8 1, 3) := by decide +kernel
theorem d_Mm_draw_152 : decode prog_14_method_8_code 152 = .ok (.goto (-71), 3) := zo_167 (d := 255) (e := 185) (zd_b zq_prog_14_method_8_code_4 24 rfl rfl rfl) (zd_b zq_prog_14_method_8_code_4 25 rfl rfl rfl) (zd_b zq_prog_14_method_8_code_4 26 rfl rfl rfl) (by decide +kernel)
theorem d_Mm_draw_65 : decode prog_14_method_8_code 65 = .ok (.iconst 0, 1) := zo_3 (zd_b zq_prog_14_method_8_code_2 1 rfl rfl rfl)
theorem d_Mm_draw_75 : decode prog_14_method_8_code 75 = .ok (.iconst 0, 1) := zo_3 (zd_b zq_prog_14_method_8_code_2 11 rfl rfl rfl)
theorem d_Mm_draw_76 : decode prog_14_method_8_code 76 = .ok (.istore 7, 2) := zo_54 (d := 7) (zd_b zq_prog_14_method_8_code_2 12 rfl rfl rfl) (zd_b zq_prog_14_method_8_code_2 13 rfl rfl rfl)
theorem d_Mm_draw_78 : decode prog_14_method_8_code 78 = .ok (.iload_n 3, 1) := zo_29 (zd_b zq_prog_14_method_8_code_2 14 rfl rfl rfl)
theorem d_Mm_draw_79 : decode prog_14_method_8_code 79 = .ok (.istore 8, 2) := zo_54 (d := 8) (zd_b zq_prog_14_method_8_code_2 15 rfl rfl rfl) (zd_b zq_prog_14_method_8_code_2 16 rfl rfl rfl)
set_option maxHeartbeats 4000000 in
set_option maxRecDepth 100000 in
theorem L_Mm_drawN_93 (g : zG) (m mp mf mh mn mt mz mc_ mq mgr ml mi mr mm mu mk mx : Nat) (th pt cl wa co_ fi bu ho lh mg wd fpi fal : Int32) (po de : Int64) (f : Nat → Int32) (kd : Int32) (hk : z_kind kd) (hki : 0 ≤ z_ix 0 kd) (x y u v : Nat) (hx : x + u ≤ 12) (hy : y + v ≤ 9) (hu : 1 ≤ u) (hv : 1 ≤ v) (w0 : zW) (n : Nat) (i : Nat) (hi : i < v) (K : DV g M_Mm_draw (fun o cs1 => o = .inl (some (.int (nI (prect kd x y u (f, 0) v).2))) ∧ cs1 = [(m, .inr (12, [.int 0, .ref mp, .int pt, .ref mf, .ref mh, .ref mn, .ref mt, .ref mz, .ref mc_, .ref mq, .ref mgr, .int cl, .int wa, .int co_, .int fi, .int bu, .int ho, .ref ml, .ref mi, .ref mr, .int lh, .int mg, .int wd, .int fpi, .int fal, .ref mm, .ref mu, .ref mk, .ref mx, .long po, .long de])), (mp, .inl (1, 108, .inl ((prect kd x y u (f, 0) v).1)))]) w0 n 149 [(9, .int (nI (x + u))), (8, .int (nI (y + i))), (7, .int (nI (prow kd (12 * (y + i) + x) (prect kd x y u (f, 0) i) u).2)), (5, .int (nI v)), (4, .int (nI u)), (3, .int (nI y)), (2, .int (nI x)), (1, .int kd), (0, .ref m)] [] [(m, .inr (12, [.int 0, .ref mp, .int pt, .ref mf, .ref mh, .ref mn, .ref mt, .ref mz, .ref mc_, .ref mq, .ref mgr, .int cl, .int wa, .int co_, .int fi, .int bu, .int ho, .ref ml, .ref mi, .ref mr, .int lh, .int mg, .int wd, .int fpi, .int fal, .ref mm, .ref mu, .ref mk, .ref mx, .long po, .long de])), (mp, .inl (1, 108, .inl ((prow kd (12 * (y + i) + x) (prect kd x y u (f, 0) i) u).1)))] 0 0) : ∀ (d j : Nat), j ≤ u → u < j + d → DV g M_Mm_draw (fun o cs1 => o = .inl (some (.int (nI (prect kd x y u (f, 0) v).2))) ∧ cs1 = [(m, .inr (12, [.int 0, .ref mp, .int pt, .ref mf, .ref mh, .ref mn, .ref mt, .ref mz, .ref mc_, .ref mq, .ref mgr, .int cl, .int wa, .int co_, .int fi, .int bu, .int ho, .ref ml, .ref mi, .ref mr, .int lh, .int mg, .int wd, .int fpi, .int fal, .ref mm, .ref mu, .ref mk, .ref mx, .long po, .long de])), (mp, .inl (1, 108, .inl ((prect kd x y u (f, 0) v).1)))]) w0 n 93 [(9, .int (nI (x + j))), (8, .int (nI (y + i))), (7, .int (nI (prow kd (12 * (y + i) + x) (prect kd x y u (f, 0) i) j).2)), (5, .int (nI v)), (4, .int (nI u)), (3, .int (nI y)), (2, .int (nI x)), (1, .int kd), (0, .ref m)] [] [(m, .inr (12, [.int 0, .ref mp, .int pt, .ref mf, .ref mh, .ref mn, .ref mt, .ref mz, .ref mc_, .ref mq, .ref mgr, .int cl, .int wa, .int co_, .int fi, .int bu, .int ho, .ref ml, .ref mi, .ref mr, .int lh, .int mg, .int wd, .int fpi, .int fal, .ref mm, .ref mu, .ref mk, .ref mx, .long po, .long de])), (mp, .inl (1, 108, .inl ((prow kd (12 * (y + i) + x) (prect kd x y u (f, 0) i) j).1)))] 0 0 := by
  intro d
  induction d with
  | zero => intro j h1 h2 ; exact absurd h2 (by omega)
  | succ d ih =>
    intro j h1 h2 
    refine r_iload d_Mm_draw_93 0 rfl ?_
    refine r_iload_n d_Mm_draw_95 rfl 6 rfl ?_
    refine r_iload d_Mm_draw_96 4 rfl ?_
    refine r_iadd d_Mm_draw_98 (v := nI (x + u)) (nI_add _ _) ?_
    refine r_icmp_ge (tgt := 149) d_Mm_draw_99 (by decide) (fun c_99 => ?_) (fun c_99 => ?_)
    · have hn := z_le (a := x + u) (by omega) (by omega) c_99
      have hv9 : j = u := by omega
      subst hv9
      exact K
    · have hn := z_nle (a := x + u) (by omega) (by omega) c_99
      refine r_iload d_Mm_draw_102 2 rfl ?_
      refine r_aload_n d_Mm_draw_104 rfl 8 rfl ?_
      refine r_get fs_Mm_7 d_Mm_draw_105 (q0 := 0) rfl rfl ?_
      refine r_bipush d_Mm_draw_108 (v := 12) (by decide) ?_
      refine r_iload d_Mm_draw_110 1 rfl ?_
      refine r_imul d_Mm_draw_112 (v := nI (12 * (y + i))) (pk_mul _ _) ?_
      refine r_iload d_Mm_draw_113 0 rfl ?_
      refine r_iadd d_Mm_draw_115 (v := nI (12 * (y + i) + x + j)) (by rw [nI_add]; congr 1; omega) ?_
      refine r_cald d_Mm_draw_116 (q0 := 1) rfl (vp_in_nI (by omega) (by omega)) (v := ((prow kd (12 * (y + i) + x) (prect kd x y u (f, 0) i) j).1) (12 * (y + i) + x + j)) (by rw [nI_clamp (by omega)]) ?_
      refine r_iload_n d_Mm_draw_117 rfl 7 rfl ?_
      refine r_icmp_ne (tgt := 125) d_Mm_draw_118 (by decide) (fun c_118 => ?_) (fun c_118 => ?_)
      · refine r_iconst d_Mm_draw_125 (v := 1) (by decide) ?_
        refine r_iadd d_Mm_draw_126 (v := nI ((prow kd (12 * (y + i) + x) (prect kd x y u (f, 0) i) j).2 + 1)) (nI_add _ _) ?_
        refine r_istore (lv' := [(7, .int (nI ((prow kd (12 * (y + i) + x) (prect kd x y u (f, 0) i) j).2 + 1))), (9, .int (nI (x + j))), (8, .int (nI (y + i))), (5, .int (nI v)), (4, .int (nI u)), (3, .int (nI y)), (2, .int (nI x)), (1, .int kd), (0, .ref m)]) d_Mm_draw_127 (by decide) rfl ?_
        refine r_aload_n d_Mm_draw_129 rfl 8 rfl ?_
        refine r_get fs_Mm_7 d_Mm_draw_130 (q0 := 0) rfl rfl ?_
        refine r_bipush d_Mm_draw_133 (v := 12) (by decide) ?_
        refine r_iload d_Mm_draw_135 2 rfl ?_
        refine r_imul d_Mm_draw_137 (v := nI (12 * (y + i))) (pk_mul _ _) ?_
        refine r_iload d_Mm_draw_138 1 rfl ?_
        refine r_iadd d_Mm_draw_140 (v := nI (12 * (y + i) + x + j)) (by rw [nI_add]; congr 1; omega) ?_
        refine r_iload_n d_Mm_draw_141 rfl 7 rfl ?_
        refine r_cast d_Mm_draw_142 (q0 := 1) rfl (vp_in_nI (by omega) (by omega)) (f' := upd (prow kd (12 * (y + i) + x) (prect kd x y u (f, 0) i) j).1 (12 * (y + i) + x + j) kd) (by rw [z_kind_c hk, nI_clamp (by omega)]) (cs' := [(m, .inr (12, [.int 0, .ref mp, .int pt, .ref mf, .ref mh, .ref mn, .ref mt, .ref mz, .ref mc_, .ref mq, .ref mgr, .int cl, .int wa, .int co_, .int fi, .int bu, .int ho, .ref ml, .ref mi, .ref mr, .int lh, .int mg, .int wd, .int fpi, .int fal, .ref mm, .ref mu, .ref mk, .ref mx, .long po, .long de])), (mp, .inl (1, 108, .inl (upd (prow kd (12 * (y + i) + x) (prect kd x y u (f, 0) i) j).1 (12 * (y + i) + x + j) kd)))]) rfl ?_
        refine r_iinc (lv' := [(9, .int (nI ((x + j) + 1))), (7, .int (nI ((prow kd (12 * (y + i) + x) (prect kd x y u (f, 0) i) j).2 + 1))), (8, .int (nI (y + i))), (5, .int (nI v)), (4, .int (nI u)), (3, .int (nI y)), (2, .int (nI x)), (1, .int kd), (0, .ref m)]) (v := nI ((x + j) + 1)) d_Mm_draw_143 (j := 1) rfl (nI_add _ _) (by decide) rfl ?_
        refine r_goto (tgt := 93) d_Mm_draw_146 (by decide) ?_
        refine r_lv (lv' := [(9, .int (nI ((x + j) + 1))), (8, .int (nI (y + i))), (7, .int (nI ((prow kd (12 * (y + i) + x) (prect kd x y u (f, 0) i) j).2 + 1))), (5, .int (nI v)), (4, .int (nI u)), (3, .int (nI y)), (2, .int (nI x)), (1, .int kd), (0, .ref m)]) [0, 2, 1, 3, 4, 5, 6, 7, 8] rfl ?_
        refine r_lvE (lv2 := [(9, .int (nI (x + (j + 1)))), (8, .int (nI (y + i))), (7, .int (nI (prow kd (12 * (y + i) + x) (prect kd x y u (f, 0) i) (j + 1)).2)), (5, .int (nI v)), (4, .int (nI u)), (3, .int (nI y)), (2, .int (nI x)), (1, .int kd), (0, .ref m)]) (by first | (rw [prow_f c_118] <;> rfl) | (rw [prow_t c_118] <;> rfl)) ?_
        refine r_cs (cs2 := [(m, .inr (12, [.int 0, .ref mp, .int pt, .ref mf, .ref mh, .ref mn, .ref mt, .ref mz, .ref mc_, .ref mq, .ref mgr, .int cl, .int wa, .int co_, .int fi, .int bu, .int ho, .ref ml, .ref mi, .ref mr, .int lh, .int mg, .int wd, .int fpi, .int fal, .ref mm, .ref mu, .ref mk, .ref mx, .long po, .long de])), (mp, .inl (1, 108, .inl ((prow kd (12 * (y + i) + x) (prect kd x y u (f, 0) i) (j + 1)).1)))]) (by first | (rw [prow_f c_118] <;> rfl) | (rw [prow_t (Classical.not_not.mp c_118), z_updk (Classical.not_not.mp c_118)] <;> rfl) | (rw [prow_t c_118, z_updk c_118] <;> rfl)) ?_
        exact ih (j + 1) (by omega) (by omega)
      · refine r_iconst d_Mm_draw_121 (v := 0) (by decide) ?_
        refine r_goto (tgt := 126) d_Mm_draw_122 (by decide) ?_
        refine r_iadd d_Mm_draw_126 (v := nI ((prow kd (12 * (y + i) + x) (prect kd x y u (f, 0) i) j).2 + 0)) (nI_add _ _) ?_
        refine r_istore (lv' := [(7, .int (nI ((prow kd (12 * (y + i) + x) (prect kd x y u (f, 0) i) j).2 + 0))), (9, .int (nI (x + j))), (8, .int (nI (y + i))), (5, .int (nI v)), (4, .int (nI u)), (3, .int (nI y)), (2, .int (nI x)), (1, .int kd), (0, .ref m)]) d_Mm_draw_127 (by decide) rfl ?_
        refine r_aload_n d_Mm_draw_129 rfl 8 rfl ?_
        refine r_get fs_Mm_7 d_Mm_draw_130 (q0 := 0) rfl rfl ?_
        refine r_bipush d_Mm_draw_133 (v := 12) (by decide) ?_
        refine r_iload d_Mm_draw_135 2 rfl ?_
        refine r_imul d_Mm_draw_137 (v := nI (12 * (y + i))) (pk_mul _ _) ?_
        refine r_iload d_Mm_draw_138 1 rfl ?_
        refine r_iadd d_Mm_draw_140 (v := nI (12 * (y + i) + x + j)) (by rw [nI_add]; congr 1; omega) ?_
        refine r_iload_n d_Mm_draw_141 rfl 7 rfl ?_
        refine r_cast d_Mm_draw_142 (q0 := 1) rfl (vp_in_nI (by omega) (by omega)) (f' := upd (prow kd (12 * (y + i) + x) (prect kd x y u (f, 0) i) j).1 (12 * (y + i) + x + j) kd) (by rw [z_kind_c hk, nI_clamp (by omega)]) (cs' := [(m, .inr (12, [.int 0, .ref mp, .int pt, .ref mf, .ref mh, .ref mn, .ref mt, .ref mz, .ref mc_, .ref mq, .ref mgr, .int cl, .int wa, .int co_, .int fi, .int bu, .int ho, .ref ml, .ref mi, .ref mr, .int lh, .int mg, .int wd, .int fpi, .int fal, .ref mm, .ref mu, .ref mk, .ref mx, .long po, .long de])), (mp, .inl (1, 108, .inl (upd (prow kd (12 * (y + i) + x) (prect kd x y u (f, 0) i) j).1 (12 * (y + i) + x + j) kd)))]) rfl ?_
        refine r_iinc (lv' := [(9, .int (nI ((x + j) + 1))), (7, .int (nI ((prow kd (12 * (y + i) + x) (prect kd x y u (f, 0) i) j).2 + 0))), (8, .int (nI (y + i))), (5, .int (nI v)), (4, .int (nI u)), (3, .int (nI y)), (2, .int (nI x)), (1, .int kd), (0, .ref m)]) (v := nI ((x + j) + 1)) d_Mm_draw_143 (j := 1) rfl (nI_add _ _) (by decide) rfl ?_
        refine r_goto (tgt := 93) d_Mm_draw_146 (by decide) ?_
        refine r_lv (lv' := [(9, .int (nI ((x + j) + 1))), (8, .int (nI (y + i))), (7, .int (nI ((prow kd (12 * (y + i) + x) (prect kd x y u (f, 0) i) j).2 + 0))), (5, .int (nI v)), (4, .int (nI u)), (3, .int (nI y)), (2, .int (nI x)), (1, .int kd), (0, .ref m)]) [0, 2, 1, 3, 4, 5, 6, 7, 8] rfl ?_
        refine r_lvE (lv2 := [(9, .int (nI (x + (j + 1)))), (8, .int (nI (y + i))), (7, .int (nI (prow kd (12 * (y + i) + x) (prect kd x y u (f, 0) i) (j + 1)).2)), (5, .int (nI v)), (4, .int (nI u)), (3, .int (nI y)), (2, .int (nI x)), (1, .int kd), (0, .ref m)]) (by first | (rw [prow_f c_118] <;> rfl) | (rw [prow_t c_118] <;> rfl)) ?_
        refine r_cs (cs2 := [(m, .inr (12, [.int 0, .ref mp, .int pt, .ref mf, .ref mh, .ref mn, .ref mt, .ref mz, .ref mc_, .ref mq, .ref mgr, .int cl, .int wa, .int co_, .int fi, .int bu, .int ho, .ref ml, .ref mi, .ref mr, .int lh, .int mg, .int wd, .int fpi, .int fal, .ref mm, .ref mu, .ref mk, .ref mx, .long po, .long de])), (mp, .inl (1, 108, .inl ((prow kd (12 * (y + i) + x) (prect kd x y u (f, 0) i) (j + 1)).1)))]) (by first | (rw [prow_f c_118] <;> rfl) | (rw [prow_t (Classical.not_not.mp c_118), z_updk (Classical.not_not.mp c_118)] <;> rfl) | (rw [prow_t c_118, z_updk c_118] <;> rfl)) ?_
        exact ih (j + 1) (by omega) (by omega)
set_option maxHeartbeats 4000000 in
set_option maxRecDepth 100000 in
theorem L_Mm_drawN_81 (g : zG) (m mp mf mh mn mt mz mc_ mq mgr ml mi mr mm mu mk mx : Nat) (th pt cl wa co_ fi bu ho lh mg wd fpi fal : Int32) (po de : Int64) (f : Nat → Int32) (kd : Int32) (hk : z_kind kd) (hki : 0 ≤ z_ix 0 kd) (x y u v : Nat) (hx : x + u ≤ 12) (hy : y + v ≤ 9) (hu : 1 ≤ u) (hv : 1 ≤ v) (w0 : zW) (n : Nat) : ∀ (d i : Nat), i ≤ v → v < i + d → DV g M_Mm_draw (fun o cs1 => o = .inl (some (.int (nI (prect kd x y u (f, 0) v).2))) ∧ cs1 = [(m, .inr (12, [.int 0, .ref mp, .int pt, .ref mf, .ref mh, .ref mn, .ref mt, .ref mz, .ref mc_, .ref mq, .ref mgr, .int cl, .int wa, .int co_, .int fi, .int bu, .int ho, .ref ml, .ref mi, .ref mr, .int lh, .int mg, .int wd, .int fpi, .int fal, .ref mm, .ref mu, .ref mk, .ref mx, .long po, .long de])), (mp, .inl (1, 108, .inl ((prect kd x y u (f, 0) v).1)))]) w0 n 81 [(8, .int (nI (y + i))), (7, .int (nI (prect kd x y u (f, 0) i).2)), (5, .int (nI v)), (4, .int (nI u)), (3, .int (nI y)), (2, .int (nI x)), (1, .int kd), (0, .ref m)] [] [(m, .inr (12, [.int 0, .ref mp, .int pt, .ref mf, .ref mh, .ref mn, .ref mt, .ref mz, .ref mc_, .ref mq, .ref mgr, .int cl, .int wa, .int co_, .int fi, .int bu, .int ho, .ref ml, .ref mi, .ref mr, .int lh, .int mg, .int wd, .int fpi, .int fal, .ref mm, .ref mu, .ref mk, .ref mx, .long po, .long de])), (mp, .inl (1, 108, .inl ((prect kd x y u (f, 0) i).1)))] 0 0 := by
  intro d
  induction d with
  | zero => intro i h1 h2 ; exact absurd h2 (by omega)
  | succ d ih =>
    intro i h1 h2 
    refine r_iload d_Mm_draw_81 0 rfl ?_
    refine r_iload_n d_Mm_draw_83 rfl 4 rfl ?_
    refine r_iload d_Mm_draw_84 2 rfl ?_
    refine r_iadd d_Mm_draw_86 (v := nI (y + v)) (nI_add _ _) ?_
    refine r_icmp_ge (tgt := 155) d_Mm_draw_87 (by decide) (fun c_87 => ?_) (fun c_87 => ?_)
    · have hn := z_le (a := y + v) (by omega) (by omega) c_87
      have hv9 : i = v := by omega
      subst hv9
      refine r_iload d_Mm_draw_155 1 rfl ?_
      refine r_iret d_Mm_draw_157 rfl rfl ?_
      exact ⟨rfl, rfl⟩
    · have hn := z_nle (a := y + v) (by omega) (by omega) c_87
      refine r_iload_n d_Mm_draw_90 rfl 5 rfl ?_
      refine r_istore (lv' := [(9, .int (nI x)), (8, .int (nI (y + i))), (7, .int (nI (prect kd x y u (f, 0) i).2)), (5, .int (nI v)), (4, .int (nI u)), (3, .int (nI y)), (2, .int (nI x)), (1, .int kd), (0, .ref m)]) d_Mm_draw_91 (by decide) rfl ?_
      refine r_lvE (lv2 := [(9, .int (nI (x + 0))), (8, .int (nI (y + i))), (7, .int (nI (prow kd (12 * (y + i) + x) (prect kd x y u (f, 0) i) 0).2)), (5, .int (nI v)), (4, .int (nI u)), (3, .int (nI y)), (2, .int (nI x)), (1, .int kd), (0, .ref m)]) (rfl) ?_
      refine r_cs (cs2 := [(m, .inr (12, [.int 0, .ref mp, .int pt, .ref mf, .ref mh, .ref mn, .ref mt, .ref mz, .ref mc_, .ref mq, .ref mgr, .int cl, .int wa, .int co_, .int fi, .int bu, .int ho, .ref ml, .ref mi, .ref mr, .int lh, .int mg, .int wd, .int fpi, .int fal, .ref mm, .ref mu, .ref mk, .ref mx, .long po, .long de])), (mp, .inl (1, 108, .inl ((prow kd (12 * (y + i) + x) (prect kd x y u (f, 0) i) 0).1)))]) (rfl) ?_
      refine L_Mm_drawN_93 g m mp mf mh mn mt mz mc_ mq mgr ml mi mr mm mu mk mx th pt cl wa co_ fi bu ho lh mg wd fpi fal po de f kd hk hki x y u v hx hy hu hv w0 _ i (by omega) (?_) (u + 1) 0 (Nat.zero_le _) (by omega)
      refine r_iinc (lv' := [(8, .int (nI ((y + i) + 1))), (9, .int (nI (x + u))), (7, .int (nI (prow kd (12 * (y + i) + x) (prect kd x y u (f, 0) i) u).2)), (5, .int (nI v)), (4, .int (nI u)), (3, .int (nI y)), (2, .int (nI x)), (1, .int kd), (0, .ref m)]) (v := nI ((y + i) + 1)) d_Mm_draw_149 (j := 1) rfl (nI_add _ _) (by decide) rfl ?_
      refine r_goto (tgt := 81) d_Mm_draw_152 (by decide) ?_
      refine r_lv (lv' := [(8, .int (nI ((y + i) + 1))), (7, .int (nI (prow kd (12 * (y + i) + x) (prect kd x y u (f, 0) i) u).2)), (5, .int (nI v)), (4, .int (nI u)), (3, .int (nI y)), (2, .int (nI x)), (1, .int kd), (0, .ref m)]) [0, 2, 3, 4, 5, 6, 7, 8] rfl ?_
      refine r_lvE (lv2 := [(8, .int (nI (y + (i + 1)))), (7, .int (nI (prect kd x y u (f, 0) (i + 1)).2)), (5, .int (nI v)), (4, .int (nI u)), (3, .int (nI y)), (2, .int (nI x)), (1, .int kd), (0, .ref m)]) (rfl) ?_
      refine r_cs (cs2 := [(m, .inr (12, [.int 0, .ref mp, .int pt, .ref mf, .ref mh, .ref mn, .ref mt, .ref mz, .ref mc_, .ref mq, .ref mgr, .int cl, .int wa, .int co_, .int fi, .int bu, .int ho, .ref ml, .ref mi, .ref mr, .int lh, .int mg, .int wd, .int fpi, .int fal, .ref mm, .ref mu, .ref mk, .ref mx, .long po, .long de])), (mp, .inl (1, 108, .inl ((prect kd x y u (f, 0) (i + 1)).1)))]) (rfl) ?_
      exact ih (i + 1) (by omega) (by omega)
set_option maxHeartbeats 4000000 in
set_option maxRecDepth 100000 in
theorem C_Mm_drawN (g : zG) (m mp mf mh mn mt mz mc_ mq mgr ml mi mr mm mu mk mx : Nat) (th pt cl wa co_ fi bu ho lh mg wd fpi fal : Int32) (po de : Int64) (f : Nat → Int32) (kd : Int32) (hk : z_kind kd) (hki : 0 ≤ z_ix 0 kd) (x y u v : Nat) (hx : x + u ≤ 12) (hy : y + v ≤ 9) (hu : 1 ≤ u) (hv : 1 ≤ v) : CT g M_Mm_draw [.ref m, .int kd, .int (nI x), .int (nI y), .int (nI u), .int (nI v)] [(m, .inr (12, [.int th, .ref mp, .int pt, .ref mf, .ref mh, .ref mn, .ref mt, .ref mz, .ref mc_, .ref mq, .ref mgr, .int cl, .int wa, .int co_, .int fi, .int bu, .int ho, .ref ml, .ref mi, .ref mr, .int lh, .int mg, .int wd, .int fpi, .int fal, .ref mm, .ref mu, .ref mk, .ref mx, .long po, .long de])), (mp, .inl (1, 108, .inl f))] (fun o cs1 => o = .inl (some (.int (nI (prect kd x y u (f, 0) v).2))) ∧ cs1 = [(m, .inr (12, [.int 0, .ref mp, .int pt, .ref mf, .ref mh, .ref mn, .ref mt, .ref mz, .ref mc_, .ref mq, .ref mgr, .int cl, .int wa, .int co_, .int fi, .int bu, .int ho, .ref ml, .ref mi, .ref mr, .int lh, .int mg, .int wd, .int fpi, .int fal, .ref mm, .ref mu, .ref mk, .ref mx, .long po, .long de])), (mp, .inl (1, 108, .inl ((prect kd x y u (f, 0) v).1)))]) 0 0 := by
  refine z_of (by decide) rfl (Nat.le_of_ble_eq_true rfl) (fun w0 => ?_)
  refine r_lvE (lv2 := [(0, .ref m), (1, .int kd), (2, .int (nI x)), (3, .int (nI y)), (4, .int (nI u)), (5, .int (nI v))]) rfl ?_
  refine r_aload_n d_Mm_draw_0 rfl 0 rfl ?_
  refine r_iconst d_Mm_draw_1 (v := 0) (by decide) ?_
  refine r_put fp_Mm_84 d_Mm_draw_2 (fun h => nomatch h) rfl rfl (q0 := 0) rfl (Nat.le_of_ble_eq_true rfl) (cs' := [(m, .inr (12, [.int 0, .ref mp, .int pt, .ref mf, .ref mh, .ref mn, .ref mt, .ref mz, .ref mc_, .ref mq, .ref mgr, .int cl, .int wa, .int co_, .int fi, .int bu, .int ho, .ref ml, .ref mi, .ref mr, .int lh, .int mg, .int wd, .int fpi, .int fal, .ref mm, .ref mu, .ref mk, .ref mx, .long po, .long de])), (mp, .inl (1, 108, .inl f))]) rfl ?_
  refine r_iload_n d_Mm_draw_5 rfl 2 rfl ?_
  refine r_iload_n d_Mm_draw_6 rfl 3 rfl ?_
  refine r_callS (As := [.int (nI x), .int (nI y)]) (rest := []) (csC := []) (is := []) ln_Mm_91 w_st_Mm_isCell ok_Mm_draw_Mm_isCell d_Mm_draw_7 (C_Mm_isCell g (nI x) (nI y)) rfl rfl (Nat.le_of_ble_eq_true rfl) rfl (by decide) (by omega) (by omega) (fun E cs1 hx => ?_) (fun v cs1 hx => ?_)
  · exact absurd hx.1 (by simp)
  · obtain ⟨e1, rfl⟩ := hx
    rw [if_pos (z_cellN (by omega) (by omega))] at e1
    cases e1
    refine ⟨rfl, ?_⟩
    refine r_st (st2 := [.int 1]) rfl ?_
    refine r_cs (cs2 := [(m, .inr (12, [.int 0, .ref mp, .int pt, .ref mf, .ref mh, .ref mn, .ref mt, .ref mz, .ref mc_, .ref mq, .ref mgr, .int cl, .int wa, .int co_, .int fi, .int bu, .int ho, .ref ml, .ref mi, .ref mr, .int lh, .int mg, .int wd, .int fpi, .int fal, .ref mm, .ref mu, .ref mk, .ref mx, .long po, .long de])), (mp, .inl (1, 108, .inl f))]) rfl ?_
    refine r_if_eq (tgt := 43) d_Mm_draw_10 (by decide) (fun c_10 => ?_) (fun c_10 => ?_)
    · exact absurd c_10 (by decide)
    · refine r_iload d_Mm_draw_13 4 rfl ?_
      refine r_iconst d_Mm_draw_15 (v := 1) (by decide) ?_
      refine r_bipush d_Mm_draw_16 (v := 12) (by decide) ?_
      refine r_iload_n d_Mm_draw_18 rfl 2 rfl ?_
      refine r_isub d_Mm_draw_19 (v := nI (12 - x)) (pk_sub (a := 12) (by omega)) ?_
      refine r_callS (As := [.int (nI u), .int 1, .int (nI (12 - x))]) (rest := []) (csC := []) (is := []) ln_Mm_87 w_st_Mm_in ok_Mm_draw_Mm_in d_Mm_draw_20 (C_Mm_in g (nI u) 1 (nI (12 - x))) rfl rfl (Nat.le_of_ble_eq_true rfl) rfl (by decide) (by omega) (by omega) (fun E cs1 hx => ?_) (fun v cs1 hx => ?_)
      · exact absurd hx.1 (by simp)
      · obtain ⟨e1, rfl⟩ := hx
        rw [if_pos ⟨(nI_leI (a := 1) (by decide) (by omega)).mpr (by omega), (nI_leI (by omega) (by omega)).mpr (by omega)⟩] at e1
        cases e1
        refine ⟨rfl, ?_⟩
        refine r_st (st2 := [.int 1]) rfl ?_
        refine r_cs (cs2 := [(m, .inr (12, [.int 0, .ref mp, .int pt, .ref mf, .ref mh, .ref mn, .ref mt, .ref mz, .ref mc_, .ref mq, .ref mgr, .int cl, .int wa, .int co_, .int fi, .int bu, .int ho, .ref ml, .ref mi, .ref mr, .int lh, .int mg, .int wd, .int fpi, .int fal, .ref mm, .ref mu, .ref mk, .ref mx, .long po, .long de])), (mp, .inl (1, 108, .inl f))]) rfl ?_
        refine r_if_eq (tgt := 43) d_Mm_draw_23 (by decide) (fun c_23 => ?_) (fun c_23 => ?_)
        · exact absurd c_23 (by decide)
        · refine r_iload d_Mm_draw_26 5 rfl ?_
          refine r_iconst d_Mm_draw_28 (v := 1) (by decide) ?_
          refine r_bipush d_Mm_draw_29 (v := 9) (by decide) ?_
          refine r_iload_n d_Mm_draw_31 rfl 3 rfl ?_
          refine r_isub d_Mm_draw_32 (v := nI (9 - y)) (pk_sub (a := 9) (by omega)) ?_
          refine r_callS (As := [.int (nI v), .int 1, .int (nI (9 - y))]) (rest := []) (csC := []) (is := []) ln_Mm_87 w_st_Mm_in ok_Mm_draw_Mm_in d_Mm_draw_33 (C_Mm_in g (nI v) 1 (nI (9 - y))) rfl rfl (Nat.le_of_ble_eq_true rfl) rfl (by decide) (by omega) (by omega) (fun E cs1 hx => ?_) (fun v cs1 hx => ?_)
          · exact absurd hx.1 (by simp)
          · obtain ⟨e1, rfl⟩ := hx
            rw [if_pos ⟨(nI_leI (a := 1) (by decide) (by omega)).mpr (by omega), (nI_leI (by omega) (by omega)).mpr (by omega)⟩] at e1
            cases e1
            refine ⟨rfl, ?_⟩
            refine r_st (st2 := [.int 1]) rfl ?_
            refine r_cs (cs2 := [(m, .inr (12, [.int 0, .ref mp, .int pt, .ref mf, .ref mh, .ref mn, .ref mt, .ref mz, .ref mc_, .ref mq, .ref mgr, .int cl, .int wa, .int co_, .int fi, .int bu, .int ho, .ref ml, .ref mi, .ref mr, .int lh, .int mg, .int wd, .int fpi, .int fal, .ref mm, .ref mu, .ref mk, .ref mx, .long po, .long de])), (mp, .inl (1, 108, .inl f))]) rfl ?_
            refine r_if_eq (tgt := 43) d_Mm_draw_36 (by decide) (fun c_36 => ?_) (fun c_36 => ?_)
            · exact absurd c_36 (by decide)
            · refine r_iconst d_Mm_draw_39 (v := 1) (by decide) ?_
              refine r_goto (tgt := 44) d_Mm_draw_40 (by decide) ?_
              refine r_istore (lv' := [(6, .int 1), (0, .ref m), (1, .int kd), (2, .int (nI x)), (3, .int (nI y)), (4, .int (nI u)), (5, .int (nI v))]) d_Mm_draw_44 (by decide) rfl ?_
              refine r_aload_n d_Mm_draw_46 rfl 1 rfl ?_
              refine r_ldcS (own := "IronpourModel") (i := 0) (by decide) d_Mm_draw_47 ?_
              refine r_iload_n d_Mm_draw_49 rfl 2 rfl ?_
              refine r_callVS (As := [.int kd]) (rest := [.ref m]) (csC := []) (is := []) (i := 0) (by first | assumption | decide) rfl ln_Mm_97 w_im_String_indexOf_0 w_se_String_indexOf_0 ok_Mm_draw_String_indexOf_0 d_Mm_draw_50 (C_St_indexOf g 0 (by decide) kd) rfl rfl (Nat.le_of_ble_eq_true rfl) rfl (by decide) (by omega) (by omega) (fun E cs1 hx => ?_) (fun v cs1 hx => ?_)
              · exact absurd hx.1 (by simp)
              · obtain ⟨e1, rfl⟩ := hx
                cases e1
                refine ⟨rfl, ?_⟩
                refine r_st (st2 := [.int (z_ix 0 kd), .ref m]) rfl ?_
                refine r_cs (cs2 := [(m, .inr (12, [.int 0, .ref mp, .int pt, .ref mf, .ref mh, .ref mn, .ref mt, .ref mz, .ref mc_, .ref mq, .ref mgr, .int cl, .int wa, .int co_, .int fi, .int bu, .int ho, .ref ml, .ref mi, .ref mr, .int lh, .int mg, .int wd, .int fpi, .int fal, .ref mm, .ref mu, .ref mk, .ref mx, .long po, .long de])), (mp, .inl (1, 108, .inl f))]) rfl ?_
                refine r_if_lt (tgt := 61) d_Mm_draw_53 (by decide) (fun c_53 => ?_) (fun c_53 => ?_)
                · exact absurd hki (Int32.not_le.mpr c_53)
                · refine r_iload d_Mm_draw_56 0 rfl ?_
                  refine r_if_ne (tgt := 65) d_Mm_draw_58 (by decide) (fun c_58 => ?_) (fun c_58 => ?_)
                  · refine r_iconst d_Mm_draw_65 (v := 0) (by decide) ?_
                    refine r_iconst d_Mm_draw_66 (v := 1) (by decide) ?_
                    refine r_callV (As := [.int 0, .int 1]) (rest := []) (csC := [(m, .inr (12, [.int 0, .ref mp, .int pt, .ref mf, .ref mh, .ref mn, .ref mt, .ref mz, .ref mc_, .ref mq, .ref mgr, .int cl, .int wa, .int co_, .int fi, .int bu, .int ho, .ref ml, .ref mi, .ref mr, .int lh, .int mg, .int wd, .int fpi, .int fal, .ref mm, .ref mu, .ref mk, .ref mx, .long po, .long de]))]) (is := [0]) (q0 := 0) rfl rfl ln_Mm_103 w_im_Mm_fails w_se_Mm_fails ok_Mm_draw_Mm_fails d_Mm_draw_67 (C_Mm_fails0 g m mp mf mh mn mt mz mc_ mq mgr ml mi mr mm mu mk mx th pt cl wa co_ fi bu ho lh mg wd fpi fal po de 1) rfl rfl (Nat.le_of_ble_eq_true rfl) rfl (by decide) (by omega) (by omega) (fun E cs1 hx => ?_) (fun v cs1 hx => ?_)
                    · exact absurd hx.1 (by simp)
                    · obtain ⟨e1, rfl⟩ := hx
                      cases e1
                      refine ⟨rfl, ?_⟩
                      refine r_st (st2 := [.int 0]) rfl ?_
                      refine r_cs (cs2 := [(m, .inr (12, [.int 0, .ref mp, .int pt, .ref mf, .ref mh, .ref mn, .ref mt, .ref mz, .ref mc_, .ref mq, .ref mgr, .int cl, .int wa, .int co_, .int fi, .int bu, .int ho, .ref ml, .ref mi, .ref mr, .int lh, .int mg, .int wd, .int fpi, .int fal, .ref mm, .ref mu, .ref mk, .ref mx, .long po, .long de])), (mp, .inl (1, 108, .inl f))]) rfl ?_
                      refine r_if_eq (tgt := 75) d_Mm_draw_70 (by decide) (fun c_70 => ?_) (fun c_70 => ?_)
                      · refine r_iconst d_Mm_draw_75 (v := 0) (by decide) ?_
                        refine r_istore (lv' := [(7, .int 0), (6, .int 1), (0, .ref m), (1, .int kd), (2, .int (nI x)), (3, .int (nI y)), (4, .int (nI u)), (5, .int (nI v))]) d_Mm_draw_76 (by decide) rfl ?_
                        refine r_iload_n d_Mm_draw_78 rfl 5 rfl ?_
                        refine r_istore (lv' := [(8, .int (nI y)), (7, .int 0), (6, .int 1), (0, .ref m), (1, .int kd), (2, .int (nI x)), (3, .int (nI y)), (4, .int (nI u)), (5, .int (nI v))]) d_Mm_draw_79 (by decide) rfl ?_
                        refine r_lv (lv' := [(8, .int (nI y)), (7, .int 0), (5, .int (nI v)), (4, .int (nI u)), (3, .int (nI y)), (2, .int (nI x)), (1, .int kd), (0, .ref m)]) [0, 1, 8, 7, 6, 5, 4, 3] rfl ?_
                        refine r_lvE (lv2 := [(8, .int (nI (y + 0))), (7, .int (nI (prect kd x y u (f, 0) 0).2)), (5, .int (nI v)), (4, .int (nI u)), (3, .int (nI y)), (2, .int (nI x)), (1, .int kd), (0, .ref m)]) (rfl) ?_
                        refine r_cs (cs2 := [(m, .inr (12, [.int 0, .ref mp, .int pt, .ref mf, .ref mh, .ref mn, .ref mt, .ref mz, .ref mc_, .ref mq, .ref mgr, .int cl, .int wa, .int co_, .int fi, .int bu, .int ho, .ref ml, .ref mi, .ref mr, .int lh, .int mg, .int wd, .int fpi, .int fal, .ref mm, .ref mu, .ref mk, .ref mx, .long po, .long de])), (mp, .inl (1, 108, .inl ((prect kd x y u (f, 0) 0).1)))]) (rfl) ?_
                        exact L_Mm_drawN_81 g m mp mf mh mn mt mz mc_ mq mgr ml mi mr mm mu mk mx th pt cl wa co_ fi bu ho lh mg wd fpi fal po de f kd hk hki x y u v hx hy hu hv w0 _  (v + 1) 0 (Nat.zero_le _) (by omega)
                      · exact absurd c_70 (by decide)
                  · exact absurd c_58 (by decide)
abbrev M_Mm_undercutIn : zM := (⟨"IronpourModel", "undercutIn", "([CI)I"⟩, prog_14_method_11_code, 7, (Option.some FieldType.int), 2, 40, [])
theorem d_Mm_undercutIn_93 : decode prog_14_method_11_code 93 = .ok (.iload 5, 2) := zo_21 (d := 5) (zd_b zq_prog_14_method_11_code_2 29 rfl rfl rfl) (zd_b zq_prog_14_method_11_code_2 30 rfl rfl rfl)
theorem d_Mm_undercutIn_95 : decode prog_14_method_11_code 95 = .ok (.bipush 9, 2) := zo_16 (d := 9) (zd_b zq_prog_14_method_11_code_2 31 rfl rfl rfl) (zd_b zq_prog_14_method_11_code_3 0 rfl rfl rfl) (by decide +kernel)
theorem d_Mm_undercutIn_97 : decode prog_14_method_11_code 97 = .ok (.if_icmp .ge 67, 3) := zo_162 (d := 0) (e := 67) (zd_b zq_prog_14_method_11_code_3 1 rfl rfl rfl) (zd_b zq_prog_14_method_11_code_3 2 rfl rfl rfl) (zd_b zq_prog_14_method_11_code_3 3 rfl rfl rfl) (by decide +kernel)
theorem d_Mm_undercutIn_100 : decode prog_14_method_11_code 100 = .ok (.aload_n 0, 1) := zo_42 (zd_b zq_prog_14_method_11_code_3 4 rfl rfl rfl)
theorem d_Mm_undercutIn_101 : decode prog_14_method_11_code 101 = .ok (.bipush 12, 2) := zo_16 (d := 12) (zd_b zq_prog_14_method_11_code_3 5 rfl rfl rfl) (zd_b zq_prog_14_method_11_code_3 6 rfl rfl rfl) (by decide +kernel)
theorem d_Mm_undercutIn_103 : decode prog_14_method_11_code 103 = .ok (.iload 5, 2) := zo_21 (d := 5) (zd_b zq_prog_14_method_11_code_3 7 rfl rfl rfl) (zd_b zq_prog_14_method_11_code_3 8 rfl rfl rfl)
theorem d_Mm_undercutIn_105 : decode prog_14_method_11_code 105 = .ok (.imul, 1) := zo_104 (zd_b zq_prog_14_method_11_code_3 9 rfl rfl rfl)
theorem d_Mm_undercutIn_106 : decode prog_14_method_11_code 106 = .ok (.iload_n 3, 1) := zo_29 (zd_b zq_prog_14_method_11_code_3 10 rfl rfl rfl)
theorem d_Mm_undercutIn_107 : decode prog_14_method_11_code 107 = .ok (.iadd, 1) := zo_96 (zd_b zq_prog_14_method_11_code_3 11 rfl rfl rfl)
theorem d_Mm_undercutIn_108 : decode prog_14_method_11_code 108 = .ok (.caload, 1) := zo_52 (zd_b zq_prog_14_method_11_code_3 12 rfl rfl rfl)
theorem d_Mm_undercutIn_109 : decode prog_14_method_11_code 109 = .ok (.istore 6, 2) := zo_54 (d := 6) (zd_b zq_prog_14_method_11_code_3 13 rfl rfl rfl) (zd_b zq_prog_14_method_11_code_3 14 rfl rfl rfl)
theorem d_Mm_undercutIn_111 : decode prog_14_method_11_code 111 = .ok (.iload 4, 2) := zo_21 (d := 4) (zd_b zq_prog_14_method_11_code_3 15 rfl rfl rfl) (zd_b zq_prog_14_method_11_code_3 16 rfl rfl rfl)
theorem d_Mm_undercutIn_113 : decode prog_14_method_11_code 113 = .ok (.ifCond .eq 21, 3) := zo_153 (d := 0) (e := 21) (zd_b zq_prog_14_method_11_code_3 17 rfl rfl rfl) (zd_b zq_prog_14_method_11_code_3 18 rfl rfl rfl) (zd_b zq_prog_14_method_11_code_3 19 rfl rfl rfl) (by decide +kernel)
theorem d_Mm_undercutIn_134 : decode prog_14_method_11_code 134 = .ok (.iconst 0, 1) := zo_3 (zd_b zq_prog_14_method_11_code_4 6 rfl rfl rfl)
theorem d_Mm_undercutIn_135 : decode prog_14_method_11_code 135 = .ok (.istore 4, 2) := zo_54 (d := 4) (zd_b zq_prog_14_method_11_code_4 7 rfl rfl rfl) (zd_b zq_prog_14_method_11_code_4 8 rfl rfl rfl)
theorem d_Mm_undercutIn_137 : decode prog_14_method_11_code 137 = .ok (.iload_n 2, 1) := zo_28 (zd_b zq_prog_14_method_11_code_4 9 rfl rfl rfl)
theorem d_Mm_undercutIn_138 : decode prog_14_method_11_code 138 = .ok (.iload 4, 2) := zo_21 (d := 4) (zd_b zq_prog_14_method_11_code_4 10 rfl rfl rfl) (zd_b zq_prog_14_method_11_code_4 11 rfl rfl rfl)
theorem d_Mm_undercutIn_140 : decode prog_14_method_11_code 140 = .ok (.ifCond .ne 15, 3) := zo_154 (d := 0) (e := 15) (zd_b zq_prog_14_method_11_code_4 12 rfl rfl rfl) (zd_b zq_prog_14_method_11_code_4 13 rfl rfl rfl) (zd_b zq_prog_14_method_11_code_4 14 rfl rfl rfl) (by decide +kernel)
theorem d_Mm_undercutIn_143 : decode prog_14_method_11_code 143 = .ok (.iload 6, 2) := zo_21 (d := 6) (zd_b zq_prog_14_method_11_code_4 15 rfl rfl rfl) (zd_b zq_prog_14_method_11_code_4 16 rfl rfl rfl)
theorem d_Mm_undercutIn_145 : decode prog_14_method_11_code 145 = .ok (.invokestatic 107, 3) := zo_184 (d := 0) (e := 107) (zd_b zq_prog_14_method_11_code_4 17 rfl rfl rfl) (zd_b zq_prog_14_method_11_code_4 18 rfl rfl rfl) (zd_b zq_prog_14_method_11_code_4 19 rfl rfl rfl)
theorem ok_Mm_undercutIn_Mm_isMetal : z_ok M_Mm_undercutIn M_Mm_isMetal 1 := ⟨z_mj7 (i := 214) rfl (by decide +kernel), rfl, ⟨by decide +kernel, by decide +kernel, by decide +kernel⟩, ⟨by decide, by decide⟩, z_mj1 (i := 14) rfl (by decide +kernel), rfl⟩
theorem d_Mm_undercutIn_148 : decode prog_14_method_11_code 148 = .ok (.ifCond .eq 7, 3) := zo_153 (d := 0) (e := 7) (zd_b zq_prog_14_method_11_code_4 20 rfl rfl rfl) (zd_b zq_prog_14_method_11_code_4 21 rfl rfl rfl) (zd_b zq_prog_14_method_11_code_4 22 rfl rfl rfl) (by decide +kernel)
theorem d_Mm_undercutIn_155 : decode prog_14_method_11_code 155 = .ok (.iconst 0, 1) := zo_3 (zd_b zq_prog_14_method_11_code_4 27 rfl rfl rfl)
theorem d_Mm_undercutIn_156 : decode prog_14_method_11_code 156 = .ok (.iadd, 1) := zo_96 (zd_b zq_prog_14_method_11_code_4 28 rfl rfl rfl)
theorem d_Mm_undercutIn_157 : decode prog_14_method_11_code 157 = .ok (.istore_n 2, 1) := zo_61 (zd_b zq_prog_14_method_11_code_4 29 rfl rfl rfl)
theorem d_Mm_undercutIn_158 : decode prog_14_method_11_code 158 = .ok (.iinc 5 1, 3) := by decide +kernel
theorem d_Mm_undercutIn_161 : decode prog_14_method_11_code 161 = .ok (.goto (-68), 3) := zo_167 (d := 255) (e := 188) (zd_b zq_prog_14_method_11_code_5 1 rfl rfl rfl) (zd_b zq_prog_14_method_11_code_5 2 rfl rfl rfl) (zd_b zq_prog_14_method_11_code_5 3 rfl rfl rfl) (by decide +kernel)
theorem d_Mm_undercutIn_151 : decode prog_14_method_11_code 151 = .ok (.iconst 1, 1) := zo_4 (zd_b zq_prog_14_method_11_code_4 23 rfl rfl rfl)
theorem d_Mm_undercutIn_152 : decode prog_14_method_11_code 152 = .ok (.goto 4, 3) := zo_167 (d := 0) (e := 4) (zd_b zq_prog_14_method_11_code_4 24 rfl rfl rfl) (zd_b zq_prog_14_method_11_code_4 25 rfl rfl rfl) (zd_b zq_prog_14_method_11_code_4 26 rfl rfl rfl) (by decide +kernel)
theorem d_Mm_undercutIn_116 : decode prog_14_method_11_code 116 = .ok (.iload 6, 2) := zo_21 (d := 6) (zd_b zq_prog_14_method_11_code_3 20 rfl rfl rfl) (zd_b zq_prog_14_method_11_code_3 21 rfl rfl rfl)
theorem d_Mm_undercutIn_118 : decode prog_14_method_11_code 118 = .ok (.bipush 46, 2) := zo_16 (d := 46) (zd_b zq_prog_14_method_11_code_3 22 rfl rfl rfl) (zd_b zq_prog_14_method_11_code_3 23 rfl rfl rfl) (by decide +kernel)
theorem d_Mm_undercutIn_120 : decode prog_14_method_11_code 120 = .ok (.if_icmp .eq 14, 3) := zo_159 (d := 0) (e := 14) (zd_b zq_prog_14_method_11_code_3 24 rfl rfl rfl) (zd_b zq_prog_14_method_11_code_3 25 rfl rfl rfl) (zd_b zq_prog_14_method_11_code_3 26 rfl rfl rfl) (by decide +kernel)
theorem d_Mm_undercutIn_123 : decode prog_14_method_11_code 123 = .ok (.iload 6, 2) := zo_21 (d := 6) (zd_b zq_prog_14_method_11_code_3 27 rfl rfl rfl) (zd_b zq_prog_14_method_11_code_3 28 rfl rfl rfl)
theorem d_Mm_undercutIn_125 : decode prog_14_method_11_code 125 = .ok (.bipush 107, 2) := zo_16 (d := 107) (zd_b zq_prog_14_method_11_code_3 29 rfl rfl rfl) (zd_b zq_prog_14_method_11_code_3 30 rfl rfl rfl) (by decide +kernel)
theorem d_Mm_undercutIn_127 : decode prog_14_method_11_code 127 = .ok (.if_icmp .eq 7, 3) := zo_159 (d := 0) (e := 7) (zd_b zq_prog_14_method_11_code_3 31 rfl rfl rfl) (zd_b zq_prog_14_method_11_code_4 0 rfl rfl rfl) (zd_b zq_prog_14_method_11_code_4 1 rfl rfl rfl) (by decide +kernel)
theorem d_Mm_undercutIn_130 : decode prog_14_method_11_code 130 = .ok (.iconst 1, 1) := zo_4 (zd_b zq_prog_14_method_11_code_4 2 rfl rfl rfl)
theorem d_Mm_undercutIn_131 : decode prog_14_method_11_code 131 = .ok (.goto 4, 3) := zo_167 (d := 0) (e := 4) (zd_b zq_prog_14_method_11_code_4 3 rfl rfl rfl) (zd_b zq_prog_14_method_11_code_4 4 rfl rfl rfl) (zd_b zq_prog_14_method_11_code_4 5 rfl rfl rfl) (by decide +kernel)
theorem d_Mm_undercutIn_18 : decode prog_14_method_11_code 18 = .ok (.iload 5, 2) := zo_21 (d := 5) (zd_b zq_prog_14_method_11_code_0 18 rfl rfl rfl) (zd_b zq_prog_14_method_11_code_0 19 rfl rfl rfl)
theorem d_Mm_undercutIn_20 : decode prog_14_method_11_code 20 = .ok (.ifCond .lt 67, 3) := zo_155 (d := 0) (e := 67) (zd_b zq_prog_14_method_11_code_0 20 rfl rfl rfl) (zd_b zq_prog_14_method_11_code_0 21 rfl rfl rfl) (zd_b zq_prog_14_method_11_code_0 22 rfl rfl rfl) (by decide +kernel)
theorem d_Mm_undercutIn_23 : decode prog_14_method_11_code 23 = .ok (.aload_n 0, 1) := zo_42 (zd_b zq_prog_14_method_11_code_0 23 rfl rfl rfl)
theorem d_Mm_undercutIn_24 : decode prog_14_method_11_code 24 = .ok (.bipush 12, 2) := zo_16 (d := 12) (zd_b zq_prog_14_method_11_code_0 24 rfl rfl rfl) (zd_b zq_prog_14_method_11_code_0 25 rfl rfl rfl) (by decide +kernel)
theorem d_Mm_undercutIn_26 : decode prog_14_method_11_code 26 = .ok (.iload 5, 2) := zo_21 (d := 5) (zd_b zq_prog_14_method_11_code_0 26 rfl rfl rfl) (zd_b zq_prog_14_method_11_code_0 27 rfl rfl rfl)
theorem d_Mm_undercutIn_28 : decode prog_14_method_11_code 28 = .ok (.imul, 1) := zo_104 (zd_b zq_prog_14_method_11_code_0 28 rfl rfl rfl)
theorem d_Mm_undercutIn_29 : decode prog_14_method_11_code 29 = .ok (.iload_n 3, 1) := zo_29 (zd_b zq_prog_14_method_11_code_0 29 rfl rfl rfl)
theorem d_Mm_undercutIn_30 : decode prog_14_method_11_code 30 = .ok (.iadd, 1) := zo_96 (zd_b zq_prog_14_method_11_code_0 30 rfl rfl rfl)
theorem d_Mm_undercutIn_31 : decode prog_14_method_11_code 31 = .ok (.caload, 1) := zo_52 (zd_b zq_prog_14_method_11_code_0 31 rfl rfl rfl)
theorem d_Mm_undercutIn_32 : decode prog_14_method_11_code 32 = .ok (.istore 6, 2) := zo_54 (d := 6) (zd_b zq_prog_14_method_11_code_1 0 rfl rfl rfl) (zd_b zq_prog_14_method_11_code_1 1 rfl rfl rfl)
theorem d_Mm_undercutIn_34 : decode prog_14_method_11_code 34 = .ok (.iload 4, 2) := zo_21 (d := 4) (zd_b zq_prog_14_method_11_code_1 2 rfl rfl rfl) (zd_b zq_prog_14_method_11_code_1 3 rfl rfl rfl)
theorem d_Mm_undercutIn_36 : decode prog_14_method_11_code 36 = .ok (.ifCond .eq 21, 3) := zo_153 (d := 0) (e := 21) (zd_b zq_prog_14_method_11_code_1 4 rfl rfl rfl) (zd_b zq_prog_14_method_11_code_1 5 rfl rfl rfl) (zd_b zq_prog_14_method_11_code_1 6 rfl rfl rfl) (by decide +kernel)
theorem d_Mm_undercutIn_57 : decode prog_14_method_11_code 57 = .ok (.iconst 0, 1) := zo_3 (zd_b zq_prog_14_method_11_code_1 25 rfl rfl rfl)
theorem d_Mm_undercutIn_58 : decode prog_14_method_11_code 58 = .ok (.istore 4, 2) := zo_54 (d := 4) (zd_b zq_prog_14_method_11_code_1 26 rfl rfl rfl) (zd_b zq_prog_14_method_11_code_1 27 rfl rfl rfl)
theorem d_Mm_undercutIn_60 : decode prog_14_method_11_code 60 = .ok (.iload_n 2, 1) := zo_28 (zd_b zq_prog_14_method_11_code_1 28 rfl rfl rfl)
theorem d_Mm_undercutIn_61 : decode prog_14_method_11_code 61 = .ok (.iload 4, 2) := zo_21 (d := 4) (zd_b zq_prog_14_method_11_code_1 29 rfl rfl rfl) (zd_b zq_prog_14_method_11_code_1 30 rfl rfl rfl)
theorem d_Mm_undercutIn_63 : decode prog_14_method_11_code 63 = .ok (.ifCond .ne 15, 3) := zo_154 (d := 0) (e := 15) (zd_b zq_prog_14_method_11_code_1 31 rfl rfl rfl) (zd_b zq_prog_14_method_11_code_2 0 rfl rfl rfl) (zd_b zq_prog_14_method_11_code_2 1 rfl rfl rfl) (by decide +kernel)
theorem d_Mm_undercutIn_66 : decode prog_14_method_11_code 66 = .ok (.iload 6, 2) := zo_21 (d := 6) (zd_b zq_prog_14_method_11_code_2 2 rfl rfl rfl) (zd_b zq_prog_14_method_11_code_2 3 rfl rfl rfl)
theorem d_Mm_undercutIn_68 : decode prog_14_method_11_code 68 = .ok (.invokestatic 107, 3) := zo_184 (d := 0) (e := 107) (zd_b zq_prog_14_method_11_code_2 4 rfl rfl rfl) (zd_b zq_prog_14_method_11_code_2 5 rfl rfl rfl) (zd_b zq_prog_14_method_11_code_2 6 rfl rfl rfl)
theorem d_Mm_undercutIn_71 : decode prog_14_method_11_code 71 = .ok (.ifCond .eq 7, 3) := zo_153 (d := 0) (e := 7) (zd_b zq_prog_14_method_11_code_2 7 rfl rfl rfl) (zd_b zq_prog_14_method_11_code_2 8 rfl rfl rfl) (zd_b zq_prog_14_method_11_code_2 9 rfl rfl rfl) (by decide +kernel)
theorem d_Mm_undercutIn_78 : decode prog_14_method_11_code 78 = .ok (.iconst 0, 1) := zo_3 (zd_b zq_prog_14_method_11_code_2 14 rfl rfl rfl)
theorem d_Mm_undercutIn_79 : decode prog_14_method_11_code 79 = .ok (.iadd, 1) := zo_96 (zd_b zq_prog_14_method_11_code_2 15 rfl rfl rfl)
theorem d_Mm_undercutIn_80 : decode prog_14_method_11_code 80 = .ok (.istore_n 2, 1) := zo_61 (zd_b zq_prog_14_method_11_code_2 16 rfl rfl rfl)
theorem d_Mm_undercutIn_81 : decode prog_14_method_11_code 81 = .ok (.iinc 5 (-1), 3) := by decide +kernel
theorem d_Mm_undercutIn_84 : decode prog_14_method_11_code 84 = .ok (.goto (-66), 3) := zo_167 (d := 255) (e := 190) (zd_b zq_prog_14_method_11_code_2 20 rfl rfl rfl) (zd_b zq_prog_14_method_11_code_2 21 rfl rfl rfl) (zd_b zq_prog_14_method_11_code_2 22 rfl rfl rfl) (by decide +kernel)
theorem d_Mm_undercutIn_74 : decode prog_14_method_11_code 74 = .ok (.iconst 1, 1) := zo_4 (zd_b zq_prog_14_method_11_code_2 10 rfl rfl rfl)
theorem d_Mm_undercutIn_75 : decode prog_14_method_11_code 75 = .ok (.goto 4, 3) := zo_167 (d := 0) (e := 4) (zd_b zq_prog_14_method_11_code_2 11 rfl rfl rfl) (zd_b zq_prog_14_method_11_code_2 12 rfl rfl rfl) (zd_b zq_prog_14_method_11_code_2 13 rfl rfl rfl) (by decide +kernel)
theorem d_Mm_undercutIn_39 : decode prog_14_method_11_code 39 = .ok (.iload 6, 2) := zo_21 (d := 6) (zd_b zq_prog_14_method_11_code_1 7 rfl rfl rfl) (zd_b zq_prog_14_method_11_code_1 8 rfl rfl rfl)
theorem d_Mm_undercutIn_41 : decode prog_14_method_11_code 41 = .ok (.bipush 46, 2) := zo_16 (d := 46) (zd_b zq_prog_14_method_11_code_1 9 rfl rfl rfl) (zd_b zq_prog_14_method_11_code_1 10 rfl rfl rfl) (by decide +kernel)
theorem d_Mm_undercutIn_43 : decode prog_14_method_11_code 43 = .ok (.if_icmp .eq 14, 3) := zo_159 (d := 0) (e := 14) (zd_b zq_prog_14_method_11_code_1 11 rfl rfl rfl) (zd_b zq_prog_14_method_11_code_1 12 rfl rfl rfl) (zd_b zq_prog_14_method_11_code_1 13 rfl rfl rfl) (by decide +kernel)
theorem d_Mm_undercutIn_46 : decode prog_14_method_11_code 46 = .ok (.iload 6, 2) := zo_21 (d := 6) (zd_b zq_prog_14_method_11_code_1 14 rfl rfl rfl) (zd_b zq_prog_14_method_11_code_1 15 rfl rfl rfl)
theorem d_Mm_undercutIn_48 : decode prog_14_method_11_code 48 = .ok (.bipush 107, 2) := zo_16 (d := 107) (zd_b zq_prog_14_method_11_code_1 16 rfl rfl rfl) (zd_b zq_prog_14_method_11_code_1 17 rfl rfl rfl) (by decide +kernel)
theorem d_Mm_undercutIn_50 : decode prog_14_method_11_code 50 = .ok (.if_icmp .eq 7, 3) := zo_159 (d := 0) (e := 7) (zd_b zq_prog_14_method_11_code_1 18 rfl rfl rfl) (zd_b zq_prog_14_method_11_code_1 19 rfl rfl rfl) (zd_b zq_prog_14_method_11_code_1 20 rfl rfl rfl) (by decide +kernel)
theorem d_Mm_undercutIn_53 : decode prog_14_method_11_code 53 = .ok (.iconst 1, 1) := zo_4 (zd_b zq_prog_14_method_11_code_1 21 rfl rfl rfl)
theorem d_Mm_undercutIn_54 : decode prog_14_method_11_code 54 = .ok (.goto 4, 3) := zo_167 (d := 0) (e := 4) (zd_b zq_prog_14_method_11_code_1 22 rfl rfl rfl) (zd_b zq_prog_14_method_11_code_1 23 rfl rfl rfl) (zd_b zq_prog_14_method_11_code_1 24 rfl rfl rfl) (by decide +kernel)
theorem d_Mm_undercutIn_4 : decode prog_14_method_11_code 4 = .ok (.iload_n 3, 1) := zo_29 (zd_b zq_prog_14_method_11_code_0 4 rfl rfl rfl)
theorem d_Mm_undercutIn_5 : decode prog_14_method_11_code 5 = .ok (.bipush 12, 2) := zo_16 (d := 12) (zd_b zq_prog_14_method_11_code_0 5 rfl rfl rfl) (zd_b zq_prog_14_method_11_code_0 6 rfl rfl rfl) (by decide +kernel)
theorem d_Mm_undercutIn_7 : decode prog_14_method_11_code 7 = .ok (.if_icmp .ge 163, 3) := zo_162 (d := 0) (e := 163) (zd_b zq_prog_14_method_11_code_0 7 rfl rfl rfl) (zd_b zq_prog_14_method_11_code_0 8 rfl rfl rfl) (zd_b zq_prog_14_method_11_code_0 9 rfl rfl rfl) (by decide +kernel)
theorem d_Mm_undercutIn_170 : decode prog_14_method_11_code 170 = .ok (.iload_n 2, 1) := zo_28 (zd_b zq_prog_14_method_11_code_5 10 rfl rfl rfl)
theorem d_Mm_undercutIn_171 : decode prog_14_method_11_code 171 = .ok (.ireturn, 1) := zo_172 (zd_b zq_prog_14_method_11_code_5 11 rfl rfl rfl)
theorem d_Mm_undercutIn_10 : decode prog_14_method_11_code 10 = .ok (.iconst 1, 1) := zo_4 (zd_b zq_prog_14_method_11_code_0 10 rfl rfl rfl)
theorem d_Mm_undercutIn_11 : decode prog_14_method_11_code 11 = .ok (.istore 4, 2) := zo_54 (d := 4) (zd_b zq_prog_14_method_11_code_0 11 rfl rfl rfl) (zd_b zq_prog_14_method_11_code_0 12 rfl rfl rfl)
theorem d_Mm_undercutIn_13 : decode prog_14_method_11_code 13 = .ok (.iload_n 1, 1) := zo_27 (zd_b zq_prog_14_method_11_code_0 13 rfl rfl rfl)
theorem d_Mm_undercutIn_14 : decode prog_14_method_11_code 14 = .ok (.iconst 1, 1) := zo_4 (zd_b zq_prog_14_method_11_code_0 14 rfl rfl rfl)
theorem d_Mm_undercutIn_15 : decode prog_14_method_11_code 15 = .ok (.isub, 1) := zo_100 (zd_b zq_prog_14_method_11_code_0 15 rfl rfl rfl)
theorem d_Mm_undercutIn_16 : decode prog_14_method_11_code 16 = .ok (.istore 5, 2) := zo_54 (d := 5) (zd_b zq_prog_14_method_11_code_0 16 rfl rfl rfl) (zd_b zq_prog_14_method_11_code_0 17 rfl rfl rfl)
theorem d_Mm_undercutIn_87 : decode prog_14_method_11_code 87 = .ok (.iconst 1, 1) := zo_4 (zd_b zq_prog_14_method_11_code_2 23 rfl rfl rfl)
theorem d_Mm_undercutIn_88 : decode prog_14_method_11_code 88 = .ok (.istore 4, 2) := zo_54 (d := 4) (zd_b zq_prog_14_method_11_code_2 24 rfl rfl rfl) (zd_b zq_prog_14_method_11_code_2 25 rfl rfl rfl)
theorem d_Mm_undercutIn_90 : decode prog_14_method_11_code 90 = .ok (.iload_n 1, 1) := zo_27 (zd_b zq_prog_14_method_11_code_2 26 rfl rfl rfl)
theorem d_Mm_undercutIn_91 : decode prog_14_method_11_code 91 = .ok (.istore 5, 2) := zo_54 (d := 5) (zd_b zq_prog_14_method_11_code_2 27 rfl rfl rfl) (zd_b zq_prog_14_method_11_code_2 28 rfl rfl rfl)
theorem d_Mm_undercutIn_164 : decode prog_14_method_11_code 164 = .ok (.iinc 3 1, 3) := by decide +kernel
theorem d_Mm_undercutIn_167 : decode prog_14_method_11_code 167 = .ok (.goto (-163), 3) := zo_167 (d := 255) (e := 93) (zd_b zq_prog_14_method_11_code_5 7 rfl rfl rfl) (zd_b zq_prog_14_method_11_code_5 8 rfl rfl rfl) (zd_b zq_prog_14_method_11_code_5 9 rfl rfl rfl) (by decide +kernel)
theorem d_Mm_undercutIn_0 : decode prog_14_method_11_code 0 = .ok (.iconst 0, 1) := zo_3 (zd_b zq_prog_14_method_11_code_0 0 rfl rfl rfl)
theorem d_Mm_undercutIn_1 : decode prog_14_method_11_code 1 = .ok (.istore_n 2, 1) := zo_61 (zd_b zq_prog_14_method_11_code_0 1 rfl rfl rfl)
theorem d_Mm_undercutIn_2 : decode prog_14_method_11_code 2 = .ok (.iconst 0, 1) := zo_3 (zd_b zq_prog_14_method_11_code_0 2 rfl rfl rfl)
theorem d_Mm_undercutIn_3 : decode prog_14_method_11_code 3 = .ok (.istore_n 3, 1) := zo_62 (zd_b zq_prog_14_method_11_code_0 3 rfl rfl rfl)
set_option maxHeartbeats 4000000 in
set_option maxRecDepth 100000 in
theorem L_Mm_undercutIn_93 (g : zG) (b : Nat) (f : Nat → Int32) (p : Nat) (hp1 : 1 ≤ p) (hp : p < 9) (hf : z_ch f) (w0 : zW) (n : Nat) (x : Nat) (hx : x < 12) (K : DV g M_Mm_undercutIn (fun o cs1 => o = .inl (some (.int (nI (ucT f p 12)))) ∧ cs1 = [(b, .inl (1, 108, .inl f))]) w0 n 164 [(5, .int (nI (p + (9 - p)))), (4, .int ((ucS (fun k => f ((p + k) * 12 + x)) (9 - p)).1)), (3, .int (nI x)), (2, .int (nI (ucT f p x + (ucS (fun k => f ((p - 1 - k) * 12 + x)) p).2 + (ucS (fun k => f ((p + k) * 12 + x)) (9 - p)).2))), (0, .ref b), (1, .int (nI p))] [] [(b, .inl (1, 108, .inl f))] 0 0) : ∀ (d i : Nat), i ≤ (9 - p) → (9 - p) < i + d → DV g M_Mm_undercutIn (fun o cs1 => o = .inl (some (.int (nI (ucT f p 12)))) ∧ cs1 = [(b, .inl (1, 108, .inl f))]) w0 n 93 [(5, .int (nI (p + i))), (4, .int ((ucS (fun k => f ((p + k) * 12 + x)) i).1)), (3, .int (nI x)), (2, .int (nI (ucT f p x + (ucS (fun k => f ((p - 1 - k) * 12 + x)) p).2 + (ucS (fun k => f ((p + k) * 12 + x)) i).2))), (0, .ref b), (1, .int (nI p))] [] [(b, .inl (1, 108, .inl f))] 0 0 := by
  intro d
  induction d with
  | zero => intro i h1 h2 ; exact absurd h2 (by omega)
  | succ d ih =>
    intro i h1 h2 
    refine r_iload d_Mm_undercutIn_93 0 rfl ?_
    refine r_bipush d_Mm_undercutIn_95 (v := 9) (by decide) ?_
    refine r_icmp_ge (tgt := 164) d_Mm_undercutIn_97 (by decide) (fun c_97 => ?_) (fun c_97 => ?_)
    · have hn := z_le (a := 9) (by omega) (by decide) c_97
      have hv : i = 9 - p := by omega
      rw [hv]
      refine r_lv (lv' := [(5, .int (nI (p + (9 - p)))), (4, .int ((ucS (fun k => f ((p + k) * 12 + x)) (9 - p)).1)), (3, .int (nI x)), (2, .int (nI (ucT f p x + (ucS (fun k => f ((p - 1 - k) * 12 + x)) p).2 + (ucS (fun k => f ((p + k) * 12 + x)) (9 - p)).2))), (0, .ref b), (1, .int (nI p))]) [0, 1, 2, 3, 4, 5] rfl ?_
      exact K
    · have hn := z_nle (a := 9) (by omega) (by decide) c_97
      refine r_aload_n d_Mm_undercutIn_100 rfl 4 rfl ?_
      refine r_bipush d_Mm_undercutIn_101 (v := 12) (by decide) ?_
      refine r_iload d_Mm_undercutIn_103 0 rfl ?_
      refine r_imul d_Mm_undercutIn_105 (v := nI (12 * (p + i))) (pk_mul _ _) ?_
      refine r_iload_n d_Mm_undercutIn_106 rfl 2 rfl ?_
      refine r_iadd d_Mm_undercutIn_107 (v := nI ((p + i) * 12 + x)) (by rw [nI_add]; congr 1; omega) ?_
      refine r_cald d_Mm_undercutIn_108 (q0 := 0) rfl (vp_in_nI (by omega) (by omega)) (v := f ((p + i) * 12 + x)) (by rw [nI_clamp (by omega)]) ?_
      refine r_istore (lv' := [(6, .int (f ((p + i) * 12 + x))), (5, .int (nI (p + i))), (4, .int ((ucS (fun k => f ((p + k) * 12 + x)) i).1)), (3, .int (nI x)), (2, .int (nI (ucT f p x + (ucS (fun k => f ((p - 1 - k) * 12 + x)) p).2 + (ucS (fun k => f ((p + k) * 12 + x)) i).2))), (0, .ref b), (1, .int (nI p))]) d_Mm_undercutIn_109 (by decide) rfl ?_
      refine r_iload d_Mm_undercutIn_111 2 rfl ?_
      refine r_if_eq (tgt := 134) d_Mm_undercutIn_113 (by decide) (fun c_113 => ?_) (fun c_113 => ?_)
      · have hA : (ucS (fun k => f ((p + k) * 12 + x)) i).1 = 0 ∨ f ((p + i) * 12 + x) = 46 ∨ f ((p + i) * 12 + x) = 107 := Or.inl c_113
        refine r_iconst d_Mm_undercutIn_134 (v := 0) (by decide) ?_
        refine r_istore (lv' := [(4, .int 0), (6, .int (f ((p + i) * 12 + x))), (5, .int (nI (p + i))), (3, .int (nI x)), (2, .int (nI (ucT f p x + (ucS (fun k => f ((p - 1 - k) * 12 + x)) p).2 + (ucS (fun k => f ((p + k) * 12 + x)) i).2))), (0, .ref b), (1, .int (nI p))]) d_Mm_undercutIn_135 (by decide) rfl ?_
        refine r_iload_n d_Mm_undercutIn_137 rfl 4 rfl ?_
        refine r_iload d_Mm_undercutIn_138 0 rfl ?_
        refine r_if_ne (tgt := 155) d_Mm_undercutIn_140 (by decide) (fun c_140 => ?_) (fun c_140 => ?_)
        · exact absurd c_140 (by decide)
        · refine r_iload d_Mm_undercutIn_143 1 rfl ?_
          refine r_callS (As := [.int (f ((p + i) * 12 + x))]) (rest := [.int (nI (ucT f p x + (ucS (fun k => f ((p - 1 - k) * 12 + x)) p).2 + (ucS (fun k => f ((p + k) * 12 + x)) i).2))]) (csC := []) (is := []) ln_Mm_107 w_st_Mm_isMetal ok_Mm_undercutIn_Mm_isMetal d_Mm_undercutIn_145 (C_Mm_isMetal g (f ((p + i) * 12 + x))) rfl rfl (Nat.le_of_ble_eq_true rfl) rfl (by decide) (by omega) (by omega) (fun E cs1 hx => ?_) (fun v cs1 hx => ?_)
          · exact absurd hx.1 (by simp)
          · obtain ⟨e1, rfl⟩ := hx
            cases e1
            refine ⟨rfl, ?_⟩
            refine r_st (st2 := [.int (z_bi (tmB (f ((p + i) * 12 + x)))), .int (nI (ucT f p x + (ucS (fun k => f ((p - 1 - k) * 12 + x)) p).2 + (ucS (fun k => f ((p + k) * 12 + x)) i).2))]) rfl ?_
            refine r_cs (cs2 := [(b, .inl (1, 108, .inl f))]) rfl ?_
            refine r_if_eq (tgt := 155) d_Mm_undercutIn_148 (by decide) (fun c_148 => ?_) (fun c_148 => ?_)
            · have hk : ucS (fun k => f ((p + k) * 12 + x)) (i + 1) = (0, (ucS (fun k => f ((p + k) * 12 + x)) i).2 + 0) := by rw [ucR (ks := (fun k => f ((p + k) * 12 + x))) (hf _ (by omega)), if_pos hA, if_neg (fun q => by have := z_bi0 c_148; rw [q.2] at this; cases this)]
              refine r_iconst d_Mm_undercutIn_155 (v := 0) (by decide) ?_
              refine r_iadd d_Mm_undercutIn_156 (v := nI ((ucT f p x + (ucS (fun k => f ((p - 1 - k) * 12 + x)) p).2 + (ucS (fun k => f ((p + k) * 12 + x)) i).2) + 0)) (nI_add _ _) ?_
              refine r_istore_n (lv' := [(2, .int (nI ((ucT f p x + (ucS (fun k => f ((p - 1 - k) * 12 + x)) p).2 + (ucS (fun k => f ((p + k) * 12 + x)) i).2) + 0))), (4, .int 0), (6, .int (f ((p + i) * 12 + x))), (5, .int (nI (p + i))), (3, .int (nI x)), (0, .ref b), (1, .int (nI p))]) d_Mm_undercutIn_157 rfl (by decide) rfl ?_
              refine r_iinc (lv' := [(5, .int (nI ((p + i) + 1))), (2, .int (nI ((ucT f p x + (ucS (fun k => f ((p - 1 - k) * 12 + x)) p).2 + (ucS (fun k => f ((p + k) * 12 + x)) i).2) + 0))), (4, .int 0), (6, .int (f ((p + i) * 12 + x))), (3, .int (nI x)), (0, .ref b), (1, .int (nI p))]) (v := nI ((p + i) + 1)) d_Mm_undercutIn_158 (j := 3) rfl (nI_add _ _) (by decide) rfl ?_
              refine r_goto (tgt := 93) d_Mm_undercutIn_161 (by decide) ?_
              refine r_lv (lv' := [(5, .int (nI ((p + i) + 1))), (4, .int 0), (3, .int (nI x)), (2, .int (nI ((ucT f p x + (ucS (fun k => f ((p - 1 - k) * 12 + x)) p).2 + (ucS (fun k => f ((p + k) * 12 + x)) i).2) + 0))), (0, .ref b), (1, .int (nI p))]) [0, 2, 4, 1, 5, 6] rfl ?_
              refine r_lvE (lv2 := [(5, .int (nI (p + (i + 1)))), (4, .int ((ucS (fun k => f ((p + k) * 12 + x)) (i + 1)).1)), (3, .int (nI x)), (2, .int (nI (ucT f p x + (ucS (fun k => f ((p - 1 - k) * 12 + x)) p).2 + (ucS (fun k => f ((p + k) * 12 + x)) (i + 1)).2))), (0, .ref b), (1, .int (nI p))]) (by rw [hk] <;> rfl) ?_
              refine r_cs (cs2 := [(b, .inl (1, 108, .inl f))]) (rfl) ?_
              exact ih (i + 1) (by omega) (by omega)
            · have hk : ucS (fun k => f ((p + k) * 12 + x)) (i + 1) = (0, (ucS (fun k => f ((p + k) * 12 + x)) i).2 + 1) := by rw [ucR (ks := (fun k => f ((p + k) * 12 + x))) (hf _ (by omega)), if_pos hA, if_pos ⟨hA, z_bi1 c_148⟩]
              refine r_iconst d_Mm_undercutIn_151 (v := 1) (by decide) ?_
              refine r_goto (tgt := 156) d_Mm_undercutIn_152 (by decide) ?_
              refine r_iadd d_Mm_undercutIn_156 (v := nI ((ucT f p x + (ucS (fun k => f ((p - 1 - k) * 12 + x)) p).2 + (ucS (fun k => f ((p + k) * 12 + x)) i).2) + 1)) (nI_add _ _) ?_
              refine r_istore_n (lv' := [(2, .int (nI ((ucT f p x + (ucS (fun k => f ((p - 1 - k) * 12 + x)) p).2 + (ucS (fun k => f ((p + k) * 12 + x)) i).2) + 1))), (4, .int 0), (6, .int (f ((p + i) * 12 + x))), (5, .int (nI (p + i))), (3, .int (nI x)), (0, .ref b), (1, .int (nI p))]) d_Mm_undercutIn_157 rfl (by decide) rfl ?_
              refine r_iinc (lv' := [(5, .int (nI ((p + i) + 1))), (2, .int (nI ((ucT f p x + (ucS (fun k => f ((p - 1 - k) * 12 + x)) p).2 + (ucS (fun k => f ((p + k) * 12 + x)) i).2) + 1))), (4, .int 0), (6, .int (f ((p + i) * 12 + x))), (3, .int (nI x)), (0, .ref b), (1, .int (nI p))]) (v := nI ((p + i) + 1)) d_Mm_undercutIn_158 (j := 3) rfl (nI_add _ _) (by decide) rfl ?_
              refine r_goto (tgt := 93) d_Mm_undercutIn_161 (by decide) ?_
              refine r_lv (lv' := [(5, .int (nI ((p + i) + 1))), (4, .int 0), (3, .int (nI x)), (2, .int (nI ((ucT f p x + (ucS (fun k => f ((p - 1 - k) * 12 + x)) p).2 + (ucS (fun k => f ((p + k) * 12 + x)) i).2) + 1))), (0, .ref b), (1, .int (nI p))]) [0, 2, 4, 1, 5, 6] rfl ?_
              refine r_lvE (lv2 := [(5, .int (nI (p + (i + 1)))), (4, .int ((ucS (fun k => f ((p + k) * 12 + x)) (i + 1)).1)), (3, .int (nI x)), (2, .int (nI (ucT f p x + (ucS (fun k => f ((p - 1 - k) * 12 + x)) p).2 + (ucS (fun k => f ((p + k) * 12 + x)) (i + 1)).2))), (0, .ref b), (1, .int (nI p))]) (by rw [hk] <;> rfl) ?_
              refine r_cs (cs2 := [(b, .inl (1, 108, .inl f))]) (rfl) ?_
              exact ih (i + 1) (by omega) (by omega)
      · refine r_iload d_Mm_undercutIn_116 0 rfl ?_
        refine r_bipush d_Mm_undercutIn_118 (v := 46) (by decide) ?_
        refine r_icmp_eq (tgt := 134) d_Mm_undercutIn_120 (by decide) (fun c_120 => ?_) (fun c_120 => ?_)
        · have hA : (ucS (fun k => f ((p + k) * 12 + x)) i).1 = 0 ∨ f ((p + i) * 12 + x) = 46 ∨ f ((p + i) * 12 + x) = 107 := Or.inr (Or.inl c_120)
          refine r_iconst d_Mm_undercutIn_134 (v := 0) (by decide) ?_
          refine r_istore (lv' := [(4, .int 0), (6, .int (f ((p + i) * 12 + x))), (5, .int (nI (p + i))), (3, .int (nI x)), (2, .int (nI (ucT f p x + (ucS (fun k => f ((p - 1 - k) * 12 + x)) p).2 + (ucS (fun k => f ((p + k) * 12 + x)) i).2))), (0, .ref b), (1, .int (nI p))]) d_Mm_undercutIn_135 (by decide) rfl ?_
          refine r_iload_n d_Mm_undercutIn_137 rfl 4 rfl ?_
          refine r_iload d_Mm_undercutIn_138 0 rfl ?_
          refine r_if_ne (tgt := 155) d_Mm_undercutIn_140 (by decide) (fun c_140 => ?_) (fun c_140 => ?_)
          · exact absurd c_140 (by decide)
          · refine r_iload d_Mm_undercutIn_143 1 rfl ?_
            refine r_callS (As := [.int (f ((p + i) * 12 + x))]) (rest := [.int (nI (ucT f p x + (ucS (fun k => f ((p - 1 - k) * 12 + x)) p).2 + (ucS (fun k => f ((p + k) * 12 + x)) i).2))]) (csC := []) (is := []) ln_Mm_107 w_st_Mm_isMetal ok_Mm_undercutIn_Mm_isMetal d_Mm_undercutIn_145 (C_Mm_isMetal g (f ((p + i) * 12 + x))) rfl rfl (Nat.le_of_ble_eq_true rfl) rfl (by decide) (by omega) (by omega) (fun E cs1 hx => ?_) (fun v cs1 hx => ?_)
            · exact absurd hx.1 (by simp)
            · obtain ⟨e1, rfl⟩ := hx
              cases e1
              refine ⟨rfl, ?_⟩
              refine r_st (st2 := [.int (z_bi (tmB (f ((p + i) * 12 + x)))), .int (nI (ucT f p x + (ucS (fun k => f ((p - 1 - k) * 12 + x)) p).2 + (ucS (fun k => f ((p + k) * 12 + x)) i).2))]) rfl ?_
              refine r_cs (cs2 := [(b, .inl (1, 108, .inl f))]) rfl ?_
              refine r_if_eq (tgt := 155) d_Mm_undercutIn_148 (by decide) (fun c_148 => ?_) (fun c_148 => ?_)
              · have hk : ucS (fun k => f ((p + k) * 12 + x)) (i + 1) = (0, (ucS (fun k => f ((p + k) * 12 + x)) i).2 + 0) := by rw [ucR (ks := (fun k => f ((p + k) * 12 + x))) (hf _ (by omega)), if_pos hA, if_neg (fun q => by have := z_bi0 c_148; rw [q.2] at this; cases this)]
                refine r_iconst d_Mm_undercutIn_155 (v := 0) (by decide) ?_
                refine r_iadd d_Mm_undercutIn_156 (v := nI ((ucT f p x + (ucS (fun k => f ((p - 1 - k) * 12 + x)) p).2 + (ucS (fun k => f ((p + k) * 12 + x)) i).2) + 0)) (nI_add _ _) ?_
                refine r_istore_n (lv' := [(2, .int (nI ((ucT f p x + (ucS (fun k => f ((p - 1 - k) * 12 + x)) p).2 + (ucS (fun k => f ((p + k) * 12 + x)) i).2) + 0))), (4, .int 0), (6, .int (f ((p + i) * 12 + x))), (5, .int (nI (p + i))), (3, .int (nI x)), (0, .ref b), (1, .int (nI p))]) d_Mm_undercutIn_157 rfl (by decide) rfl ?_
                refine r_iinc (lv' := [(5, .int (nI ((p + i) + 1))), (2, .int (nI ((ucT f p x + (ucS (fun k => f ((p - 1 - k) * 12 + x)) p).2 + (ucS (fun k => f ((p + k) * 12 + x)) i).2) + 0))), (4, .int 0), (6, .int (f ((p + i) * 12 + x))), (3, .int (nI x)), (0, .ref b), (1, .int (nI p))]) (v := nI ((p + i) + 1)) d_Mm_undercutIn_158 (j := 3) rfl (nI_add _ _) (by decide) rfl ?_
                refine r_goto (tgt := 93) d_Mm_undercutIn_161 (by decide) ?_
                refine r_lv (lv' := [(5, .int (nI ((p + i) + 1))), (4, .int 0), (3, .int (nI x)), (2, .int (nI ((ucT f p x + (ucS (fun k => f ((p - 1 - k) * 12 + x)) p).2 + (ucS (fun k => f ((p + k) * 12 + x)) i).2) + 0))), (0, .ref b), (1, .int (nI p))]) [0, 2, 4, 1, 5, 6] rfl ?_
                refine r_lvE (lv2 := [(5, .int (nI (p + (i + 1)))), (4, .int ((ucS (fun k => f ((p + k) * 12 + x)) (i + 1)).1)), (3, .int (nI x)), (2, .int (nI (ucT f p x + (ucS (fun k => f ((p - 1 - k) * 12 + x)) p).2 + (ucS (fun k => f ((p + k) * 12 + x)) (i + 1)).2))), (0, .ref b), (1, .int (nI p))]) (by rw [hk] <;> rfl) ?_
                refine r_cs (cs2 := [(b, .inl (1, 108, .inl f))]) (rfl) ?_
                exact ih (i + 1) (by omega) (by omega)
              · have hk : ucS (fun k => f ((p + k) * 12 + x)) (i + 1) = (0, (ucS (fun k => f ((p + k) * 12 + x)) i).2 + 1) := by rw [ucR (ks := (fun k => f ((p + k) * 12 + x))) (hf _ (by omega)), if_pos hA, if_pos ⟨hA, z_bi1 c_148⟩]
                refine r_iconst d_Mm_undercutIn_151 (v := 1) (by decide) ?_
                refine r_goto (tgt := 156) d_Mm_undercutIn_152 (by decide) ?_
                refine r_iadd d_Mm_undercutIn_156 (v := nI ((ucT f p x + (ucS (fun k => f ((p - 1 - k) * 12 + x)) p).2 + (ucS (fun k => f ((p + k) * 12 + x)) i).2) + 1)) (nI_add _ _) ?_
                refine r_istore_n (lv' := [(2, .int (nI ((ucT f p x + (ucS (fun k => f ((p - 1 - k) * 12 + x)) p).2 + (ucS (fun k => f ((p + k) * 12 + x)) i).2) + 1))), (4, .int 0), (6, .int (f ((p + i) * 12 + x))), (5, .int (nI (p + i))), (3, .int (nI x)), (0, .ref b), (1, .int (nI p))]) d_Mm_undercutIn_157 rfl (by decide) rfl ?_
                refine r_iinc (lv' := [(5, .int (nI ((p + i) + 1))), (2, .int (nI ((ucT f p x + (ucS (fun k => f ((p - 1 - k) * 12 + x)) p).2 + (ucS (fun k => f ((p + k) * 12 + x)) i).2) + 1))), (4, .int 0), (6, .int (f ((p + i) * 12 + x))), (3, .int (nI x)), (0, .ref b), (1, .int (nI p))]) (v := nI ((p + i) + 1)) d_Mm_undercutIn_158 (j := 3) rfl (nI_add _ _) (by decide) rfl ?_
                refine r_goto (tgt := 93) d_Mm_undercutIn_161 (by decide) ?_
                refine r_lv (lv' := [(5, .int (nI ((p + i) + 1))), (4, .int 0), (3, .int (nI x)), (2, .int (nI ((ucT f p x + (ucS (fun k => f ((p - 1 - k) * 12 + x)) p).2 + (ucS (fun k => f ((p + k) * 12 + x)) i).2) + 1))), (0, .ref b), (1, .int (nI p))]) [0, 2, 4, 1, 5, 6] rfl ?_
                refine r_lvE (lv2 := [(5, .int (nI (p + (i + 1)))), (4, .int ((ucS (fun k => f ((p + k) * 12 + x)) (i + 1)).1)), (3, .int (nI x)), (2, .int (nI (ucT f p x + (ucS (fun k => f ((p - 1 - k) * 12 + x)) p).2 + (ucS (fun k => f ((p + k) * 12 + x)) (i + 1)).2))), (0, .ref b), (1, .int (nI p))]) (by rw [hk] <;> rfl) ?_
                refine r_cs (cs2 := [(b, .inl (1, 108, .inl f))]) (rfl) ?_
                exact ih (i + 1) (by omega) (by omega)
        · refine r_iload d_Mm_undercutIn_123 0 rfl ?_
          refine r_bipush d_Mm_undercutIn_125 (v := 107) (by decide) ?_
          refine r_icmp_eq (tgt := 134) d_Mm_undercutIn_127 (by decide) (fun c_127 => ?_) (fun c_127 => ?_)
          · have hA : (ucS (fun k => f ((p + k) * 12 + x)) i).1 = 0 ∨ f ((p + i) * 12 + x) = 46 ∨ f ((p + i) * 12 + x) = 107 := Or.inr (Or.inr c_127)
            refine r_iconst d_Mm_undercutIn_134 (v := 0) (by decide) ?_
            refine r_istore (lv' := [(4, .int 0), (6, .int (f ((p + i) * 12 + x))), (5, .int (nI (p + i))), (3, .int (nI x)), (2, .int (nI (ucT f p x + (ucS (fun k => f ((p - 1 - k) * 12 + x)) p).2 + (ucS (fun k => f ((p + k) * 12 + x)) i).2))), (0, .ref b), (1, .int (nI p))]) d_Mm_undercutIn_135 (by decide) rfl ?_
            refine r_iload_n d_Mm_undercutIn_137 rfl 4 rfl ?_
            refine r_iload d_Mm_undercutIn_138 0 rfl ?_
            refine r_if_ne (tgt := 155) d_Mm_undercutIn_140 (by decide) (fun c_140 => ?_) (fun c_140 => ?_)
            · exact absurd c_140 (by decide)
            · refine r_iload d_Mm_undercutIn_143 1 rfl ?_
              refine r_callS (As := [.int (f ((p + i) * 12 + x))]) (rest := [.int (nI (ucT f p x + (ucS (fun k => f ((p - 1 - k) * 12 + x)) p).2 + (ucS (fun k => f ((p + k) * 12 + x)) i).2))]) (csC := []) (is := []) ln_Mm_107 w_st_Mm_isMetal ok_Mm_undercutIn_Mm_isMetal d_Mm_undercutIn_145 (C_Mm_isMetal g (f ((p + i) * 12 + x))) rfl rfl (Nat.le_of_ble_eq_true rfl) rfl (by decide) (by omega) (by omega) (fun E cs1 hx => ?_) (fun v cs1 hx => ?_)
              · exact absurd hx.1 (by simp)
              · obtain ⟨e1, rfl⟩ := hx
                cases e1
                refine ⟨rfl, ?_⟩
                refine r_st (st2 := [.int (z_bi (tmB (f ((p + i) * 12 + x)))), .int (nI (ucT f p x + (ucS (fun k => f ((p - 1 - k) * 12 + x)) p).2 + (ucS (fun k => f ((p + k) * 12 + x)) i).2))]) rfl ?_
                refine r_cs (cs2 := [(b, .inl (1, 108, .inl f))]) rfl ?_
                refine r_if_eq (tgt := 155) d_Mm_undercutIn_148 (by decide) (fun c_148 => ?_) (fun c_148 => ?_)
                · have hk : ucS (fun k => f ((p + k) * 12 + x)) (i + 1) = (0, (ucS (fun k => f ((p + k) * 12 + x)) i).2 + 0) := by rw [ucR (ks := (fun k => f ((p + k) * 12 + x))) (hf _ (by omega)), if_pos hA, if_neg (fun q => by have := z_bi0 c_148; rw [q.2] at this; cases this)]
                  refine r_iconst d_Mm_undercutIn_155 (v := 0) (by decide) ?_
                  refine r_iadd d_Mm_undercutIn_156 (v := nI ((ucT f p x + (ucS (fun k => f ((p - 1 - k) * 12 + x)) p).2 + (ucS (fun k => f ((p + k) * 12 + x)) i).2) + 0)) (nI_add _ _) ?_
                  refine r_istore_n (lv' := [(2, .int (nI ((ucT f p x + (ucS (fun k => f ((p - 1 - k) * 12 + x)) p).2 + (ucS (fun k => f ((p + k) * 12 + x)) i).2) + 0))), (4, .int 0), (6, .int (f ((p + i) * 12 + x))), (5, .int (nI (p + i))), (3, .int (nI x)), (0, .ref b), (1, .int (nI p))]) d_Mm_undercutIn_157 rfl (by decide) rfl ?_
                  refine r_iinc (lv' := [(5, .int (nI ((p + i) + 1))), (2, .int (nI ((ucT f p x + (ucS (fun k => f ((p - 1 - k) * 12 + x)) p).2 + (ucS (fun k => f ((p + k) * 12 + x)) i).2) + 0))), (4, .int 0), (6, .int (f ((p + i) * 12 + x))), (3, .int (nI x)), (0, .ref b), (1, .int (nI p))]) (v := nI ((p + i) + 1)) d_Mm_undercutIn_158 (j := 3) rfl (nI_add _ _) (by decide) rfl ?_
                  refine r_goto (tgt := 93) d_Mm_undercutIn_161 (by decide) ?_
                  refine r_lv (lv' := [(5, .int (nI ((p + i) + 1))), (4, .int 0), (3, .int (nI x)), (2, .int (nI ((ucT f p x + (ucS (fun k => f ((p - 1 - k) * 12 + x)) p).2 + (ucS (fun k => f ((p + k) * 12 + x)) i).2) + 0))), (0, .ref b), (1, .int (nI p))]) [0, 2, 4, 1, 5, 6] rfl ?_
                  refine r_lvE (lv2 := [(5, .int (nI (p + (i + 1)))), (4, .int ((ucS (fun k => f ((p + k) * 12 + x)) (i + 1)).1)), (3, .int (nI x)), (2, .int (nI (ucT f p x + (ucS (fun k => f ((p - 1 - k) * 12 + x)) p).2 + (ucS (fun k => f ((p + k) * 12 + x)) (i + 1)).2))), (0, .ref b), (1, .int (nI p))]) (by rw [hk] <;> rfl) ?_
                  refine r_cs (cs2 := [(b, .inl (1, 108, .inl f))]) (rfl) ?_
                  exact ih (i + 1) (by omega) (by omega)
                · have hk : ucS (fun k => f ((p + k) * 12 + x)) (i + 1) = (0, (ucS (fun k => f ((p + k) * 12 + x)) i).2 + 1) := by rw [ucR (ks := (fun k => f ((p + k) * 12 + x))) (hf _ (by omega)), if_pos hA, if_pos ⟨hA, z_bi1 c_148⟩]
                  refine r_iconst d_Mm_undercutIn_151 (v := 1) (by decide) ?_
                  refine r_goto (tgt := 156) d_Mm_undercutIn_152 (by decide) ?_
                  refine r_iadd d_Mm_undercutIn_156 (v := nI ((ucT f p x + (ucS (fun k => f ((p - 1 - k) * 12 + x)) p).2 + (ucS (fun k => f ((p + k) * 12 + x)) i).2) + 1)) (nI_add _ _) ?_
                  refine r_istore_n (lv' := [(2, .int (nI ((ucT f p x + (ucS (fun k => f ((p - 1 - k) * 12 + x)) p).2 + (ucS (fun k => f ((p + k) * 12 + x)) i).2) + 1))), (4, .int 0), (6, .int (f ((p + i) * 12 + x))), (5, .int (nI (p + i))), (3, .int (nI x)), (0, .ref b), (1, .int (nI p))]) d_Mm_undercutIn_157 rfl (by decide) rfl ?_
                  refine r_iinc (lv' := [(5, .int (nI ((p + i) + 1))), (2, .int (nI ((ucT f p x + (ucS (fun k => f ((p - 1 - k) * 12 + x)) p).2 + (ucS (fun k => f ((p + k) * 12 + x)) i).2) + 1))), (4, .int 0), (6, .int (f ((p + i) * 12 + x))), (3, .int (nI x)), (0, .ref b), (1, .int (nI p))]) (v := nI ((p + i) + 1)) d_Mm_undercutIn_158 (j := 3) rfl (nI_add _ _) (by decide) rfl ?_
                  refine r_goto (tgt := 93) d_Mm_undercutIn_161 (by decide) ?_
                  refine r_lv (lv' := [(5, .int (nI ((p + i) + 1))), (4, .int 0), (3, .int (nI x)), (2, .int (nI ((ucT f p x + (ucS (fun k => f ((p - 1 - k) * 12 + x)) p).2 + (ucS (fun k => f ((p + k) * 12 + x)) i).2) + 1))), (0, .ref b), (1, .int (nI p))]) [0, 2, 4, 1, 5, 6] rfl ?_
                  refine r_lvE (lv2 := [(5, .int (nI (p + (i + 1)))), (4, .int ((ucS (fun k => f ((p + k) * 12 + x)) (i + 1)).1)), (3, .int (nI x)), (2, .int (nI (ucT f p x + (ucS (fun k => f ((p - 1 - k) * 12 + x)) p).2 + (ucS (fun k => f ((p + k) * 12 + x)) (i + 1)).2))), (0, .ref b), (1, .int (nI p))]) (by rw [hk] <;> rfl) ?_
                  refine r_cs (cs2 := [(b, .inl (1, 108, .inl f))]) (rfl) ?_
                  exact ih (i + 1) (by omega) (by omega)
          · have hA : ¬ ((ucS (fun k => f ((p + k) * 12 + x)) i).1 = 0 ∨ f ((p + i) * 12 + x) = 46 ∨ f ((p + i) * 12 + x) = 107) := fun q => q.elim c_113 (fun q => q.elim c_120 c_127)
            have hk : ucS (fun k => f ((p + k) * 12 + x)) (i + 1) = (1, (ucS (fun k => f ((p + k) * 12 + x)) i).2 + 0) := by rw [ucR (ks := (fun k => f ((p + k) * 12 + x))) (hf _ (by omega)), if_neg hA, if_neg (fun q => hA q.1)]
            refine r_iconst d_Mm_undercutIn_130 (v := 1) (by decide) ?_
            refine r_goto (tgt := 135) d_Mm_undercutIn_131 (by decide) ?_
            refine r_istore (lv' := [(4, .int 1), (6, .int (f ((p + i) * 12 + x))), (5, .int (nI (p + i))), (3, .int (nI x)), (2, .int (nI (ucT f p x + (ucS (fun k => f ((p - 1 - k) * 12 + x)) p).2 + (ucS (fun k => f ((p + k) * 12 + x)) i).2))), (0, .ref b), (1, .int (nI p))]) d_Mm_undercutIn_135 (by decide) rfl ?_
            refine r_iload_n d_Mm_undercutIn_137 rfl 4 rfl ?_
            refine r_iload d_Mm_undercutIn_138 0 rfl ?_
            refine r_if_ne (tgt := 155) d_Mm_undercutIn_140 (by decide) (fun c_140 => ?_) (fun c_140 => ?_)
            · refine r_iconst d_Mm_undercutIn_155 (v := 0) (by decide) ?_
              refine r_iadd d_Mm_undercutIn_156 (v := nI ((ucT f p x + (ucS (fun k => f ((p - 1 - k) * 12 + x)) p).2 + (ucS (fun k => f ((p + k) * 12 + x)) i).2) + 0)) (nI_add _ _) ?_
              refine r_istore_n (lv' := [(2, .int (nI ((ucT f p x + (ucS (fun k => f ((p - 1 - k) * 12 + x)) p).2 + (ucS (fun k => f ((p + k) * 12 + x)) i).2) + 0))), (4, .int 1), (6, .int (f ((p + i) * 12 + x))), (5, .int (nI (p + i))), (3, .int (nI x)), (0, .ref b), (1, .int (nI p))]) d_Mm_undercutIn_157 rfl (by decide) rfl ?_
              refine r_iinc (lv' := [(5, .int (nI ((p + i) + 1))), (2, .int (nI ((ucT f p x + (ucS (fun k => f ((p - 1 - k) * 12 + x)) p).2 + (ucS (fun k => f ((p + k) * 12 + x)) i).2) + 0))), (4, .int 1), (6, .int (f ((p + i) * 12 + x))), (3, .int (nI x)), (0, .ref b), (1, .int (nI p))]) (v := nI ((p + i) + 1)) d_Mm_undercutIn_158 (j := 3) rfl (nI_add _ _) (by decide) rfl ?_
              refine r_goto (tgt := 93) d_Mm_undercutIn_161 (by decide) ?_
              refine r_lv (lv' := [(5, .int (nI ((p + i) + 1))), (4, .int 1), (3, .int (nI x)), (2, .int (nI ((ucT f p x + (ucS (fun k => f ((p - 1 - k) * 12 + x)) p).2 + (ucS (fun k => f ((p + k) * 12 + x)) i).2) + 0))), (0, .ref b), (1, .int (nI p))]) [0, 2, 4, 1, 5, 6] rfl ?_
              refine r_lvE (lv2 := [(5, .int (nI (p + (i + 1)))), (4, .int ((ucS (fun k => f ((p + k) * 12 + x)) (i + 1)).1)), (3, .int (nI x)), (2, .int (nI (ucT f p x + (ucS (fun k => f ((p - 1 - k) * 12 + x)) p).2 + (ucS (fun k => f ((p + k) * 12 + x)) (i + 1)).2))), (0, .ref b), (1, .int (nI p))]) (by rw [hk] <;> rfl) ?_
              refine r_cs (cs2 := [(b, .inl (1, 108, .inl f))]) (rfl) ?_
              exact ih (i + 1) (by omega) (by omega)
            · exact absurd c_140 (by decide)
set_option maxHeartbeats 4000000 in
set_option maxRecDepth 100000 in
theorem L_Mm_undercutIn_18 (g : zG) (b : Nat) (f : Nat → Int32) (p : Nat) (hp1 : 1 ≤ p) (hp : p < 9) (hf : z_ch f) (w0 : zW) (n : Nat) (x : Nat) (hx : x < 12) (K : DV g M_Mm_undercutIn (fun o cs1 => o = .inl (some (.int (nI (ucT f p 12)))) ∧ cs1 = [(b, .inl (1, 108, .inl f))]) w0 n 87 [(5, .int (dnI p p)), (4, .int ((ucS (fun k => f ((p - 1 - k) * 12 + x)) p).1)), (3, .int (nI x)), (2, .int (nI (ucT f p x + (ucS (fun k => f ((p - 1 - k) * 12 + x)) p).2))), (0, .ref b), (1, .int (nI p))] [] [(b, .inl (1, 108, .inl f))] 0 0) : ∀ (d i : Nat), i ≤ p → p < i + d → DV g M_Mm_undercutIn (fun o cs1 => o = .inl (some (.int (nI (ucT f p 12)))) ∧ cs1 = [(b, .inl (1, 108, .inl f))]) w0 n 18 [(5, .int (dnI p i)), (4, .int ((ucS (fun k => f ((p - 1 - k) * 12 + x)) i).1)), (3, .int (nI x)), (2, .int (nI (ucT f p x + (ucS (fun k => f ((p - 1 - k) * 12 + x)) i).2))), (0, .ref b), (1, .int (nI p))] [] [(b, .inl (1, 108, .inl f))] 0 0 := by
  intro d
  induction d with
  | zero => intro i h1 h2 ; exact absurd h2 (by omega)
  | succ d ih =>
    intro i h1 h2 
    refine r_iload d_Mm_undercutIn_18 0 rfl ?_
    refine r_if_lt (tgt := 87) d_Mm_undercutIn_20 (by decide) (fun c_20 => ?_) (fun c_20 => ?_)
    · have hv : i = p := Classical.byContradiction (fun q => (dnL p hp i (by omega)).1 c_20)
      rw [hv]
      refine r_lv (lv' := [(5, .int (dnI p p)), (4, .int ((ucS (fun k => f ((p - 1 - k) * 12 + x)) p).1)), (3, .int (nI x)), (2, .int (nI (ucT f p x + (ucS (fun k => f ((p - 1 - k) * 12 + x)) p).2))), (0, .ref b), (1, .int (nI p))]) [0, 1, 2, 3, 4, 5] rfl ?_
      exact K
    · have hi : i < p := Classical.byContradiction (fun q => c_20 (by rw [show i = p by omega]; exact dnE p hp))
      refine r_aload_n d_Mm_undercutIn_23 rfl 4 rfl ?_
      refine r_bipush d_Mm_undercutIn_24 (v := 12) (by decide) ?_
      refine r_iload d_Mm_undercutIn_26 0 rfl ?_
      refine r_imul d_Mm_undercutIn_28 (v := nI (12 * (p - 1 - i))) (by rw [(dnL p hp i hi).2]; exact pk_mul _ _) ?_
      refine r_iload_n d_Mm_undercutIn_29 rfl 2 rfl ?_
      refine r_iadd d_Mm_undercutIn_30 (v := nI ((p - 1 - i) * 12 + x)) (by rw [nI_add]; congr 1; omega) ?_
      refine r_cald d_Mm_undercutIn_31 (q0 := 0) rfl (vp_in_nI (by omega) (by omega)) (v := f ((p - 1 - i) * 12 + x)) (by rw [nI_clamp (by omega)]) ?_
      refine r_istore (lv' := [(6, .int (f ((p - 1 - i) * 12 + x))), (5, .int (dnI p i)), (4, .int ((ucS (fun k => f ((p - 1 - k) * 12 + x)) i).1)), (3, .int (nI x)), (2, .int (nI (ucT f p x + (ucS (fun k => f ((p - 1 - k) * 12 + x)) i).2))), (0, .ref b), (1, .int (nI p))]) d_Mm_undercutIn_32 (by decide) rfl ?_
      refine r_iload d_Mm_undercutIn_34 2 rfl ?_
      refine r_if_eq (tgt := 57) d_Mm_undercutIn_36 (by decide) (fun c_36 => ?_) (fun c_36 => ?_)
      · have hA : (ucS (fun k => f ((p - 1 - k) * 12 + x)) i).1 = 0 ∨ f ((p - 1 - i) * 12 + x) = 46 ∨ f ((p - 1 - i) * 12 + x) = 107 := Or.inl c_36
        refine r_iconst d_Mm_undercutIn_57 (v := 0) (by decide) ?_
        refine r_istore (lv' := [(4, .int 0), (6, .int (f ((p - 1 - i) * 12 + x))), (5, .int (dnI p i)), (3, .int (nI x)), (2, .int (nI (ucT f p x + (ucS (fun k => f ((p - 1 - k) * 12 + x)) i).2))), (0, .ref b), (1, .int (nI p))]) d_Mm_undercutIn_58 (by decide) rfl ?_
        refine r_iload_n d_Mm_undercutIn_60 rfl 4 rfl ?_
        refine r_iload d_Mm_undercutIn_61 0 rfl ?_
        refine r_if_ne (tgt := 78) d_Mm_undercutIn_63 (by decide) (fun c_63 => ?_) (fun c_63 => ?_)
        · exact absurd c_63 (by decide)
        · refine r_iload d_Mm_undercutIn_66 1 rfl ?_
          refine r_callS (As := [.int (f ((p - 1 - i) * 12 + x))]) (rest := [.int (nI (ucT f p x + (ucS (fun k => f ((p - 1 - k) * 12 + x)) i).2))]) (csC := []) (is := []) ln_Mm_107 w_st_Mm_isMetal ok_Mm_undercutIn_Mm_isMetal d_Mm_undercutIn_68 (C_Mm_isMetal g (f ((p - 1 - i) * 12 + x))) rfl rfl (Nat.le_of_ble_eq_true rfl) rfl (by decide) (by omega) (by omega) (fun E cs1 hx => ?_) (fun v cs1 hx => ?_)
          · exact absurd hx.1 (by simp)
          · obtain ⟨e1, rfl⟩ := hx
            cases e1
            refine ⟨rfl, ?_⟩
            refine r_st (st2 := [.int (z_bi (tmB (f ((p - 1 - i) * 12 + x)))), .int (nI (ucT f p x + (ucS (fun k => f ((p - 1 - k) * 12 + x)) i).2))]) rfl ?_
            refine r_cs (cs2 := [(b, .inl (1, 108, .inl f))]) rfl ?_
            refine r_if_eq (tgt := 78) d_Mm_undercutIn_71 (by decide) (fun c_71 => ?_) (fun c_71 => ?_)
            · have hk : ucS (fun k => f ((p - 1 - k) * 12 + x)) (i + 1) = (0, (ucS (fun k => f ((p - 1 - k) * 12 + x)) i).2 + 0) := by rw [ucR (ks := (fun k => f ((p - 1 - k) * 12 + x))) (hf _ (by omega)), if_pos hA, if_neg (fun q => by have := z_bi0 c_71; rw [q.2] at this; cases this)]
              refine r_iconst d_Mm_undercutIn_78 (v := 0) (by decide) ?_
              refine r_iadd d_Mm_undercutIn_79 (v := nI ((ucT f p x + (ucS (fun k => f ((p - 1 - k) * 12 + x)) i).2) + 0)) (nI_add _ _) ?_
              refine r_istore_n (lv' := [(2, .int (nI ((ucT f p x + (ucS (fun k => f ((p - 1 - k) * 12 + x)) i).2) + 0))), (4, .int 0), (6, .int (f ((p - 1 - i) * 12 + x))), (5, .int (dnI p i)), (3, .int (nI x)), (0, .ref b), (1, .int (nI p))]) d_Mm_undercutIn_80 rfl (by decide) rfl ?_
              refine r_iinc (lv' := [(5, .int (dnI p (i + 1))), (2, .int (nI ((ucT f p x + (ucS (fun k => f ((p - 1 - k) * 12 + x)) i).2) + 0))), (4, .int 0), (6, .int (f ((p - 1 - i) * 12 + x))), (3, .int (nI x)), (0, .ref b), (1, .int (nI p))]) (v := dnI p (i + 1)) d_Mm_undercutIn_81 (j := 3) rfl (dn1 p hp i hi) (by decide) rfl ?_
              refine r_goto (tgt := 18) d_Mm_undercutIn_84 (by decide) ?_
              refine r_lv (lv' := [(5, .int (dnI p (i + 1))), (4, .int 0), (3, .int (nI x)), (2, .int (nI ((ucT f p x + (ucS (fun k => f ((p - 1 - k) * 12 + x)) i).2) + 0))), (0, .ref b), (1, .int (nI p))]) [0, 2, 4, 1, 5, 6] rfl ?_
              refine r_lvE (lv2 := [(5, .int (dnI p (i + 1))), (4, .int ((ucS (fun k => f ((p - 1 - k) * 12 + x)) (i + 1)).1)), (3, .int (nI x)), (2, .int (nI (ucT f p x + (ucS (fun k => f ((p - 1 - k) * 12 + x)) (i + 1)).2))), (0, .ref b), (1, .int (nI p))]) (by rw [hk] <;> rfl) ?_
              refine r_cs (cs2 := [(b, .inl (1, 108, .inl f))]) (rfl) ?_
              exact ih (i + 1) (by omega) (by omega)
            · have hk : ucS (fun k => f ((p - 1 - k) * 12 + x)) (i + 1) = (0, (ucS (fun k => f ((p - 1 - k) * 12 + x)) i).2 + 1) := by rw [ucR (ks := (fun k => f ((p - 1 - k) * 12 + x))) (hf _ (by omega)), if_pos hA, if_pos ⟨hA, z_bi1 c_71⟩]
              refine r_iconst d_Mm_undercutIn_74 (v := 1) (by decide) ?_
              refine r_goto (tgt := 79) d_Mm_undercutIn_75 (by decide) ?_
              refine r_iadd d_Mm_undercutIn_79 (v := nI ((ucT f p x + (ucS (fun k => f ((p - 1 - k) * 12 + x)) i).2) + 1)) (nI_add _ _) ?_
              refine r_istore_n (lv' := [(2, .int (nI ((ucT f p x + (ucS (fun k => f ((p - 1 - k) * 12 + x)) i).2) + 1))), (4, .int 0), (6, .int (f ((p - 1 - i) * 12 + x))), (5, .int (dnI p i)), (3, .int (nI x)), (0, .ref b), (1, .int (nI p))]) d_Mm_undercutIn_80 rfl (by decide) rfl ?_
              refine r_iinc (lv' := [(5, .int (dnI p (i + 1))), (2, .int (nI ((ucT f p x + (ucS (fun k => f ((p - 1 - k) * 12 + x)) i).2) + 1))), (4, .int 0), (6, .int (f ((p - 1 - i) * 12 + x))), (3, .int (nI x)), (0, .ref b), (1, .int (nI p))]) (v := dnI p (i + 1)) d_Mm_undercutIn_81 (j := 3) rfl (dn1 p hp i hi) (by decide) rfl ?_
              refine r_goto (tgt := 18) d_Mm_undercutIn_84 (by decide) ?_
              refine r_lv (lv' := [(5, .int (dnI p (i + 1))), (4, .int 0), (3, .int (nI x)), (2, .int (nI ((ucT f p x + (ucS (fun k => f ((p - 1 - k) * 12 + x)) i).2) + 1))), (0, .ref b), (1, .int (nI p))]) [0, 2, 4, 1, 5, 6] rfl ?_
              refine r_lvE (lv2 := [(5, .int (dnI p (i + 1))), (4, .int ((ucS (fun k => f ((p - 1 - k) * 12 + x)) (i + 1)).1)), (3, .int (nI x)), (2, .int (nI (ucT f p x + (ucS (fun k => f ((p - 1 - k) * 12 + x)) (i + 1)).2))), (0, .ref b), (1, .int (nI p))]) (by rw [hk] <;> rfl) ?_
              refine r_cs (cs2 := [(b, .inl (1, 108, .inl f))]) (rfl) ?_
              exact ih (i + 1) (by omega) (by omega)
      · refine r_iload d_Mm_undercutIn_39 0 rfl ?_
        refine r_bipush d_Mm_undercutIn_41 (v := 46) (by decide) ?_
        refine r_icmp_eq (tgt := 57) d_Mm_undercutIn_43 (by decide) (fun c_43 => ?_) (fun c_43 => ?_)
        · have hA : (ucS (fun k => f ((p - 1 - k) * 12 + x)) i).1 = 0 ∨ f ((p - 1 - i) * 12 + x) = 46 ∨ f ((p - 1 - i) * 12 + x) = 107 := Or.inr (Or.inl c_43)
          refine r_iconst d_Mm_undercutIn_57 (v := 0) (by decide) ?_
          refine r_istore (lv' := [(4, .int 0), (6, .int (f ((p - 1 - i) * 12 + x))), (5, .int (dnI p i)), (3, .int (nI x)), (2, .int (nI (ucT f p x + (ucS (fun k => f ((p - 1 - k) * 12 + x)) i).2))), (0, .ref b), (1, .int (nI p))]) d_Mm_undercutIn_58 (by decide) rfl ?_
          refine r_iload_n d_Mm_undercutIn_60 rfl 4 rfl ?_
          refine r_iload d_Mm_undercutIn_61 0 rfl ?_
          refine r_if_ne (tgt := 78) d_Mm_undercutIn_63 (by decide) (fun c_63 => ?_) (fun c_63 => ?_)
          · exact absurd c_63 (by decide)
          · refine r_iload d_Mm_undercutIn_66 1 rfl ?_
            refine r_callS (As := [.int (f ((p - 1 - i) * 12 + x))]) (rest := [.int (nI (ucT f p x + (ucS (fun k => f ((p - 1 - k) * 12 + x)) i).2))]) (csC := []) (is := []) ln_Mm_107 w_st_Mm_isMetal ok_Mm_undercutIn_Mm_isMetal d_Mm_undercutIn_68 (C_Mm_isMetal g (f ((p - 1 - i) * 12 + x))) rfl rfl (Nat.le_of_ble_eq_true rfl) rfl (by decide) (by omega) (by omega) (fun E cs1 hx => ?_) (fun v cs1 hx => ?_)
            · exact absurd hx.1 (by simp)
            · obtain ⟨e1, rfl⟩ := hx
              cases e1
              refine ⟨rfl, ?_⟩
              refine r_st (st2 := [.int (z_bi (tmB (f ((p - 1 - i) * 12 + x)))), .int (nI (ucT f p x + (ucS (fun k => f ((p - 1 - k) * 12 + x)) i).2))]) rfl ?_
              refine r_cs (cs2 := [(b, .inl (1, 108, .inl f))]) rfl ?_
              refine r_if_eq (tgt := 78) d_Mm_undercutIn_71 (by decide) (fun c_71 => ?_) (fun c_71 => ?_)
              · have hk : ucS (fun k => f ((p - 1 - k) * 12 + x)) (i + 1) = (0, (ucS (fun k => f ((p - 1 - k) * 12 + x)) i).2 + 0) := by rw [ucR (ks := (fun k => f ((p - 1 - k) * 12 + x))) (hf _ (by omega)), if_pos hA, if_neg (fun q => by have := z_bi0 c_71; rw [q.2] at this; cases this)]
                refine r_iconst d_Mm_undercutIn_78 (v := 0) (by decide) ?_
                refine r_iadd d_Mm_undercutIn_79 (v := nI ((ucT f p x + (ucS (fun k => f ((p - 1 - k) * 12 + x)) i).2) + 0)) (nI_add _ _) ?_
                refine r_istore_n (lv' := [(2, .int (nI ((ucT f p x + (ucS (fun k => f ((p - 1 - k) * 12 + x)) i).2) + 0))), (4, .int 0), (6, .int (f ((p - 1 - i) * 12 + x))), (5, .int (dnI p i)), (3, .int (nI x)), (0, .ref b), (1, .int (nI p))]) d_Mm_undercutIn_80 rfl (by decide) rfl ?_
                refine r_iinc (lv' := [(5, .int (dnI p (i + 1))), (2, .int (nI ((ucT f p x + (ucS (fun k => f ((p - 1 - k) * 12 + x)) i).2) + 0))), (4, .int 0), (6, .int (f ((p - 1 - i) * 12 + x))), (3, .int (nI x)), (0, .ref b), (1, .int (nI p))]) (v := dnI p (i + 1)) d_Mm_undercutIn_81 (j := 3) rfl (dn1 p hp i hi) (by decide) rfl ?_
                refine r_goto (tgt := 18) d_Mm_undercutIn_84 (by decide) ?_
                refine r_lv (lv' := [(5, .int (dnI p (i + 1))), (4, .int 0), (3, .int (nI x)), (2, .int (nI ((ucT f p x + (ucS (fun k => f ((p - 1 - k) * 12 + x)) i).2) + 0))), (0, .ref b), (1, .int (nI p))]) [0, 2, 4, 1, 5, 6] rfl ?_
                refine r_lvE (lv2 := [(5, .int (dnI p (i + 1))), (4, .int ((ucS (fun k => f ((p - 1 - k) * 12 + x)) (i + 1)).1)), (3, .int (nI x)), (2, .int (nI (ucT f p x + (ucS (fun k => f ((p - 1 - k) * 12 + x)) (i + 1)).2))), (0, .ref b), (1, .int (nI p))]) (by rw [hk] <;> rfl) ?_
                refine r_cs (cs2 := [(b, .inl (1, 108, .inl f))]) (rfl) ?_
                exact ih (i + 1) (by omega) (by omega)
              · have hk : ucS (fun k => f ((p - 1 - k) * 12 + x)) (i + 1) = (0, (ucS (fun k => f ((p - 1 - k) * 12 + x)) i).2 + 1) := by rw [ucR (ks := (fun k => f ((p - 1 - k) * 12 + x))) (hf _ (by omega)), if_pos hA, if_pos ⟨hA, z_bi1 c_71⟩]
                refine r_iconst d_Mm_undercutIn_74 (v := 1) (by decide) ?_
                refine r_goto (tgt := 79) d_Mm_undercutIn_75 (by decide) ?_
                refine r_iadd d_Mm_undercutIn_79 (v := nI ((ucT f p x + (ucS (fun k => f ((p - 1 - k) * 12 + x)) i).2) + 1)) (nI_add _ _) ?_
                refine r_istore_n (lv' := [(2, .int (nI ((ucT f p x + (ucS (fun k => f ((p - 1 - k) * 12 + x)) i).2) + 1))), (4, .int 0), (6, .int (f ((p - 1 - i) * 12 + x))), (5, .int (dnI p i)), (3, .int (nI x)), (0, .ref b), (1, .int (nI p))]) d_Mm_undercutIn_80 rfl (by decide) rfl ?_
                refine r_iinc (lv' := [(5, .int (dnI p (i + 1))), (2, .int (nI ((ucT f p x + (ucS (fun k => f ((p - 1 - k) * 12 + x)) i).2) + 1))), (4, .int 0), (6, .int (f ((p - 1 - i) * 12 + x))), (3, .int (nI x)), (0, .ref b), (1, .int (nI p))]) (v := dnI p (i + 1)) d_Mm_undercutIn_81 (j := 3) rfl (dn1 p hp i hi) (by decide) rfl ?_
                refine r_goto (tgt := 18) d_Mm_undercutIn_84 (by decide) ?_
                refine r_lv (lv' := [(5, .int (dnI p (i + 1))), (4, .int 0), (3, .int (nI x)), (2, .int (nI ((ucT f p x + (ucS (fun k => f ((p - 1 - k) * 12 + x)) i).2) + 1))), (0, .ref b), (1, .int (nI p))]) [0, 2, 4, 1, 5, 6] rfl ?_
                refine r_lvE (lv2 := [(5, .int (dnI p (i + 1))), (4, .int ((ucS (fun k => f ((p - 1 - k) * 12 + x)) (i + 1)).1)), (3, .int (nI x)), (2, .int (nI (ucT f p x + (ucS (fun k => f ((p - 1 - k) * 12 + x)) (i + 1)).2))), (0, .ref b), (1, .int (nI p))]) (by rw [hk] <;> rfl) ?_
                refine r_cs (cs2 := [(b, .inl (1, 108, .inl f))]) (rfl) ?_
                exact ih (i + 1) (by omega) (by omega)
        · refine r_iload d_Mm_undercutIn_46 0 rfl ?_
          refine r_bipush d_Mm_undercutIn_48 (v := 107) (by decide) ?_
          refine r_icmp_eq (tgt := 57) d_Mm_undercutIn_50 (by decide) (fun c_50 => ?_) (fun c_50 => ?_)
          · have hA : (ucS (fun k => f ((p - 1 - k) * 12 + x)) i).1 = 0 ∨ f ((p - 1 - i) * 12 + x) = 46 ∨ f ((p - 1 - i) * 12 + x) = 107 := Or.inr (Or.inr c_50)
            refine r_iconst d_Mm_undercutIn_57 (v := 0) (by decide) ?_
            refine r_istore (lv' := [(4, .int 0), (6, .int (f ((p - 1 - i) * 12 + x))), (5, .int (dnI p i)), (3, .int (nI x)), (2, .int (nI (ucT f p x + (ucS (fun k => f ((p - 1 - k) * 12 + x)) i).2))), (0, .ref b), (1, .int (nI p))]) d_Mm_undercutIn_58 (by decide) rfl ?_
            refine r_iload_n d_Mm_undercutIn_60 rfl 4 rfl ?_
            refine r_iload d_Mm_undercutIn_61 0 rfl ?_
            refine r_if_ne (tgt := 78) d_Mm_undercutIn_63 (by decide) (fun c_63 => ?_) (fun c_63 => ?_)
            · exact absurd c_63 (by decide)
            · refine r_iload d_Mm_undercutIn_66 1 rfl ?_
              refine r_callS (As := [.int (f ((p - 1 - i) * 12 + x))]) (rest := [.int (nI (ucT f p x + (ucS (fun k => f ((p - 1 - k) * 12 + x)) i).2))]) (csC := []) (is := []) ln_Mm_107 w_st_Mm_isMetal ok_Mm_undercutIn_Mm_isMetal d_Mm_undercutIn_68 (C_Mm_isMetal g (f ((p - 1 - i) * 12 + x))) rfl rfl (Nat.le_of_ble_eq_true rfl) rfl (by decide) (by omega) (by omega) (fun E cs1 hx => ?_) (fun v cs1 hx => ?_)
              · exact absurd hx.1 (by simp)
              · obtain ⟨e1, rfl⟩ := hx
                cases e1
                refine ⟨rfl, ?_⟩
                refine r_st (st2 := [.int (z_bi (tmB (f ((p - 1 - i) * 12 + x)))), .int (nI (ucT f p x + (ucS (fun k => f ((p - 1 - k) * 12 + x)) i).2))]) rfl ?_
                refine r_cs (cs2 := [(b, .inl (1, 108, .inl f))]) rfl ?_
                refine r_if_eq (tgt := 78) d_Mm_undercutIn_71 (by decide) (fun c_71 => ?_) (fun c_71 => ?_)
                · have hk : ucS (fun k => f ((p - 1 - k) * 12 + x)) (i + 1) = (0, (ucS (fun k => f ((p - 1 - k) * 12 + x)) i).2 + 0) := by rw [ucR (ks := (fun k => f ((p - 1 - k) * 12 + x))) (hf _ (by omega)), if_pos hA, if_neg (fun q => by have := z_bi0 c_71; rw [q.2] at this; cases this)]
                  refine r_iconst d_Mm_undercutIn_78 (v := 0) (by decide) ?_
                  refine r_iadd d_Mm_undercutIn_79 (v := nI ((ucT f p x + (ucS (fun k => f ((p - 1 - k) * 12 + x)) i).2) + 0)) (nI_add _ _) ?_
                  refine r_istore_n (lv' := [(2, .int (nI ((ucT f p x + (ucS (fun k => f ((p - 1 - k) * 12 + x)) i).2) + 0))), (4, .int 0), (6, .int (f ((p - 1 - i) * 12 + x))), (5, .int (dnI p i)), (3, .int (nI x)), (0, .ref b), (1, .int (nI p))]) d_Mm_undercutIn_80 rfl (by decide) rfl ?_
                  refine r_iinc (lv' := [(5, .int (dnI p (i + 1))), (2, .int (nI ((ucT f p x + (ucS (fun k => f ((p - 1 - k) * 12 + x)) i).2) + 0))), (4, .int 0), (6, .int (f ((p - 1 - i) * 12 + x))), (3, .int (nI x)), (0, .ref b), (1, .int (nI p))]) (v := dnI p (i + 1)) d_Mm_undercutIn_81 (j := 3) rfl (dn1 p hp i hi) (by decide) rfl ?_
                  refine r_goto (tgt := 18) d_Mm_undercutIn_84 (by decide) ?_
                  refine r_lv (lv' := [(5, .int (dnI p (i + 1))), (4, .int 0), (3, .int (nI x)), (2, .int (nI ((ucT f p x + (ucS (fun k => f ((p - 1 - k) * 12 + x)) i).2) + 0))), (0, .ref b), (1, .int (nI p))]) [0, 2, 4, 1, 5, 6] rfl ?_
                  refine r_lvE (lv2 := [(5, .int (dnI p (i + 1))), (4, .int ((ucS (fun k => f ((p - 1 - k) * 12 + x)) (i + 1)).1)), (3, .int (nI x)), (2, .int (nI (ucT f p x + (ucS (fun k => f ((p - 1 - k) * 12 + x)) (i + 1)).2))), (0, .ref b), (1, .int (nI p))]) (by rw [hk] <;> rfl) ?_
                  refine r_cs (cs2 := [(b, .inl (1, 108, .inl f))]) (rfl) ?_
                  exact ih (i + 1) (by omega) (by omega)
                · have hk : ucS (fun k => f ((p - 1 - k) * 12 + x)) (i + 1) = (0, (ucS (fun k => f ((p - 1 - k) * 12 + x)) i).2 + 1) := by rw [ucR (ks := (fun k => f ((p - 1 - k) * 12 + x))) (hf _ (by omega)), if_pos hA, if_pos ⟨hA, z_bi1 c_71⟩]
                  refine r_iconst d_Mm_undercutIn_74 (v := 1) (by decide) ?_
                  refine r_goto (tgt := 79) d_Mm_undercutIn_75 (by decide) ?_
                  refine r_iadd d_Mm_undercutIn_79 (v := nI ((ucT f p x + (ucS (fun k => f ((p - 1 - k) * 12 + x)) i).2) + 1)) (nI_add _ _) ?_
                  refine r_istore_n (lv' := [(2, .int (nI ((ucT f p x + (ucS (fun k => f ((p - 1 - k) * 12 + x)) i).2) + 1))), (4, .int 0), (6, .int (f ((p - 1 - i) * 12 + x))), (5, .int (dnI p i)), (3, .int (nI x)), (0, .ref b), (1, .int (nI p))]) d_Mm_undercutIn_80 rfl (by decide) rfl ?_
                  refine r_iinc (lv' := [(5, .int (dnI p (i + 1))), (2, .int (nI ((ucT f p x + (ucS (fun k => f ((p - 1 - k) * 12 + x)) i).2) + 1))), (4, .int 0), (6, .int (f ((p - 1 - i) * 12 + x))), (3, .int (nI x)), (0, .ref b), (1, .int (nI p))]) (v := dnI p (i + 1)) d_Mm_undercutIn_81 (j := 3) rfl (dn1 p hp i hi) (by decide) rfl ?_
                  refine r_goto (tgt := 18) d_Mm_undercutIn_84 (by decide) ?_
                  refine r_lv (lv' := [(5, .int (dnI p (i + 1))), (4, .int 0), (3, .int (nI x)), (2, .int (nI ((ucT f p x + (ucS (fun k => f ((p - 1 - k) * 12 + x)) i).2) + 1))), (0, .ref b), (1, .int (nI p))]) [0, 2, 4, 1, 5, 6] rfl ?_
                  refine r_lvE (lv2 := [(5, .int (dnI p (i + 1))), (4, .int ((ucS (fun k => f ((p - 1 - k) * 12 + x)) (i + 1)).1)), (3, .int (nI x)), (2, .int (nI (ucT f p x + (ucS (fun k => f ((p - 1 - k) * 12 + x)) (i + 1)).2))), (0, .ref b), (1, .int (nI p))]) (by rw [hk] <;> rfl) ?_
                  refine r_cs (cs2 := [(b, .inl (1, 108, .inl f))]) (rfl) ?_
                  exact ih (i + 1) (by omega) (by omega)
          · have hA : ¬ ((ucS (fun k => f ((p - 1 - k) * 12 + x)) i).1 = 0 ∨ f ((p - 1 - i) * 12 + x) = 46 ∨ f ((p - 1 - i) * 12 + x) = 107) := fun q => q.elim c_36 (fun q => q.elim c_43 c_50)
            have hk : ucS (fun k => f ((p - 1 - k) * 12 + x)) (i + 1) = (1, (ucS (fun k => f ((p - 1 - k) * 12 + x)) i).2 + 0) := by rw [ucR (ks := (fun k => f ((p - 1 - k) * 12 + x))) (hf _ (by omega)), if_neg hA, if_neg (fun q => hA q.1)]
            refine r_iconst d_Mm_undercutIn_53 (v := 1) (by decide) ?_
            refine r_goto (tgt := 58) d_Mm_undercutIn_54 (by decide) ?_
            refine r_istore (lv' := [(4, .int 1), (6, .int (f ((p - 1 - i) * 12 + x))), (5, .int (dnI p i)), (3, .int (nI x)), (2, .int (nI (ucT f p x + (ucS (fun k => f ((p - 1 - k) * 12 + x)) i).2))), (0, .ref b), (1, .int (nI p))]) d_Mm_undercutIn_58 (by decide) rfl ?_
            refine r_iload_n d_Mm_undercutIn_60 rfl 4 rfl ?_
            refine r_iload d_Mm_undercutIn_61 0 rfl ?_
            refine r_if_ne (tgt := 78) d_Mm_undercutIn_63 (by decide) (fun c_63 => ?_) (fun c_63 => ?_)
            · refine r_iconst d_Mm_undercutIn_78 (v := 0) (by decide) ?_
              refine r_iadd d_Mm_undercutIn_79 (v := nI ((ucT f p x + (ucS (fun k => f ((p - 1 - k) * 12 + x)) i).2) + 0)) (nI_add _ _) ?_
              refine r_istore_n (lv' := [(2, .int (nI ((ucT f p x + (ucS (fun k => f ((p - 1 - k) * 12 + x)) i).2) + 0))), (4, .int 1), (6, .int (f ((p - 1 - i) * 12 + x))), (5, .int (dnI p i)), (3, .int (nI x)), (0, .ref b), (1, .int (nI p))]) d_Mm_undercutIn_80 rfl (by decide) rfl ?_
              refine r_iinc (lv' := [(5, .int (dnI p (i + 1))), (2, .int (nI ((ucT f p x + (ucS (fun k => f ((p - 1 - k) * 12 + x)) i).2) + 0))), (4, .int 1), (6, .int (f ((p - 1 - i) * 12 + x))), (3, .int (nI x)), (0, .ref b), (1, .int (nI p))]) (v := dnI p (i + 1)) d_Mm_undercutIn_81 (j := 3) rfl (dn1 p hp i hi) (by decide) rfl ?_
              refine r_goto (tgt := 18) d_Mm_undercutIn_84 (by decide) ?_
              refine r_lv (lv' := [(5, .int (dnI p (i + 1))), (4, .int 1), (3, .int (nI x)), (2, .int (nI ((ucT f p x + (ucS (fun k => f ((p - 1 - k) * 12 + x)) i).2) + 0))), (0, .ref b), (1, .int (nI p))]) [0, 2, 4, 1, 5, 6] rfl ?_
              refine r_lvE (lv2 := [(5, .int (dnI p (i + 1))), (4, .int ((ucS (fun k => f ((p - 1 - k) * 12 + x)) (i + 1)).1)), (3, .int (nI x)), (2, .int (nI (ucT f p x + (ucS (fun k => f ((p - 1 - k) * 12 + x)) (i + 1)).2))), (0, .ref b), (1, .int (nI p))]) (by rw [hk] <;> rfl) ?_
              refine r_cs (cs2 := [(b, .inl (1, 108, .inl f))]) (rfl) ?_
              exact ih (i + 1) (by omega) (by omega)
            · exact absurd c_63 (by decide)
set_option maxHeartbeats 4000000 in
set_option maxRecDepth 100000 in
theorem L_Mm_undercutIn_4 (g : zG) (b : Nat) (f : Nat → Int32) (p : Nat) (hp1 : 1 ≤ p) (hp : p < 9) (hf : z_ch f) (w0 : zW) (n : Nat) : ∀ (d x : Nat), x ≤ 12 → 12 < x + d → DV g M_Mm_undercutIn (fun o cs1 => o = .inl (some (.int (nI (ucT f p 12)))) ∧ cs1 = [(b, .inl (1, 108, .inl f))]) w0 n 4 [(3, .int (nI x)), (2, .int (nI (ucT f p x))), (0, .ref b), (1, .int (nI p))] [] [(b, .inl (1, 108, .inl f))] 0 0 := by
  intro d
  induction d with
  | zero => intro x h1 h2 ; exact absurd h2 (by omega)
  | succ d ih =>
    intro x h1 h2 
    refine r_iload_n d_Mm_undercutIn_4 rfl 0 rfl ?_
    refine r_bipush d_Mm_undercutIn_5 (v := 12) (by decide) ?_
    refine r_icmp_ge (tgt := 170) d_Mm_undercutIn_7 (by decide) (fun c_7 => ?_) (fun c_7 => ?_)
    · have hn := z_le (a := 12) (by omega) (by decide) c_7
      obtain rfl : x = 12 := by omega
      refine r_iload_n d_Mm_undercutIn_170 rfl 1 rfl ?_
      refine r_iret d_Mm_undercutIn_171 rfl rfl ?_
      exact ⟨rfl, rfl⟩
    · have hn := z_nle (a := 12) (by omega) (by decide) c_7
      refine r_iconst d_Mm_undercutIn_10 (v := 1) (by decide) ?_
      refine r_istore (lv' := [(4, .int 1), (3, .int (nI x)), (2, .int (nI (ucT f p x))), (0, .ref b), (1, .int (nI p))]) d_Mm_undercutIn_11 (by decide) rfl ?_
      refine r_iload_n d_Mm_undercutIn_13 rfl 4 rfl ?_
      refine r_iconst d_Mm_undercutIn_14 (v := 1) (by decide) ?_
      refine r_isub d_Mm_undercutIn_15 (v := dnI p 0) (dn0 p hp) ?_
      refine r_istore (lv' := [(5, .int (dnI p 0)), (4, .int 1), (3, .int (nI x)), (2, .int (nI (ucT f p x))), (0, .ref b), (1, .int (nI p))]) d_Mm_undercutIn_16 (by decide) rfl ?_
      refine r_lvE (lv2 := [(5, .int (dnI p 0)), (4, .int ((ucS (fun k => f ((p - 1 - k) * 12 + x)) 0).1)), (3, .int (nI x)), (2, .int (nI (ucT f p x + (ucS (fun k => f ((p - 1 - k) * 12 + x)) 0).2))), (0, .ref b), (1, .int (nI p))]) (rfl) ?_
      refine r_cs (cs2 := [(b, .inl (1, 108, .inl f))]) (rfl) ?_
      refine L_Mm_undercutIn_18 g b f p hp1 hp hf w0 _ x (by omega) (?_) (p + 1) 0 (Nat.zero_le _) (by omega)
      refine r_iconst d_Mm_undercutIn_87 (v := 1) (by decide) ?_
      refine r_istore (lv' := [(4, .int 1), (5, .int (dnI p p)), (3, .int (nI x)), (2, .int (nI (ucT f p x + (ucS (fun k => f ((p - 1 - k) * 12 + x)) p).2))), (0, .ref b), (1, .int (nI p))]) d_Mm_undercutIn_88 (by decide) rfl ?_
      refine r_iload_n d_Mm_undercutIn_90 rfl 5 rfl ?_
      refine r_istore (lv' := [(5, .int (nI p)), (4, .int 1), (3, .int (nI x)), (2, .int (nI (ucT f p x + (ucS (fun k => f ((p - 1 - k) * 12 + x)) p).2))), (0, .ref b), (1, .int (nI p))]) d_Mm_undercutIn_91 (by decide) rfl ?_
      refine r_lvE (lv2 := [(5, .int (nI (p + 0))), (4, .int ((ucS (fun k => f ((p + k) * 12 + x)) 0).1)), (3, .int (nI x)), (2, .int (nI (ucT f p x + (ucS (fun k => f ((p - 1 - k) * 12 + x)) p).2 + (ucS (fun k => f ((p + k) * 12 + x)) 0).2))), (0, .ref b), (1, .int (nI p))]) (rfl) ?_
      refine r_cs (cs2 := [(b, .inl (1, 108, .inl f))]) (rfl) ?_
      refine L_Mm_undercutIn_93 g b f p hp1 hp hf w0 _ x (by omega) (?_) (9 - p + 1) 0 (Nat.zero_le _) (by omega)
      refine r_iinc (lv' := [(3, .int (nI (x + 1))), (5, .int (nI (p + (9 - p)))), (4, .int ((ucS (fun k => f ((p + k) * 12 + x)) (9 - p)).1)), (2, .int (nI (ucT f p x + (ucS (fun k => f ((p - 1 - k) * 12 + x)) p).2 + (ucS (fun k => f ((p + k) * 12 + x)) (9 - p)).2))), (0, .ref b), (1, .int (nI p))]) (v := nI (x + 1)) d_Mm_undercutIn_164 (j := 2) rfl (nI_add _ _) (by decide) rfl ?_
      refine r_goto (tgt := 4) d_Mm_undercutIn_167 (by decide) ?_
      refine r_lv (lv' := [(3, .int (nI (x + 1))), (2, .int (nI (ucT f p x + (ucS (fun k => f ((p - 1 - k) * 12 + x)) p).2 + (ucS (fun k => f ((p + k) * 12 + x)) (9 - p)).2))), (0, .ref b), (1, .int (nI p))]) [0, 3, 4, 5] rfl ?_
      refine r_lvE (lv2 := [(3, .int (nI (x + 1))), (2, .int (nI (ucT f p (x + 1)))), (0, .ref b), (1, .int (nI p))]) (by rw [show ucT f p (x + 1) = ucT f p x + (ucS (fun k => f ((p - 1 - k) * 12 + x)) p).2 + (ucS (fun k => f ((p + k) * 12 + x)) (9 - p)).2 from (Nat.add_assoc _ _ _).symm] <;> rfl) ?_
      refine r_cs (cs2 := [(b, .inl (1, 108, .inl f))]) (rfl) ?_
      exact ih (x + 1) (by omega) (by omega)
set_option maxHeartbeats 4000000 in
set_option maxRecDepth 100000 in
theorem C_Mm_undercutIn (g : zG) (b : Nat) (f : Nat → Int32) (p : Nat) (hp1 : 1 ≤ p) (hp : p < 9) (hf : z_ch f) : CT g M_Mm_undercutIn [.ref b, .int (nI p)] [(b, .inl (1, 108, .inl f))] (fun o cs1 => o = .inl (some (.int (nI (ucT f p 12)))) ∧ cs1 = [(b, .inl (1, 108, .inl f))]) 0 0 := by
  refine z_of (by decide) rfl (Nat.le_of_ble_eq_true rfl) (fun w0 => ?_)
  refine r_lvE (lv2 := [(0, .ref b), (1, .int (nI p))]) rfl ?_
  refine r_iconst d_Mm_undercutIn_0 (v := 0) (by decide) ?_
  refine r_istore_n (lv' := [(2, .int 0), (0, .ref b), (1, .int (nI p))]) d_Mm_undercutIn_1 rfl (by decide) rfl ?_
  refine r_iconst d_Mm_undercutIn_2 (v := 0) (by decide) ?_
  refine r_istore_n (lv' := [(3, .int 0), (2, .int 0), (0, .ref b), (1, .int (nI p))]) d_Mm_undercutIn_3 rfl (by decide) rfl ?_
  refine r_lvE (lv2 := [(3, .int (nI 0)), (2, .int (nI (ucT f p 0))), (0, .ref b), (1, .int (nI p))]) (rfl) ?_
  refine r_cs (cs2 := [(b, .inl (1, 108, .inl f))]) (rfl) ?_
  exact L_Mm_undercutIn_4 g b f p hp1 hp hf w0 _  (12 + 1) 0 (Nat.zero_le _) (by omega)
abbrev M_Mm_undercut : zM := (⟨"IronpourModel", "undercut", "()I"⟩, prog_14_method_12_code, 1, (Option.some FieldType.int), 3, 66, [])
theorem d_Mm_undercut_0 : decode prog_14_method_12_code 0 = .ok (.aload_n 0, 1) := zo_42 (zd_b zq_prog_14_method_12_code_0 0 rfl rfl rfl)
theorem d_Mm_undercut_1 : decode prog_14_method_12_code 1 = .ok (.iconst 0, 1) := zo_3 (zd_b zq_prog_14_method_12_code_0 1 rfl rfl rfl)
theorem d_Mm_undercut_2 : decode prog_14_method_12_code 2 = .ok (.putfield 84, 3) := zo_181 (d := 0) (e := 84) (zd_b zq_prog_14_method_12_code_0 2 rfl rfl rfl) (zd_b zq_prog_14_method_12_code_0 3 rfl rfl rfl) (zd_b zq_prog_14_method_12_code_0 4 rfl rfl rfl)
theorem d_Mm_undercut_5 : decode prog_14_method_12_code 5 = .ok (.aload_n 0, 1) := zo_42 (zd_b zq_prog_14_method_12_code_0 5 rfl rfl rfl)
theorem d_Mm_undercut_6 : decode prog_14_method_12_code 6 = .ok (.getfield 7, 3) := zo_180 (d := 0) (e := 7) (zd_b zq_prog_14_method_12_code_0 6 rfl rfl rfl) (zd_b zq_prog_14_method_12_code_0 7 rfl rfl rfl) (zd_b zq_prog_14_method_12_code_0 8 rfl rfl rfl)
theorem d_Mm_undercut_9 : decode prog_14_method_12_code 9 = .ok (.aload_n 0, 1) := zo_42 (zd_b zq_prog_14_method_12_code_0 9 rfl rfl rfl)
theorem d_Mm_undercut_10 : decode prog_14_method_12_code 10 = .ok (.getfield 13, 3) := zo_180 (d := 0) (e := 13) (zd_b zq_prog_14_method_12_code_0 10 rfl rfl rfl) (zd_b zq_prog_14_method_12_code_0 11 rfl rfl rfl) (zd_b zq_prog_14_method_12_code_0 12 rfl rfl rfl)
theorem d_Mm_undercut_13 : decode prog_14_method_12_code 13 = .ok (.invokestatic 111, 3) := zo_184 (d := 0) (e := 111) (zd_b zq_prog_14_method_12_code_0 13 rfl rfl rfl) (zd_b zq_prog_14_method_12_code_0 14 rfl rfl rfl) (zd_b zq_prog_14_method_12_code_0 15 rfl rfl rfl)
theorem ok_Mm_undercut_Mm_undercutIn : z_ok M_Mm_undercut M_Mm_undercutIn 2 := ⟨z_mj7 (i := 211) rfl (by decide +kernel), rfl, ⟨by decide +kernel, by decide +kernel, by decide +kernel⟩, ⟨by decide, by decide⟩, z_mj1 (i := 14) rfl (by decide +kernel), rfl⟩
theorem ln_Mm_111 : Cond.methodLink "IronpourModel" 111 M_Mm_undercutIn.1 ∈ z_gw := z_mj7 (i := 209) rfl (by decide +kernel)
theorem w_st_Mm_undercutIn : Cond.static M_Mm_undercutIn.1 ∈ z_gw := z_mj7 (i := 210) rfl (by decide +kernel)
theorem d_Mm_undercut_16 : decode prog_14_method_12_code 16 = .ok (.ireturn, 1) := zo_172 (zd_b zq_prog_14_method_12_code_0 16 rfl rfl rfl)
set_option maxHeartbeats 4000000 in
set_option maxRecDepth 100000 in
theorem C_Mm_undercut (g : zG) (m mp mf mh mn mt mz mc_ mq mgr ml mi mr mm mu mk mx : Nat) (th cl wa co_ fi bu ho lh mg wd fpi fal : Int32) (po de : Int64) (f : Nat → Int32) (p : Nat) (hp1 : 1 ≤ p) (hp : p < 9) (hf : z_ch f) : CT g M_Mm_undercut [.ref m] [(m, .inr (12, [.int th, .ref mp, .int (nI p), .ref mf, .ref mh, .ref mn, .ref mt, .ref mz, .ref mc_, .ref mq, .ref mgr, .int cl, .int wa, .int co_, .int fi, .int bu, .int ho, .ref ml, .ref mi, .ref mr, .int lh, .int mg, .int wd, .int fpi, .int fal, .ref mm, .ref mu, .ref mk, .ref mx, .long po, .long de])), (mp, .inl (1, 108, .inl f))] (fun o cs1 => o = .inl (some (.int (nI (ucT f p 12)))) ∧ cs1 = [(m, .inr (12, [.int 0, .ref mp, .int (nI p), .ref mf, .ref mh, .ref mn, .ref mt, .ref mz, .ref mc_, .ref mq, .ref mgr, .int cl, .int wa, .int co_, .int fi, .int bu, .int ho, .ref ml, .ref mi, .ref mr, .int lh, .int mg, .int wd, .int fpi, .int fal, .ref mm, .ref mu, .ref mk, .ref mx, .long po, .long de])), (mp, .inl (1, 108, .inl f))]) 0 0 := by
  refine z_of (by decide) rfl (Nat.le_of_ble_eq_true rfl) (fun w0 => ?_)
  refine r_lvE (lv2 := [(0, .ref m)]) rfl ?_
  refine r_aload_n d_Mm_undercut_0 rfl 0 rfl ?_
  refine r_iconst d_Mm_undercut_1 (v := 0) (by decide) ?_
  refine r_put fp_Mm_84 d_Mm_undercut_2 (fun h => nomatch h) rfl rfl (q0 := 0) rfl (Nat.le_of_ble_eq_true rfl) (cs' := [(m, .inr (12, [.int 0, .ref mp, .int (nI p), .ref mf, .ref mh, .ref mn, .ref mt, .ref mz, .ref mc_, .ref mq, .ref mgr, .int cl, .int wa, .int co_, .int fi, .int bu, .int ho, .ref ml, .ref mi, .ref mr, .int lh, .int mg, .int wd, .int fpi, .int fal, .ref mm, .ref mu, .ref mk, .ref mx, .long po, .long de])), (mp, .inl (1, 108, .inl f))]) rfl ?_
  refine r_aload_n d_Mm_undercut_5 rfl 0 rfl ?_
  refine r_get fs_Mm_7 d_Mm_undercut_6 (q0 := 0) rfl rfl ?_
  refine r_aload_n d_Mm_undercut_9 rfl 0 rfl ?_
  refine r_get fs_Mm_13 d_Mm_undercut_10 (q0 := 0) rfl rfl ?_
  refine r_callS (As := [.ref mp, .int (nI p)]) (rest := []) (csC := [(mp, .inl (1, 108, .inl f))]) (is := [1]) ln_Mm_111 w_st_Mm_undercutIn ok_Mm_undercut_Mm_undercutIn d_Mm_undercut_13 (C_Mm_undercutIn g mp f p hp1 hp hf) rfl rfl (Nat.le_of_ble_eq_true rfl) rfl (by decide) (by omega) (by omega) (fun E cs1 hx => ?_) (fun v cs1 hx => ?_)
  · exact absurd hx.1 (by simp)
  · obtain ⟨e1, rfl⟩ := hx
    cases e1
    refine ⟨rfl, ?_⟩
    refine r_st (st2 := [.int (nI (ucT f p 12))]) rfl ?_
    refine r_cs (cs2 := [(m, .inr (12, [.int 0, .ref mp, .int (nI p), .ref mf, .ref mh, .ref mn, .ref mt, .ref mz, .ref mc_, .ref mq, .ref mgr, .int cl, .int wa, .int co_, .int fi, .int bu, .int ho, .ref ml, .ref mi, .ref mr, .int lh, .int mg, .int wd, .int fpi, .int fal, .ref mm, .ref mu, .ref mk, .ref mx, .long po, .long de])), (mp, .inl (1, 108, .inl f))]) rfl ?_
    refine r_iret d_Mm_undercut_16 rfl rfl ?_
    exact ⟨rfl, rfl⟩
