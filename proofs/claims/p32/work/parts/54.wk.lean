section
theorem cn_lt {gp : Nat → Int32} {c : Nat} (h : ¬ gp c = -1) : ∀ n, c < n → fa_cnt (fun k => decide (gp k = -1)) n + 1 ≤ n
  | 0, q => absurd q (by omega)
  | n + 1, q => by
    by_cases hn : n = c
    · subst hn
      rw [fa_cnt_no (p := fun k => decide (gp k = -1)) (decide_eq_false h)]
      have := fa_cnt_le (fun k => decide (gp k = -1)) n
      omega
    · have ih := cn_lt h n (by omega)
      rw [fa_cnt]
      split <;> omega
def qG (gp : Nat → Int32) (qn : Nat → Nat) (e c : Nat) : Prop := (∀ k, k < e → qn k < 108) ∧ e + cnM gp ≤ 108 ∧ ¬ gp c = -1
theorem qG_up {gp : Nat → Int32} {qn : Nat → Nat} {e c oo : Nat} (hoo : oo < 108) (h0 : gp oo = -1) (h : qG gp qn e c) : qG (upd gp oo (gp c)) (updN qn e oo) (e + 1) c := by
  have h1 := cn_up hoo h0 h.2.2
  have h2 := h.2.1
  refine ⟨fun k hk => ?_, by omega, ?_⟩
  · unfold updN
    split
    · exact hoo
    · exact h.1 k (by omega)
  · have h3 := h.2.2
    unfold upd
    split
    · exact h3
    · exact h3
theorem qG_lt {gp : Nat → Int32} {qn : Nat → Nat} {e c oo : Nat} (hoo : oo < 108) (h0 : gp oo = -1) (h : qG gp qn e c) : e < 108 := by
  have h1 := cn_up hoo h0 h.2.2
  have h2 := h.2.1
  omega
theorem qG_1 {gp : Nat → Int32} {qn : Nat → Nat} {c : Nat} (hc : c < 108) (h : ¬ gp c = -1) : qG gp (updN qn 0 c) 1 c := by
  have h1 := cn_lt h 108 hc
  refine ⟨fun k hk => ?_, by unfold cnM; omega, h⟩
  unfold updN
  rw [if_pos (by omega)]
  exact hc
theorem qG_le {gp : Nat → Int32} {qn : Nat → Nat} {e c : Nat} (h : qG gp qn e c) : e ≤ 108 := by have := h.2.1; omega
abbrev M_Mm_spread : zM := (⟨"IronpourModel", "spread", "([CI)V"⟩, prog_14_method_14_code, 7, (Option.none : Option FieldType), 4, 86, [])
theorem d_Mm_spread_21 : decode prog_14_method_14_code 21 = .ok (.iload 5, 2) := zo_21 (d := 5) (zd_b zq_prog_14_method_14_code_0 21 rfl rfl rfl) (zd_b zq_prog_14_method_14_code_0 22 rfl rfl rfl)
theorem d_Mm_spread_23 : decode prog_14_method_14_code 23 = .ok (.iconst 4, 1) := zo_7 (zd_b zq_prog_14_method_14_code_0 23 rfl rfl rfl)
theorem d_Mm_spread_24 : decode prog_14_method_14_code 24 = .ok (.if_icmp .ge 73, 3) := zo_162 (d := 0) (e := 73) (zd_b zq_prog_14_method_14_code_0 24 rfl rfl rfl) (zd_b zq_prog_14_method_14_code_0 25 rfl rfl rfl) (zd_b zq_prog_14_method_14_code_0 26 rfl rfl rfl) (by decide +kernel)
theorem d_Mm_spread_27 : decode prog_14_method_14_code 27 = .ok (.aload_n 0, 1) := zo_42 (zd_b zq_prog_14_method_14_code_0 27 rfl rfl rfl)
theorem d_Mm_spread_28 : decode prog_14_method_14_code 28 = .ok (.getfield 37, 3) := zo_180 (d := 0) (e := 37) (zd_b zq_prog_14_method_14_code_0 28 rfl rfl rfl) (zd_b zq_prog_14_method_14_code_0 29 rfl rfl rfl) (zd_b zq_prog_14_method_14_code_0 30 rfl rfl rfl)
theorem d_Mm_spread_31 : decode prog_14_method_14_code 31 = .ok (.iload 4, 2) := zo_21 (d := 4) (zd_b zq_prog_14_method_14_code_0 31 rfl rfl rfl) (zd_b zq_prog_14_method_14_code_1 0 rfl rfl rfl)
theorem d_Mm_spread_33 : decode prog_14_method_14_code 33 = .ok (.iaload, 1) := zo_46 (zd_b zq_prog_14_method_14_code_1 1 rfl rfl rfl)
theorem d_Mm_spread_34 : decode prog_14_method_14_code 34 = .ok (.iload 5, 2) := zo_21 (d := 5) (zd_b zq_prog_14_method_14_code_1 2 rfl rfl rfl) (zd_b zq_prog_14_method_14_code_1 3 rfl rfl rfl)
theorem d_Mm_spread_36 : decode prog_14_method_14_code 36 = .ok (.invokestatic 119, 3) := zo_184 (d := 0) (e := 119) (zd_b zq_prog_14_method_14_code_1 4 rfl rfl rfl) (zd_b zq_prog_14_method_14_code_1 5 rfl rfl rfl) (zd_b zq_prog_14_method_14_code_1 6 rfl rfl rfl)
theorem ok_Mm_spread_Mm_beside : z_ok M_Mm_spread M_Mm_beside 2 := ⟨z_mj7 (i := 229) rfl (by decide +kernel), rfl, ⟨by decide +kernel, by decide +kernel, by decide +kernel⟩, ⟨by decide, by decide⟩, z_mj1 (i := 14) rfl (by decide +kernel), rfl⟩
theorem d_Mm_spread_39 : decode prog_14_method_14_code 39 = .ok (.istore 6, 2) := zo_54 (d := 6) (zd_b zq_prog_14_method_14_code_1 7 rfl rfl rfl) (zd_b zq_prog_14_method_14_code_1 8 rfl rfl rfl)
theorem d_Mm_spread_41 : decode prog_14_method_14_code 41 = .ok (.iload 6, 2) := zo_21 (d := 6) (zd_b zq_prog_14_method_14_code_1 9 rfl rfl rfl) (zd_b zq_prog_14_method_14_code_1 10 rfl rfl rfl)
theorem d_Mm_spread_43 : decode prog_14_method_14_code 43 = .ok (.iconst (-1), 1) := zo_2 (zd_b zq_prog_14_method_14_code_1 11 rfl rfl rfl)
theorem d_Mm_spread_44 : decode prog_14_method_14_code 44 = .ok (.if_icmp .eq 47, 3) := zo_159 (d := 0) (e := 47) (zd_b zq_prog_14_method_14_code_1 12 rfl rfl rfl) (zd_b zq_prog_14_method_14_code_1 13 rfl rfl rfl) (zd_b zq_prog_14_method_14_code_1 14 rfl rfl rfl) (by decide +kernel)
theorem d_Mm_spread_91 : decode prog_14_method_14_code 91 = .ok (.iinc 5 1, 3) := by decide +kernel
theorem d_Mm_spread_94 : decode prog_14_method_14_code 94 = .ok (.goto (-73), 3) := zo_167 (d := 255) (e := 183) (zd_b zq_prog_14_method_14_code_2 30 rfl rfl rfl) (zd_b zq_prog_14_method_14_code_2 31 rfl rfl rfl) (zd_b zq_prog_14_method_14_code_3 0 rfl rfl rfl) (by decide +kernel)
theorem d_Mm_spread_47 : decode prog_14_method_14_code 47 = .ok (.aload_n 1, 1) := zo_43 (zd_b zq_prog_14_method_14_code_1 15 rfl rfl rfl)
theorem d_Mm_spread_48 : decode prog_14_method_14_code 48 = .ok (.iload 6, 2) := zo_21 (d := 6) (zd_b zq_prog_14_method_14_code_1 16 rfl rfl rfl) (zd_b zq_prog_14_method_14_code_1 17 rfl rfl rfl)
theorem d_Mm_spread_50 : decode prog_14_method_14_code 50 = .ok (.caload, 1) := zo_52 (zd_b zq_prog_14_method_14_code_1 18 rfl rfl rfl)
theorem d_Mm_spread_51 : decode prog_14_method_14_code 51 = .ok (.bipush 111, 2) := zo_16 (d := 111) (zd_b zq_prog_14_method_14_code_1 19 rfl rfl rfl) (zd_b zq_prog_14_method_14_code_1 20 rfl rfl rfl) (by decide +kernel)
theorem d_Mm_spread_53 : decode prog_14_method_14_code 53 = .ok (.if_icmp .ne 38, 3) := zo_160 (d := 0) (e := 38) (zd_b zq_prog_14_method_14_code_1 21 rfl rfl rfl) (zd_b zq_prog_14_method_14_code_1 22 rfl rfl rfl) (zd_b zq_prog_14_method_14_code_1 23 rfl rfl rfl) (by decide +kernel)
theorem d_Mm_spread_56 : decode prog_14_method_14_code 56 = .ok (.aload_n 0, 1) := zo_42 (zd_b zq_prog_14_method_14_code_1 24 rfl rfl rfl)
theorem d_Mm_spread_57 : decode prog_14_method_14_code 57 = .ok (.getfield 40, 3) := zo_180 (d := 0) (e := 40) (zd_b zq_prog_14_method_14_code_1 25 rfl rfl rfl) (zd_b zq_prog_14_method_14_code_1 26 rfl rfl rfl) (zd_b zq_prog_14_method_14_code_1 27 rfl rfl rfl)
theorem d_Mm_spread_60 : decode prog_14_method_14_code 60 = .ok (.iload 6, 2) := zo_21 (d := 6) (zd_b zq_prog_14_method_14_code_1 28 rfl rfl rfl) (zd_b zq_prog_14_method_14_code_1 29 rfl rfl rfl)
theorem d_Mm_spread_62 : decode prog_14_method_14_code 62 = .ok (.iaload, 1) := zo_46 (zd_b zq_prog_14_method_14_code_1 30 rfl rfl rfl)
theorem d_Mm_spread_63 : decode prog_14_method_14_code 63 = .ok (.iconst (-1), 1) := zo_2 (zd_b zq_prog_14_method_14_code_1 31 rfl rfl rfl)
theorem d_Mm_spread_64 : decode prog_14_method_14_code 64 = .ok (.if_icmp .ne 27, 3) := zo_160 (d := 0) (e := 27) (zd_b zq_prog_14_method_14_code_2 0 rfl rfl rfl) (zd_b zq_prog_14_method_14_code_2 1 rfl rfl rfl) (zd_b zq_prog_14_method_14_code_2 2 rfl rfl rfl) (by decide +kernel)
theorem d_Mm_spread_67 : decode prog_14_method_14_code 67 = .ok (.aload_n 0, 1) := zo_42 (zd_b zq_prog_14_method_14_code_2 3 rfl rfl rfl)
theorem d_Mm_spread_68 : decode prog_14_method_14_code 68 = .ok (.getfield 40, 3) := zo_180 (d := 0) (e := 40) (zd_b zq_prog_14_method_14_code_2 4 rfl rfl rfl) (zd_b zq_prog_14_method_14_code_2 5 rfl rfl rfl) (zd_b zq_prog_14_method_14_code_2 6 rfl rfl rfl)
theorem d_Mm_spread_71 : decode prog_14_method_14_code 71 = .ok (.iload 6, 2) := zo_21 (d := 6) (zd_b zq_prog_14_method_14_code_2 7 rfl rfl rfl) (zd_b zq_prog_14_method_14_code_2 8 rfl rfl rfl)
theorem d_Mm_spread_73 : decode prog_14_method_14_code 73 = .ok (.aload_n 0, 1) := zo_42 (zd_b zq_prog_14_method_14_code_2 9 rfl rfl rfl)
theorem d_Mm_spread_74 : decode prog_14_method_14_code 74 = .ok (.getfield 40, 3) := zo_180 (d := 0) (e := 40) (zd_b zq_prog_14_method_14_code_2 10 rfl rfl rfl) (zd_b zq_prog_14_method_14_code_2 11 rfl rfl rfl) (zd_b zq_prog_14_method_14_code_2 12 rfl rfl rfl)
theorem d_Mm_spread_77 : decode prog_14_method_14_code 77 = .ok (.iload_n 2, 1) := zo_28 (zd_b zq_prog_14_method_14_code_2 13 rfl rfl rfl)
theorem d_Mm_spread_78 : decode prog_14_method_14_code 78 = .ok (.iaload, 1) := zo_46 (zd_b zq_prog_14_method_14_code_2 14 rfl rfl rfl)
theorem d_Mm_spread_79 : decode prog_14_method_14_code 79 = .ok (.iastore, 1) := zo_79 (zd_b zq_prog_14_method_14_code_2 15 rfl rfl rfl)
theorem d_Mm_spread_80 : decode prog_14_method_14_code 80 = .ok (.aload_n 0, 1) := zo_42 (zd_b zq_prog_14_method_14_code_2 16 rfl rfl rfl)
theorem d_Mm_spread_81 : decode prog_14_method_14_code 81 = .ok (.getfield 37, 3) := zo_180 (d := 0) (e := 37) (zd_b zq_prog_14_method_14_code_2 17 rfl rfl rfl) (zd_b zq_prog_14_method_14_code_2 18 rfl rfl rfl) (zd_b zq_prog_14_method_14_code_2 19 rfl rfl rfl)
theorem d_Mm_spread_84 : decode prog_14_method_14_code 84 = .ok (.iload_n 3, 1) := zo_29 (zd_b zq_prog_14_method_14_code_2 20 rfl rfl rfl)
theorem d_Mm_spread_85 : decode prog_14_method_14_code 85 = .ok (.iload 6, 2) := zo_21 (d := 6) (zd_b zq_prog_14_method_14_code_2 21 rfl rfl rfl) (zd_b zq_prog_14_method_14_code_2 22 rfl rfl rfl)
theorem d_Mm_spread_87 : decode prog_14_method_14_code 87 = .ok (.iastore, 1) := zo_79 (zd_b zq_prog_14_method_14_code_2 23 rfl rfl rfl)
theorem d_Mm_spread_88 : decode prog_14_method_14_code 88 = .ok (.iinc 3 1, 3) := by decide +kernel
theorem d_Mm_spread_12 : decode prog_14_method_14_code 12 = .ok (.iload 4, 2) := zo_21 (d := 4) (zd_b zq_prog_14_method_14_code_0 12 rfl rfl rfl) (zd_b zq_prog_14_method_14_code_0 13 rfl rfl rfl)
theorem d_Mm_spread_14 : decode prog_14_method_14_code 14 = .ok (.iload_n 3, 1) := zo_29 (zd_b zq_prog_14_method_14_code_0 14 rfl rfl rfl)
theorem d_Mm_spread_15 : decode prog_14_method_14_code 15 = .ok (.if_icmp .ge 88, 3) := zo_162 (d := 0) (e := 88) (zd_b zq_prog_14_method_14_code_0 15 rfl rfl rfl) (zd_b zq_prog_14_method_14_code_0 16 rfl rfl rfl) (zd_b zq_prog_14_method_14_code_0 17 rfl rfl rfl) (by decide +kernel)
theorem d_Mm_spread_103 : decode prog_14_method_14_code 103 = .ok (.return_, 1) := zo_177 (zd_b zq_prog_14_method_14_code_3 7 rfl rfl rfl)
theorem d_Mm_spread_18 : decode prog_14_method_14_code 18 = .ok (.iconst 0, 1) := zo_3 (zd_b zq_prog_14_method_14_code_0 18 rfl rfl rfl)
theorem d_Mm_spread_19 : decode prog_14_method_14_code 19 = .ok (.istore 5, 2) := zo_54 (d := 5) (zd_b zq_prog_14_method_14_code_0 19 rfl rfl rfl) (zd_b zq_prog_14_method_14_code_0 20 rfl rfl rfl)
theorem d_Mm_spread_97 : decode prog_14_method_14_code 97 = .ok (.iinc 4 1, 3) := by decide +kernel
theorem d_Mm_spread_100 : decode prog_14_method_14_code 100 = .ok (.goto (-88), 3) := zo_167 (d := 255) (e := 168) (zd_b zq_prog_14_method_14_code_3 4 rfl rfl rfl) (zd_b zq_prog_14_method_14_code_3 5 rfl rfl rfl) (zd_b zq_prog_14_method_14_code_3 6 rfl rfl rfl) (by decide +kernel)
theorem d_Mm_spread_0 : decode prog_14_method_14_code 0 = .ok (.aload_n 0, 1) := zo_42 (zd_b zq_prog_14_method_14_code_0 0 rfl rfl rfl)
theorem d_Mm_spread_1 : decode prog_14_method_14_code 1 = .ok (.getfield 37, 3) := zo_180 (d := 0) (e := 37) (zd_b zq_prog_14_method_14_code_0 1 rfl rfl rfl) (zd_b zq_prog_14_method_14_code_0 2 rfl rfl rfl) (zd_b zq_prog_14_method_14_code_0 3 rfl rfl rfl)
theorem d_Mm_spread_4 : decode prog_14_method_14_code 4 = .ok (.iconst 0, 1) := zo_3 (zd_b zq_prog_14_method_14_code_0 4 rfl rfl rfl)
theorem d_Mm_spread_5 : decode prog_14_method_14_code 5 = .ok (.iload_n 2, 1) := zo_28 (zd_b zq_prog_14_method_14_code_0 5 rfl rfl rfl)
theorem d_Mm_spread_6 : decode prog_14_method_14_code 6 = .ok (.iastore, 1) := zo_79 (zd_b zq_prog_14_method_14_code_0 6 rfl rfl rfl)
theorem d_Mm_spread_7 : decode prog_14_method_14_code 7 = .ok (.iconst 1, 1) := zo_4 (zd_b zq_prog_14_method_14_code_0 7 rfl rfl rfl)
theorem d_Mm_spread_8 : decode prog_14_method_14_code 8 = .ok (.istore_n 3, 1) := zo_62 (zd_b zq_prog_14_method_14_code_0 8 rfl rfl rfl)
theorem d_Mm_spread_9 : decode prog_14_method_14_code 9 = .ok (.iconst 0, 1) := zo_3 (zd_b zq_prog_14_method_14_code_0 9 rfl rfl rfl)
theorem d_Mm_spread_10 : decode prog_14_method_14_code 10 = .ok (.istore 4, 2) := zo_54 (d := 4) (zd_b zq_prog_14_method_14_code_0 10 rfl rfl rfl) (zd_b zq_prog_14_method_14_code_0 11 rfl rfl rfl)
set_option maxHeartbeats 4000000 in
set_option maxRecDepth 100000 in
theorem L_Mm_spreadW_21 (g : zG) (m mp mf mh mn mt mz mc_ mq mgr ml mi mr mm mu mk mx : Nat) (th pt cl wa co_ fi bu ho lh mg wd fpi fal : Int32) (po de : Int64) (b : Nat) (f : Nat → Int32) (gp0 : Nat → Int32) (qn : Nat → Nat) (c : Nat) (hc : c < 108) (hg : ¬ gp0 c = -1) (w0 : zW) (n : Nat) (j : Nat) (K : ∀ (gp : Nat → Int32) (qn : Nat → Nat) (e : Nat), qG gp qn e c → j < e → DV g M_Mm_spread (fun o cs1 => ∃ (gp9 : Nat → Int32) (qn9 : Nat → Nat), o = .inl none ∧ cs1 = [(m, .inr (12, [.int th, .ref mp, .int pt, .ref mf, .ref mh, .ref mn, .ref mt, .ref mz, .ref mc_, .ref mq, .ref mgr, .int cl, .int wa, .int co_, .int fi, .int bu, .int ho, .ref ml, .ref mi, .ref mr, .int lh, .int mg, .int wd, .int fpi, .int fal, .ref mm, .ref mu, .ref mk, .ref mx, .long po, .long de])), (b, .inl (1, 108, .inl f)), (mgr, .inl (0, 108, .inl gp9)), (mq, .inl (0, 108, .inl (fun k => nI (qn9 k))))]) w0 n 97 [(4, .int (nI j)), (3, .int (nI e)), (0, .ref m), (1, .ref b), (2, .int (nI c))] [] [(m, .inr (12, [.int th, .ref mp, .int pt, .ref mf, .ref mh, .ref mn, .ref mt, .ref mz, .ref mc_, .ref mq, .ref mgr, .int cl, .int wa, .int co_, .int fi, .int bu, .int ho, .ref ml, .ref mi, .ref mr, .int lh, .int mg, .int wd, .int fpi, .int fal, .ref mm, .ref mu, .ref mk, .ref mx, .long po, .long de])), (b, .inl (1, 108, .inl f)), (mgr, .inl (0, 108, .inl gp)), (mq, .inl (0, 108, .inl (fun k => nI (qn k))))] 0 0) : ∀ (d i : Nat) (gp : Nat → Int32) (qn : Nat → Nat) (e : Nat), i ≤ 4 → 4 < i + d → qG gp qn e c → j < e → DV g M_Mm_spread (fun o cs1 => ∃ (gp9 : Nat → Int32) (qn9 : Nat → Nat), o = .inl none ∧ cs1 = [(m, .inr (12, [.int th, .ref mp, .int pt, .ref mf, .ref mh, .ref mn, .ref mt, .ref mz, .ref mc_, .ref mq, .ref mgr, .int cl, .int wa, .int co_, .int fi, .int bu, .int ho, .ref ml, .ref mi, .ref mr, .int lh, .int mg, .int wd, .int fpi, .int fal, .ref mm, .ref mu, .ref mk, .ref mx, .long po, .long de])), (b, .inl (1, 108, .inl f)), (mgr, .inl (0, 108, .inl gp9)), (mq, .inl (0, 108, .inl (fun k => nI (qn9 k))))]) w0 n 21 [(5, .int (nI i)), (4, .int (nI j)), (3, .int (nI e)), (0, .ref m), (1, .ref b), (2, .int (nI c))] [] [(m, .inr (12, [.int th, .ref mp, .int pt, .ref mf, .ref mh, .ref mn, .ref mt, .ref mz, .ref mc_, .ref mq, .ref mgr, .int cl, .int wa, .int co_, .int fi, .int bu, .int ho, .ref ml, .ref mi, .ref mr, .int lh, .int mg, .int wd, .int fpi, .int fal, .ref mm, .ref mu, .ref mk, .ref mx, .long po, .long de])), (b, .inl (1, 108, .inl f)), (mgr, .inl (0, 108, .inl gp)), (mq, .inl (0, 108, .inl (fun k => nI (qn k))))] 0 0 := by
  intro d
  induction d with
  | zero => intro i gp qn e h1 h2 v1 v2; exact absurd h2 (by omega)
  | succ d ih =>
    intro i gp qn e h1 h2 v1 v2
    refine r_iload d_Mm_spread_21 0 rfl ?_
    refine r_iconst d_Mm_spread_23 (v := 4) (by decide) ?_
    refine r_icmp_ge (tgt := 97) d_Mm_spread_24 (by decide) (fun c_24 => ?_) (fun c_24 => ?_)
    · have hn := z_le (a := 4) (by omega) (by decide) c_24
      obtain rfl : i = 4 := by omega
      refine r_lv (lv' := [(4, .int (nI j)), (3, .int (nI e)), (0, .ref m), (1, .ref b), (2, .int (nI c))]) [1, 2, 3, 4, 5] rfl ?_
      exact K _ _ _ v1 v2
    · have he9 := qG_le v1
      have hn := z_nle (a := 4) (by omega) (by decide) c_24
      have hq9 := v1.1 j v2
      refine r_aload_n d_Mm_spread_27 rfl 3 rfl ?_
      refine r_get fs_Mm_37 d_Mm_spread_28 (q0 := 0) rfl rfl ?_
      refine r_iload d_Mm_spread_31 1 rfl ?_
      refine r_iald d_Mm_spread_33 (q0 := 3) rfl (vp_in_nI (by omega) (by omega)) (v := nI (qn j)) (by rw [nI_clamp (by omega)]) ?_
      refine r_iload d_Mm_spread_34 0 rfl ?_
      refine r_callS (As := [.int (nI (qn j)), .int (nI i)]) (rest := []) (csC := []) (is := []) ln_Mm_119 w_st_Mm_beside ok_Mm_spread_Mm_beside d_Mm_spread_36 (C_Mm_beside g (qn j) i (by omega) (by omega)) rfl rfl (Nat.le_of_ble_eq_true rfl) rfl (by decide) (by omega) (by omega) (fun E cs1 hx => ?_) (fun v cs1 hx => ?_)
      · exact absurd hx.1 (by simp)
      · obtain ⟨e1, rfl⟩ := hx
        cases e1
        refine ⟨rfl, ?_⟩
        refine r_st (st2 := [.int (oI (bs (qn j) i))]) rfl ?_
        refine r_cs (cs2 := [(m, .inr (12, [.int th, .ref mp, .int pt, .ref mf, .ref mh, .ref mn, .ref mt, .ref mz, .ref mc_, .ref mq, .ref mgr, .int cl, .int wa, .int co_, .int fi, .int bu, .int ho, .ref ml, .ref mi, .ref mr, .int lh, .int mg, .int wd, .int fpi, .int fal, .ref mm, .ref mu, .ref mk, .ref mx, .long po, .long de])), (b, .inl (1, 108, .inl f)), (mgr, .inl (0, 108, .inl gp)), (mq, .inl (0, 108, .inl (fun k => nI (qn k))))]) rfl ?_
        refine r_istore (lv' := [(6, .int (oI (bs (qn j) i))), (5, .int (nI i)), (4, .int (nI j)), (3, .int (nI e)), (0, .ref m), (1, .ref b), (2, .int (nI c))]) d_Mm_spread_39 (by decide) rfl ?_
        refine r_iload d_Mm_spread_41 0 rfl ?_
        refine r_iconst d_Mm_spread_43 (v := (-1)) (by decide) ?_
        refine r_icmp_eq (tgt := 91) d_Mm_spread_44 (by decide) (fun c_44 => ?_) (fun c_44 => ?_)
        · refine r_iinc (lv' := [(5, .int (nI (i + 1))), (6, .int (oI (bs (qn j) i))), (4, .int (nI j)), (3, .int (nI e)), (0, .ref m), (1, .ref b), (2, .int (nI c))]) (v := nI (i + 1)) d_Mm_spread_91 (j := 1) rfl (nI_add _ _) (by decide) rfl ?_
          refine r_goto (tgt := 21) d_Mm_spread_94 (by decide) ?_
          refine r_lv (lv' := [(5, .int (nI (i + 1))), (4, .int (nI j)), (3, .int (nI e)), (0, .ref m), (1, .ref b), (2, .int (nI c))]) [0, 2, 3, 4, 5, 6] rfl ?_
          exact ih (i + 1) _ _ _ (by omega) (by omega) v1 v2
        · obtain ⟨oo, ho9⟩ := oI_nm c_44
          have hol := bs_lt hq9 ho9
          rw [ho9, show oI (some oo) = nI oo from rfl]
          refine r_aload_n d_Mm_spread_47 rfl 5 rfl ?_
          refine r_iload d_Mm_spread_48 0 rfl ?_
          refine r_cald d_Mm_spread_50 (q0 := 1) rfl (vp_in_nI (by omega) (by omega)) (v := f oo) (by rw [nI_clamp (by omega)]) ?_
          refine r_bipush d_Mm_spread_51 (v := 111) (by decide) ?_
          refine r_icmp_ne (tgt := 91) d_Mm_spread_53 (by decide) (fun c_53 => ?_) (fun c_53 => ?_)
          · refine r_iinc (lv' := [(5, .int (nI (i + 1))), (6, .int (nI oo)), (4, .int (nI j)), (3, .int (nI e)), (0, .ref m), (1, .ref b), (2, .int (nI c))]) (v := nI (i + 1)) d_Mm_spread_91 (j := 1) rfl (nI_add _ _) (by decide) rfl ?_
            refine r_goto (tgt := 21) d_Mm_spread_94 (by decide) ?_
            refine r_lv (lv' := [(5, .int (nI (i + 1))), (4, .int (nI j)), (3, .int (nI e)), (0, .ref m), (1, .ref b), (2, .int (nI c))]) [0, 2, 3, 4, 5, 6] rfl ?_
            exact ih (i + 1) _ _ _ (by omega) (by omega) v1 v2
          · refine r_aload_n d_Mm_spread_56 rfl 4 rfl ?_
            refine r_get fs_Mm_40 d_Mm_spread_57 (q0 := 0) rfl rfl ?_
            refine r_iload d_Mm_spread_60 0 rfl ?_
            refine r_iald d_Mm_spread_62 (q0 := 2) rfl (vp_in_nI (by omega) (by omega)) (v := gp oo) (by rw [nI_clamp (by omega)]) ?_
            refine r_iconst d_Mm_spread_63 (v := (-1)) (by decide) ?_
            refine r_icmp_ne (tgt := 91) d_Mm_spread_64 (by decide) (fun c_64 => ?_) (fun c_64 => ?_)
            · refine r_iinc (lv' := [(5, .int (nI (i + 1))), (6, .int (nI oo)), (4, .int (nI j)), (3, .int (nI e)), (0, .ref m), (1, .ref b), (2, .int (nI c))]) (v := nI (i + 1)) d_Mm_spread_91 (j := 1) rfl (nI_add _ _) (by decide) rfl ?_
              refine r_goto (tgt := 21) d_Mm_spread_94 (by decide) ?_
              refine r_lv (lv' := [(5, .int (nI (i + 1))), (4, .int (nI j)), (3, .int (nI e)), (0, .ref m), (1, .ref b), (2, .int (nI c))]) [0, 2, 3, 4, 5, 6] rfl ?_
              exact ih (i + 1) _ _ _ (by omega) (by omega) v1 v2
            · have hel := qG_lt hol c_64 v1
              refine r_aload_n d_Mm_spread_67 rfl 4 rfl ?_
              refine r_get fs_Mm_40 d_Mm_spread_68 (q0 := 0) rfl rfl ?_
              refine r_iload d_Mm_spread_71 0 rfl ?_
              refine r_aload_n d_Mm_spread_73 rfl 4 rfl ?_
              refine r_get fs_Mm_40 d_Mm_spread_74 (q0 := 0) rfl rfl ?_
              refine r_iload_n d_Mm_spread_77 rfl 6 rfl ?_
              refine r_iald d_Mm_spread_78 (q0 := 2) rfl (vp_in_nI (by omega) (by omega)) (v := gp c) (by rw [nI_clamp (by omega)]) ?_
              refine r_iast d_Mm_spread_79 (q0 := 2) rfl (vp_in_nI (by omega) (by omega)) (f' := upd gp oo (gp c)) (by rw [nI_clamp (by omega)]) (cs' := [(m, .inr (12, [.int th, .ref mp, .int pt, .ref mf, .ref mh, .ref mn, .ref mt, .ref mz, .ref mc_, .ref mq, .ref mgr, .int cl, .int wa, .int co_, .int fi, .int bu, .int ho, .ref ml, .ref mi, .ref mr, .int lh, .int mg, .int wd, .int fpi, .int fal, .ref mm, .ref mu, .ref mk, .ref mx, .long po, .long de])), (b, .inl (1, 108, .inl f)), (mgr, .inl (0, 108, .inl (upd gp oo (gp c)))), (mq, .inl (0, 108, .inl (fun k => nI (qn k))))]) rfl ?_
              refine r_aload_n d_Mm_spread_80 rfl 4 rfl ?_
              refine r_get fs_Mm_37 d_Mm_spread_81 (q0 := 0) rfl rfl ?_
              refine r_iload_n d_Mm_spread_84 rfl 3 rfl ?_
              refine r_iload d_Mm_spread_85 0 rfl ?_
              refine r_iast d_Mm_spread_87 (q0 := 3) rfl (vp_in_nI (by omega) (by omega)) (f' := fun k => nI (updN qn e oo k)) (by rw [nI_clamp (by omega)]; exact upd_qn) (cs' := [(m, .inr (12, [.int th, .ref mp, .int pt, .ref mf, .ref mh, .ref mn, .ref mt, .ref mz, .ref mc_, .ref mq, .ref mgr, .int cl, .int wa, .int co_, .int fi, .int bu, .int ho, .ref ml, .ref mi, .ref mr, .int lh, .int mg, .int wd, .int fpi, .int fal, .ref mm, .ref mu, .ref mk, .ref mx, .long po, .long de])), (b, .inl (1, 108, .inl f)), (mgr, .inl (0, 108, .inl (upd gp oo (gp c)))), (mq, .inl (0, 108, .inl (fun k => nI (updN qn e oo k))))]) rfl ?_
              refine r_iinc (lv' := [(3, .int (nI (e + 1))), (6, .int (nI oo)), (5, .int (nI i)), (4, .int (nI j)), (0, .ref m), (1, .ref b), (2, .int (nI c))]) (v := nI (e + 1)) d_Mm_spread_88 (j := 3) rfl (nI_add _ _) (by decide) rfl ?_
              refine r_iinc (lv' := [(5, .int (nI (i + 1))), (3, .int (nI (e + 1))), (6, .int (nI oo)), (4, .int (nI j)), (0, .ref m), (1, .ref b), (2, .int (nI c))]) (v := nI (i + 1)) d_Mm_spread_91 (j := 2) rfl (nI_add _ _) (by decide) rfl ?_
              refine r_goto (tgt := 21) d_Mm_spread_94 (by decide) ?_
              refine r_lv (lv' := [(5, .int (nI (i + 1))), (4, .int (nI j)), (3, .int (nI (e + 1))), (0, .ref m), (1, .ref b), (2, .int (nI c))]) [0, 3, 1, 4, 5, 6] rfl ?_
              exact ih (i + 1) _ _ _ (by omega) (by omega) (qG_up hol c_64 v1) (by omega)
set_option maxHeartbeats 4000000 in
set_option maxRecDepth 100000 in
theorem L_Mm_spreadW_12 (g : zG) (m mp mf mh mn mt mz mc_ mq mgr ml mi mr mm mu mk mx : Nat) (th pt cl wa co_ fi bu ho lh mg wd fpi fal : Int32) (po de : Int64) (b : Nat) (f : Nat → Int32) (gp0 : Nat → Int32) (qn : Nat → Nat) (c : Nat) (hc : c < 108) (hg : ¬ gp0 c = -1) (w0 : zW) (n : Nat) : ∀ (d j e : Nat) (gp : Nat → Int32) (qn : Nat → Nat), qG gp qn e c → j ≤ e → 108 < j + d → DV g M_Mm_spread (fun o cs1 => ∃ (gp9 : Nat → Int32) (qn9 : Nat → Nat), o = .inl none ∧ cs1 = [(m, .inr (12, [.int th, .ref mp, .int pt, .ref mf, .ref mh, .ref mn, .ref mt, .ref mz, .ref mc_, .ref mq, .ref mgr, .int cl, .int wa, .int co_, .int fi, .int bu, .int ho, .ref ml, .ref mi, .ref mr, .int lh, .int mg, .int wd, .int fpi, .int fal, .ref mm, .ref mu, .ref mk, .ref mx, .long po, .long de])), (b, .inl (1, 108, .inl f)), (mgr, .inl (0, 108, .inl gp9)), (mq, .inl (0, 108, .inl (fun k => nI (qn9 k))))]) w0 n 12 [(4, .int (nI j)), (3, .int (nI e)), (0, .ref m), (1, .ref b), (2, .int (nI c))] [] [(m, .inr (12, [.int th, .ref mp, .int pt, .ref mf, .ref mh, .ref mn, .ref mt, .ref mz, .ref mc_, .ref mq, .ref mgr, .int cl, .int wa, .int co_, .int fi, .int bu, .int ho, .ref ml, .ref mi, .ref mr, .int lh, .int mg, .int wd, .int fpi, .int fal, .ref mm, .ref mu, .ref mk, .ref mx, .long po, .long de])), (b, .inl (1, 108, .inl f)), (mgr, .inl (0, 108, .inl gp)), (mq, .inl (0, 108, .inl (fun k => nI (qn k))))] 0 0 := by
  intro d
  induction d with
  | zero => intro j e gp qn v1 v2 h1; exact absurd h1 (by have := qG_le v1; omega)
  | succ d ih =>
    intro j e gp qn v1 v2 h1
    refine r_iload d_Mm_spread_12 0 rfl ?_
    refine r_iload_n d_Mm_spread_14 rfl 1 rfl ?_
    refine r_icmp_ge (tgt := 103) d_Mm_spread_15 (by decide) (fun c_15 => ?_) (fun c_15 => ?_)
    · refine r_vret d_Mm_spread_103 rfl ?_
      exact ⟨_, _, rfl, rfl⟩
    · have he9 := qG_le v1
      have hn := z_nle (a := e) (by omega) (by omega) c_15
      have hq9 := v1.1 j hn
      refine r_iconst d_Mm_spread_18 (v := 0) (by decide) ?_
      refine r_istore (lv' := [(5, .int 0), (4, .int (nI j)), (3, .int (nI e)), (0, .ref m), (1, .ref b), (2, .int (nI c))]) d_Mm_spread_19 (by decide) rfl ?_
      refine L_Mm_spreadW_21 g m mp mf mh mn mt mz mc_ mq mgr ml mi mr mm mu mk mx th pt cl wa co_ fi bu ho lh mg wd fpi fal po de b f gp0 qn c hc hg w0 _ j (fun gp qn e k21_1 k21_2 => ?_) (4 + 1) 0 _ _ _ (Nat.zero_le _) (by omega) v1 hn
      refine r_iinc (lv' := [(4, .int (nI (j + 1))), (3, .int (nI e)), (0, .ref m), (1, .ref b), (2, .int (nI c))]) (v := nI (j + 1)) d_Mm_spread_97 (j := 0) rfl (nI_add _ _) (by decide) rfl ?_
      refine r_goto (tgt := 12) d_Mm_spread_100 (by decide) ?_
      exact ih (j + 1) _ _ _ k21_1 k21_2 (by omega)
set_option maxHeartbeats 4000000 in
set_option maxRecDepth 100000 in
theorem C_Mm_spreadW (g : zG) (m mp mf mh mn mt mz mc_ mq mgr ml mi mr mm mu mk mx : Nat) (th pt cl wa co_ fi bu ho lh mg wd fpi fal : Int32) (po de : Int64) (b : Nat) (f : Nat → Int32) (gp0 : Nat → Int32) (qn : Nat → Nat) (c : Nat) (hc : c < 108) (hg : ¬ gp0 c = -1) : CT g M_Mm_spread [.ref m, .ref b, .int (nI c)] [(m, .inr (12, [.int th, .ref mp, .int pt, .ref mf, .ref mh, .ref mn, .ref mt, .ref mz, .ref mc_, .ref mq, .ref mgr, .int cl, .int wa, .int co_, .int fi, .int bu, .int ho, .ref ml, .ref mi, .ref mr, .int lh, .int mg, .int wd, .int fpi, .int fal, .ref mm, .ref mu, .ref mk, .ref mx, .long po, .long de])), (b, .inl (1, 108, .inl f)), (mgr, .inl (0, 108, .inl gp0)), (mq, .inl (0, 108, .inl (fun k => nI (qn k))))] (fun o cs1 => ∃ (gp9 : Nat → Int32) (qn9 : Nat → Nat), o = .inl none ∧ cs1 = [(m, .inr (12, [.int th, .ref mp, .int pt, .ref mf, .ref mh, .ref mn, .ref mt, .ref mz, .ref mc_, .ref mq, .ref mgr, .int cl, .int wa, .int co_, .int fi, .int bu, .int ho, .ref ml, .ref mi, .ref mr, .int lh, .int mg, .int wd, .int fpi, .int fal, .ref mm, .ref mu, .ref mk, .ref mx, .long po, .long de])), (b, .inl (1, 108, .inl f)), (mgr, .inl (0, 108, .inl gp9)), (mq, .inl (0, 108, .inl (fun k => nI (qn9 k))))]) 0 0 := by
  refine z_of (by decide) rfl (Nat.le_of_ble_eq_true rfl) (fun w0 => ?_)
  refine r_lvE (lv2 := [(0, .ref m), (1, .ref b), (2, .int (nI c))]) rfl ?_
  refine r_aload_n d_Mm_spread_0 rfl 0 rfl ?_
  refine r_get fs_Mm_37 d_Mm_spread_1 (q0 := 0) rfl rfl ?_
  refine r_iconst d_Mm_spread_4 (v := 0) (by decide) ?_
  refine r_iload_n d_Mm_spread_5 rfl 2 rfl ?_
  refine r_iast d_Mm_spread_6 (q0 := 3) rfl (fun q => q.elim (by decide) (by decide)) (f' := fun k => nI (updN qn 0 c k)) upd_qn (cs' := [(m, .inr (12, [.int th, .ref mp, .int pt, .ref mf, .ref mh, .ref mn, .ref mt, .ref mz, .ref mc_, .ref mq, .ref mgr, .int cl, .int wa, .int co_, .int fi, .int bu, .int ho, .ref ml, .ref mi, .ref mr, .int lh, .int mg, .int wd, .int fpi, .int fal, .ref mm, .ref mu, .ref mk, .ref mx, .long po, .long de])), (b, .inl (1, 108, .inl f)), (mgr, .inl (0, 108, .inl gp0)), (mq, .inl (0, 108, .inl (fun k => nI (updN qn 0 c k))))]) rfl ?_
  refine r_iconst d_Mm_spread_7 (v := 1) (by decide) ?_
  refine r_istore_n (lv' := [(3, .int 1), (0, .ref m), (1, .ref b), (2, .int (nI c))]) d_Mm_spread_8 rfl (by decide) rfl ?_
  refine r_iconst d_Mm_spread_9 (v := 0) (by decide) ?_
  refine r_istore (lv' := [(4, .int 0), (3, .int 1), (0, .ref m), (1, .ref b), (2, .int (nI c))]) d_Mm_spread_10 (by decide) rfl ?_
  exact L_Mm_spreadW_12 g m mp mf mh mn mt mz mc_ mq mgr ml mi mr mm mu mk mx th pt cl wa co_ fi bu ho lh mg wd fpi fal po de b f gp0 qn c hc hg w0 _ 109 0 1 _ _ (qG_1 hc hg) (by omega) (by omega)
theorem d_Mm_groupIn_39 : decode prog_14_method_13_code 39 = .ok (.aload_n 0, 1) := zo_42 (zd_b zq_prog_14_method_13_code_1 7 rfl rfl rfl)
theorem d_Mm_groupIn_40 : decode prog_14_method_13_code 40 = .ok (.getfield 40, 3) := zo_180 (d := 0) (e := 40) (zd_b zq_prog_14_method_13_code_1 8 rfl rfl rfl) (zd_b zq_prog_14_method_13_code_1 9 rfl rfl rfl) (zd_b zq_prog_14_method_13_code_1 10 rfl rfl rfl)
theorem d_Mm_groupIn_43 : decode prog_14_method_13_code 43 = .ok (.iload_n 3, 1) := zo_29 (zd_b zq_prog_14_method_13_code_1 11 rfl rfl rfl)
theorem d_Mm_groupIn_44 : decode prog_14_method_13_code 44 = .ok (.iaload, 1) := zo_46 (zd_b zq_prog_14_method_13_code_1 12 rfl rfl rfl)
theorem d_Mm_groupIn_45 : decode prog_14_method_13_code 45 = .ok (.iconst (-1), 1) := zo_2 (zd_b zq_prog_14_method_13_code_1 13 rfl rfl rfl)
theorem d_Mm_groupIn_46 : decode prog_14_method_13_code 46 = .ok (.if_icmp .ne 19, 3) := zo_160 (d := 0) (e := 19) (zd_b zq_prog_14_method_13_code_1 14 rfl rfl rfl) (zd_b zq_prog_14_method_13_code_1 15 rfl rfl rfl) (zd_b zq_prog_14_method_13_code_1 16 rfl rfl rfl) (by decide +kernel)
theorem d_Mm_groupIn_49 : decode prog_14_method_13_code 49 = .ok (.aload_n 0, 1) := zo_42 (zd_b zq_prog_14_method_13_code_1 17 rfl rfl rfl)
theorem d_Mm_groupIn_50 : decode prog_14_method_13_code 50 = .ok (.getfield 40, 3) := zo_180 (d := 0) (e := 40) (zd_b zq_prog_14_method_13_code_1 18 rfl rfl rfl) (zd_b zq_prog_14_method_13_code_1 19 rfl rfl rfl) (zd_b zq_prog_14_method_13_code_1 20 rfl rfl rfl)
theorem d_Mm_groupIn_53 : decode prog_14_method_13_code 53 = .ok (.iload_n 3, 1) := zo_29 (zd_b zq_prog_14_method_13_code_1 21 rfl rfl rfl)
theorem d_Mm_groupIn_54 : decode prog_14_method_13_code 54 = .ok (.iload_n 2, 1) := zo_28 (zd_b zq_prog_14_method_13_code_1 22 rfl rfl rfl)
theorem d_Mm_groupIn_55 : decode prog_14_method_13_code 55 = .ok (.iastore, 1) := zo_79 (zd_b zq_prog_14_method_13_code_1 23 rfl rfl rfl)
theorem d_Mm_groupIn_56 : decode prog_14_method_13_code 56 = .ok (.aload_n 0, 1) := zo_42 (zd_b zq_prog_14_method_13_code_1 24 rfl rfl rfl)
theorem d_Mm_groupIn_57 : decode prog_14_method_13_code 57 = .ok (.aload_n 1, 1) := zo_43 (zd_b zq_prog_14_method_13_code_1 25 rfl rfl rfl)
theorem d_Mm_groupIn_58 : decode prog_14_method_13_code 58 = .ok (.iload_n 3, 1) := zo_29 (zd_b zq_prog_14_method_13_code_1 26 rfl rfl rfl)
theorem d_Mm_groupIn_59 : decode prog_14_method_13_code 59 = .ok (.invokevirtual 115, 3) := zo_182 (d := 0) (e := 115) (zd_b zq_prog_14_method_13_code_1 27 rfl rfl rfl) (zd_b zq_prog_14_method_13_code_1 28 rfl rfl rfl) (zd_b zq_prog_14_method_13_code_1 29 rfl rfl rfl)
theorem ok_Mm_groupIn_Mm_spread : z_ok M_Mm_groupIn M_Mm_spread 2 := ⟨z_mj7 (i := 226) rfl (by decide +kernel), rfl, ⟨by decide +kernel, by decide +kernel, by decide +kernel⟩, ⟨by decide, by decide⟩, z_mj1 (i := 14) rfl (by decide +kernel), rfl⟩
theorem ln_Mm_115 : Cond.methodLink "IronpourModel" 115 M_Mm_spread.1 ∈ z_gw := z_mj7 (i := 223) rfl (by decide +kernel)
theorem w_im_Mm_spread : Cond.instanceMethod M_Mm_spread.1 ∈ z_gw := z_mj7 (i := 225) rfl (by decide +kernel)
theorem w_se_Mm_spread : Cond.selects M_Mm_spread.1.cls M_Mm_spread.1 M_Mm_spread.1 ∈ z_gw := z_mem (i := 31) (by decide +kernel) (by decide +kernel)
theorem d_Mm_groupIn_62 : decode prog_14_method_13_code 62 = .ok (.iinc 2 1, 3) := by decide +kernel
set_option maxHeartbeats 4000000 in
set_option maxRecDepth 100000 in
theorem L_Mm_groupInW_25 (g : zG) (m mp mf mh mn mt mz mc_ mq mgr ml mi mr mm mu mk mx : Nat) (th pt cl wa co_ fi bu ho lh mg wd fpi fal : Int32) (po de : Int64) (b : Nat) (f : Nat → Int32) (gp : Nat → Int32) (qn : Nat → Nat) (w0 : zW) (n : Nat) : ∀ (d i : Nat) (gp : Nat → Int32) (qn : Nat → Nat) (nn : Nat), i ≤ 108 → 108 < i + d → nn ≤ i → DV g M_Mm_groupIn (fun o cs1 => ∃ (nn9 : Nat) (gp9 : Nat → Int32) (qn9 : Nat → Nat), nn9 ≤ 108 ∧ o = .inl (some (.int (nI nn9))) ∧ cs1 = [(m, .inr (12, [.int th, .ref mp, .int pt, .ref mf, .ref mh, .ref mn, .ref mt, .ref mz, .ref mc_, .ref mq, .ref mgr, .int cl, .int wa, .int co_, .int fi, .int bu, .int ho, .ref ml, .ref mi, .ref mr, .int lh, .int mg, .int wd, .int fpi, .int fal, .ref mm, .ref mu, .ref mk, .ref mx, .long po, .long de])), (b, .inl (1, 108, .inl f)), (mgr, .inl (0, 108, .inl gp9)), (mq, .inl (0, 108, .inl (fun k => nI (qn9 k))))]) w0 n 25 [(3, .int (nI i)), (2, .int (nI nn)), (0, .ref m), (1, .ref b)] [] [(m, .inr (12, [.int th, .ref mp, .int pt, .ref mf, .ref mh, .ref mn, .ref mt, .ref mz, .ref mc_, .ref mq, .ref mgr, .int cl, .int wa, .int co_, .int fi, .int bu, .int ho, .ref ml, .ref mi, .ref mr, .int lh, .int mg, .int wd, .int fpi, .int fal, .ref mm, .ref mu, .ref mk, .ref mx, .long po, .long de])), (b, .inl (1, 108, .inl f)), (mgr, .inl (0, 108, .inl gp)), (mq, .inl (0, 108, .inl (fun k => nI (qn k))))] 0 0 := by
  intro d
  induction d with
  | zero => intro i gp qn nn h1 h2 v1; exact absurd h2 (by omega)
  | succ d ih =>
    intro i gp qn nn h1 h2 v1
    refine r_iload_n d_Mm_groupIn_25 rfl 0 rfl ?_
    refine r_bipush d_Mm_groupIn_26 (v := 108) (by decide) ?_
    refine r_icmp_ge (tgt := 71) d_Mm_groupIn_28 (by decide) (fun c_28 => ?_) (fun c_28 => ?_)
    · have hn := z_le (a := 108) (by omega) (by decide) c_28
      refine r_iload_n d_Mm_groupIn_71 rfl 1 rfl ?_
      refine r_iret d_Mm_groupIn_72 rfl rfl ?_
      exact ⟨nn, _, _, by omega, rfl, rfl⟩
    · have hn := z_nle (a := 108) (by omega) (by decide) c_28
      refine r_aload_n d_Mm_groupIn_31 rfl 3 rfl ?_
      refine r_iload_n d_Mm_groupIn_32 rfl 0 rfl ?_
      refine r_cald d_Mm_groupIn_33 (q0 := 1) rfl (vp_in_nI (by omega) (by omega)) (v := f i) (by rw [nI_clamp (by omega)]) ?_
      refine r_bipush d_Mm_groupIn_34 (v := 111) (by decide) ?_
      refine r_icmp_ne (tgt := 65) d_Mm_groupIn_36 (by decide) (fun c_36 => ?_) (fun c_36 => ?_)
      · refine r_iinc (lv' := [(3, .int (nI (i + 1))), (2, .int (nI nn)), (0, .ref m), (1, .ref b)]) (v := nI (i + 1)) d_Mm_groupIn_65 (j := 0) rfl (nI_add _ _) (by decide) rfl ?_
        refine r_goto (tgt := 25) d_Mm_groupIn_68 (by decide) ?_
        exact ih (i + 1) _ _ _ (by omega) (by omega) (by omega)
      · refine r_aload_n d_Mm_groupIn_39 rfl 2 rfl ?_
        refine r_get fs_Mm_40 d_Mm_groupIn_40 (q0 := 0) rfl rfl ?_
        refine r_iload_n d_Mm_groupIn_43 rfl 0 rfl ?_
        refine r_iald d_Mm_groupIn_44 (q0 := 2) rfl (vp_in_nI (by omega) (by omega)) (v := gp i) (by rw [nI_clamp (by omega)]) ?_
        refine r_iconst d_Mm_groupIn_45 (v := (-1)) (by decide) ?_
        refine r_icmp_ne (tgt := 65) d_Mm_groupIn_46 (by decide) (fun c_46 => ?_) (fun c_46 => ?_)
        · refine r_iinc (lv' := [(3, .int (nI (i + 1))), (2, .int (nI nn)), (0, .ref m), (1, .ref b)]) (v := nI (i + 1)) d_Mm_groupIn_65 (j := 0) rfl (nI_add _ _) (by decide) rfl ?_
          refine r_goto (tgt := 25) d_Mm_groupIn_68 (by decide) ?_
          exact ih (i + 1) _ _ _ (by omega) (by omega) (by omega)
        · refine r_aload_n d_Mm_groupIn_49 rfl 2 rfl ?_
          refine r_get fs_Mm_40 d_Mm_groupIn_50 (q0 := 0) rfl rfl ?_
          refine r_iload_n d_Mm_groupIn_53 rfl 0 rfl ?_
          refine r_iload_n d_Mm_groupIn_54 rfl 1 rfl ?_
          refine r_iast d_Mm_groupIn_55 (q0 := 2) rfl (vp_in_nI (by omega) (by omega)) (f' := upd gp i (nI nn)) (by rw [nI_clamp (by omega)]) (cs' := [(m, .inr (12, [.int th, .ref mp, .int pt, .ref mf, .ref mh, .ref mn, .ref mt, .ref mz, .ref mc_, .ref mq, .ref mgr, .int cl, .int wa, .int co_, .int fi, .int bu, .int ho, .ref ml, .ref mi, .ref mr, .int lh, .int mg, .int wd, .int fpi, .int fal, .ref mm, .ref mu, .ref mk, .ref mx, .long po, .long de])), (b, .inl (1, 108, .inl f)), (mgr, .inl (0, 108, .inl (upd gp i (nI nn)))), (mq, .inl (0, 108, .inl (fun k => nI (qn k))))]) rfl ?_
          refine r_aload_n d_Mm_groupIn_56 rfl 2 rfl ?_
          refine r_aload_n d_Mm_groupIn_57 rfl 3 rfl ?_
          refine r_iload_n d_Mm_groupIn_58 rfl 0 rfl ?_
          refine r_callV (As := [.ref b, .int (nI i)]) (rest := []) (csC := [(m, .inr (12, [.int th, .ref mp, .int pt, .ref mf, .ref mh, .ref mn, .ref mt, .ref mz, .ref mc_, .ref mq, .ref mgr, .int cl, .int wa, .int co_, .int fi, .int bu, .int ho, .ref ml, .ref mi, .ref mr, .int lh, .int mg, .int wd, .int fpi, .int fal, .ref mm, .ref mu, .ref mk, .ref mx, .long po, .long de])), (b, .inl (1, 108, .inl f)), (mgr, .inl (0, 108, .inl (upd gp i (nI nn)))), (mq, .inl (0, 108, .inl (fun k => nI (qn k))))]) (is := [0, 1, 2, 3]) (q0 := 0) rfl rfl ln_Mm_115 w_im_Mm_spread w_se_Mm_spread ok_Mm_groupIn_Mm_spread d_Mm_groupIn_59 (C_Mm_spreadW g m mp mf mh mn mt mz mc_ mq mgr ml mi mr mm mu mk mx th pt cl wa co_ fi bu ho lh mg wd fpi fal po de b f (upd gp i (nI nn)) qn i (by omega) (by rw [show upd gp i (nI nn) i = nI nn from if_pos rfl]; exact nI_nm1 (by omega))) rfl rfl (Nat.le_of_ble_eq_true rfl) rfl (by decide) (by omega) (by omega) (fun E cs1 hx => ?_) (fun v cs1 hx => ?_)
          · obtain ⟨gp9, qn9, e1, -⟩ := hx
            cases e1
          · obtain ⟨gp9, qn9, e1, rfl⟩ := hx
            cases e1
            refine ⟨rfl, ?_⟩
            refine r_st (st2 := []) rfl ?_
            refine r_cs (cs2 := [(m, .inr (12, [.int th, .ref mp, .int pt, .ref mf, .ref mh, .ref mn, .ref mt, .ref mz, .ref mc_, .ref mq, .ref mgr, .int cl, .int wa, .int co_, .int fi, .int bu, .int ho, .ref ml, .ref mi, .ref mr, .int lh, .int mg, .int wd, .int fpi, .int fal, .ref mm, .ref mu, .ref mk, .ref mx, .long po, .long de])), (b, .inl (1, 108, .inl f)), (mgr, .inl (0, 108, .inl gp9)), (mq, .inl (0, 108, .inl (fun k => nI (qn9 k))))]) rfl ?_
            refine r_iinc (lv' := [(2, .int (nI (nn + 1))), (3, .int (nI i)), (0, .ref m), (1, .ref b)]) (v := nI (nn + 1)) d_Mm_groupIn_62 (j := 1) rfl (nI_add _ _) (by decide) rfl ?_
            refine r_iinc (lv' := [(3, .int (nI (i + 1))), (2, .int (nI (nn + 1))), (0, .ref m), (1, .ref b)]) (v := nI (i + 1)) d_Mm_groupIn_65 (j := 1) rfl (nI_add _ _) (by decide) rfl ?_
            refine r_goto (tgt := 25) d_Mm_groupIn_68 (by decide) ?_
            exact ih (i + 1) _ _ _ (by omega) (by omega) (by omega)
set_option maxHeartbeats 4000000 in
set_option maxRecDepth 100000 in
theorem L_Mm_groupInW_4 (g : zG) (m mp mf mh mn mt mz mc_ mq mgr ml mi mr mm mu mk mx : Nat) (th pt cl wa co_ fi bu ho lh mg wd fpi fal : Int32) (po de : Int64) (b : Nat) (f : Nat → Int32) (gp : Nat → Int32) (qn : Nat → Nat) (w0 : zW) (n : Nat) : ∀ (d i : Nat) (gp : Nat → Int32), i ≤ 108 → 108 < i + d → DV g M_Mm_groupIn (fun o cs1 => ∃ (nn9 : Nat) (gp9 : Nat → Int32) (qn9 : Nat → Nat), nn9 ≤ 108 ∧ o = .inl (some (.int (nI nn9))) ∧ cs1 = [(m, .inr (12, [.int th, .ref mp, .int pt, .ref mf, .ref mh, .ref mn, .ref mt, .ref mz, .ref mc_, .ref mq, .ref mgr, .int cl, .int wa, .int co_, .int fi, .int bu, .int ho, .ref ml, .ref mi, .ref mr, .int lh, .int mg, .int wd, .int fpi, .int fal, .ref mm, .ref mu, .ref mk, .ref mx, .long po, .long de])), (b, .inl (1, 108, .inl f)), (mgr, .inl (0, 108, .inl gp9)), (mq, .inl (0, 108, .inl (fun k => nI (qn9 k))))]) w0 n 4 [(3, .int (nI i)), (2, .int 0), (0, .ref m), (1, .ref b)] [] [(m, .inr (12, [.int th, .ref mp, .int pt, .ref mf, .ref mh, .ref mn, .ref mt, .ref mz, .ref mc_, .ref mq, .ref mgr, .int cl, .int wa, .int co_, .int fi, .int bu, .int ho, .ref ml, .ref mi, .ref mr, .int lh, .int mg, .int wd, .int fpi, .int fal, .ref mm, .ref mu, .ref mk, .ref mx, .long po, .long de])), (b, .inl (1, 108, .inl f)), (mgr, .inl (0, 108, .inl gp)), (mq, .inl (0, 108, .inl (fun k => nI (qn k))))] 0 0 := by
  intro d
  induction d with
  | zero => intro i gp h1 h2 ; exact absurd h2 (by omega)
  | succ d ih =>
    intro i gp h1 h2 
    refine r_iload_n d_Mm_groupIn_4 rfl 0 rfl ?_
    refine r_bipush d_Mm_groupIn_5 (v := 108) (by decide) ?_
    refine r_icmp_ge (tgt := 23) d_Mm_groupIn_7 (by decide) (fun c_7 => ?_) (fun c_7 => ?_)
    · have hn := z_le (a := 108) (by omega) (by decide) c_7
      obtain rfl : i = 108 := by omega
      refine r_iconst d_Mm_groupIn_23 (v := 0) (by decide) ?_
      refine r_istore_n (lv' := [(3, .int 0), (2, .int 0), (0, .ref m), (1, .ref b)]) d_Mm_groupIn_24 rfl (by decide) rfl ?_
      exact L_Mm_groupInW_25 g m mp mf mh mn mt mz mc_ mq mgr ml mi mr mm mu mk mx th pt cl wa co_ fi bu ho lh mg wd fpi fal po de b f gp qn w0 _  (108 + 1) 0 _ _ 0 (Nat.zero_le _) (by omega) (Nat.zero_le _)
    · have hn := z_nle (a := 108) (by omega) (by decide) c_7
      refine r_aload_n d_Mm_groupIn_10 rfl 2 rfl ?_
      refine r_get fs_Mm_40 d_Mm_groupIn_11 (q0 := 0) rfl rfl ?_
      refine r_iload_n d_Mm_groupIn_14 rfl 0 rfl ?_
      refine r_iconst d_Mm_groupIn_15 (v := (-1)) (by decide) ?_
      refine r_iast d_Mm_groupIn_16 (q0 := 2) rfl (vp_in_nI (by omega) (by omega)) (f' := upd gp i (-1)) (by rw [nI_clamp (by omega)]) (cs' := [(m, .inr (12, [.int th, .ref mp, .int pt, .ref mf, .ref mh, .ref mn, .ref mt, .ref mz, .ref mc_, .ref mq, .ref mgr, .int cl, .int wa, .int co_, .int fi, .int bu, .int ho, .ref ml, .ref mi, .ref mr, .int lh, .int mg, .int wd, .int fpi, .int fal, .ref mm, .ref mu, .ref mk, .ref mx, .long po, .long de])), (b, .inl (1, 108, .inl f)), (mgr, .inl (0, 108, .inl (upd gp i (-1)))), (mq, .inl (0, 108, .inl (fun k => nI (qn k))))]) rfl ?_
      refine r_iinc (lv' := [(3, .int (nI (i + 1))), (2, .int 0), (0, .ref m), (1, .ref b)]) (v := nI (i + 1)) d_Mm_groupIn_17 (j := 0) rfl (nI_add _ _) (by decide) rfl ?_
      refine r_goto (tgt := 4) d_Mm_groupIn_20 (by decide) ?_
      exact ih (i + 1) _ (by omega) (by omega)
set_option maxHeartbeats 4000000 in
set_option maxRecDepth 100000 in
theorem C_Mm_groupInW (g : zG) (m mp mf mh mn mt mz mc_ mq mgr ml mi mr mm mu mk mx : Nat) (th pt cl wa co_ fi bu ho lh mg wd fpi fal : Int32) (po de : Int64) (b : Nat) (f : Nat → Int32) (gp : Nat → Int32) (qn : Nat → Nat) : CT g M_Mm_groupIn [.ref m, .ref b] [(m, .inr (12, [.int th, .ref mp, .int pt, .ref mf, .ref mh, .ref mn, .ref mt, .ref mz, .ref mc_, .ref mq, .ref mgr, .int cl, .int wa, .int co_, .int fi, .int bu, .int ho, .ref ml, .ref mi, .ref mr, .int lh, .int mg, .int wd, .int fpi, .int fal, .ref mm, .ref mu, .ref mk, .ref mx, .long po, .long de])), (b, .inl (1, 108, .inl f)), (mgr, .inl (0, 108, .inl gp)), (mq, .inl (0, 108, .inl (fun k => nI (qn k))))] (fun o cs1 => ∃ (nn9 : Nat) (gp9 : Nat → Int32) (qn9 : Nat → Nat), nn9 ≤ 108 ∧ o = .inl (some (.int (nI nn9))) ∧ cs1 = [(m, .inr (12, [.int th, .ref mp, .int pt, .ref mf, .ref mh, .ref mn, .ref mt, .ref mz, .ref mc_, .ref mq, .ref mgr, .int cl, .int wa, .int co_, .int fi, .int bu, .int ho, .ref ml, .ref mi, .ref mr, .int lh, .int mg, .int wd, .int fpi, .int fal, .ref mm, .ref mu, .ref mk, .ref mx, .long po, .long de])), (b, .inl (1, 108, .inl f)), (mgr, .inl (0, 108, .inl gp9)), (mq, .inl (0, 108, .inl (fun k => nI (qn9 k))))]) 0 0 := by
  refine z_of (by decide) rfl (Nat.le_of_ble_eq_true rfl) (fun w0 => ?_)
  refine r_lvE (lv2 := [(0, .ref m), (1, .ref b)]) rfl ?_
  refine r_iconst d_Mm_groupIn_0 (v := 0) (by decide) ?_
  refine r_istore_n (lv' := [(2, .int 0), (0, .ref m), (1, .ref b)]) d_Mm_groupIn_1 rfl (by decide) rfl ?_
  refine r_iconst d_Mm_groupIn_2 (v := 0) (by decide) ?_
  refine r_istore_n (lv' := [(3, .int 0), (2, .int 0), (0, .ref m), (1, .ref b)]) d_Mm_groupIn_3 rfl (by decide) rfl ?_
  exact L_Mm_groupInW_4 g m mp mf mh mn mt mz mc_ mq mgr ml mi mr mm mu mk mx th pt cl wa co_ fi bu ho lh mg wd fpi fal po de b f gp qn w0 _  (108 + 1) 0 _ (Nat.zero_le _) (by omega)
abbrev M_Mm_isBesideSand : zM := (⟨"IronpourModel", "isBesideSand", "([CI)Z"⟩, prog_14_method_16_code, 5, (Option.some FieldType.boolean), 4, 86, [])
theorem d_Mm_isBesideSand_4 : decode prog_14_method_16_code 4 = .ok (.iload_n 3, 1) := zo_29 (zd_b zq_prog_14_method_16_code_0 4 rfl rfl rfl)
theorem d_Mm_isBesideSand_5 : decode prog_14_method_16_code 5 = .ok (.iconst 4, 1) := zo_7 (zd_b zq_prog_14_method_16_code_0 5 rfl rfl rfl)
theorem d_Mm_isBesideSand_6 : decode prog_14_method_16_code 6 = .ok (.if_icmp .ge 41, 3) := zo_162 (d := 0) (e := 41) (zd_b zq_prog_14_method_16_code_0 6 rfl rfl rfl) (zd_b zq_prog_14_method_16_code_0 7 rfl rfl rfl) (zd_b zq_prog_14_method_16_code_0 8 rfl rfl rfl) (by decide +kernel)
theorem d_Mm_isBesideSand_47 : decode prog_14_method_16_code 47 = .ok (.iload_n 2, 1) := zo_28 (zd_b zq_prog_14_method_16_code_1 15 rfl rfl rfl)
theorem d_Mm_isBesideSand_48 : decode prog_14_method_16_code 48 = .ok (.ireturn, 1) := zo_172 (zd_b zq_prog_14_method_16_code_1 16 rfl rfl rfl)
theorem d_Mm_isBesideSand_9 : decode prog_14_method_16_code 9 = .ok (.iload_n 1, 1) := zo_27 (zd_b zq_prog_14_method_16_code_0 9 rfl rfl rfl)
theorem d_Mm_isBesideSand_10 : decode prog_14_method_16_code 10 = .ok (.iload_n 3, 1) := zo_29 (zd_b zq_prog_14_method_16_code_0 10 rfl rfl rfl)
theorem d_Mm_isBesideSand_11 : decode prog_14_method_16_code 11 = .ok (.invokestatic 119, 3) := zo_184 (d := 0) (e := 119) (zd_b zq_prog_14_method_16_code_0 11 rfl rfl rfl) (zd_b zq_prog_14_method_16_code_0 12 rfl rfl rfl) (zd_b zq_prog_14_method_16_code_0 13 rfl rfl rfl)
theorem ok_Mm_isBesideSand_Mm_beside : z_ok M_Mm_isBesideSand M_Mm_beside 2 := ⟨z_mj7 (i := 229) rfl (by decide +kernel), rfl, ⟨by decide +kernel, by decide +kernel, by decide +kernel⟩, ⟨by decide, by decide⟩, z_mj1 (i := 14) rfl (by decide +kernel), rfl⟩
theorem d_Mm_isBesideSand_14 : decode prog_14_method_16_code 14 = .ok (.istore 4, 2) := zo_54 (d := 4) (zd_b zq_prog_14_method_16_code_0 14 rfl rfl rfl) (zd_b zq_prog_14_method_16_code_0 15 rfl rfl rfl)
theorem d_Mm_isBesideSand_16 : decode prog_14_method_16_code 16 = .ok (.iload_n 2, 1) := zo_28 (zd_b zq_prog_14_method_16_code_0 16 rfl rfl rfl)
theorem d_Mm_isBesideSand_17 : decode prog_14_method_16_code 17 = .ok (.ifCond .ne 18, 3) := zo_154 (d := 0) (e := 18) (zd_b zq_prog_14_method_16_code_0 17 rfl rfl rfl) (zd_b zq_prog_14_method_16_code_0 18 rfl rfl rfl) (zd_b zq_prog_14_method_16_code_0 19 rfl rfl rfl) (by decide +kernel)
theorem d_Mm_isBesideSand_35 : decode prog_14_method_16_code 35 = .ok (.iconst 1, 1) := zo_4 (zd_b zq_prog_14_method_16_code_1 3 rfl rfl rfl)
theorem d_Mm_isBesideSand_36 : decode prog_14_method_16_code 36 = .ok (.goto 4, 3) := zo_167 (d := 0) (e := 4) (zd_b zq_prog_14_method_16_code_1 4 rfl rfl rfl) (zd_b zq_prog_14_method_16_code_1 5 rfl rfl rfl) (zd_b zq_prog_14_method_16_code_1 6 rfl rfl rfl) (by decide +kernel)
theorem d_Mm_isBesideSand_40 : decode prog_14_method_16_code 40 = .ok (.istore_n 2, 1) := zo_61 (zd_b zq_prog_14_method_16_code_1 8 rfl rfl rfl)
theorem d_Mm_isBesideSand_41 : decode prog_14_method_16_code 41 = .ok (.iinc 3 1, 3) := by decide +kernel
theorem d_Mm_isBesideSand_44 : decode prog_14_method_16_code 44 = .ok (.goto (-40), 3) := zo_167 (d := 255) (e := 216) (zd_b zq_prog_14_method_16_code_1 12 rfl rfl rfl) (zd_b zq_prog_14_method_16_code_1 13 rfl rfl rfl) (zd_b zq_prog_14_method_16_code_1 14 rfl rfl rfl) (by decide +kernel)
theorem d_Mm_isBesideSand_20 : decode prog_14_method_16_code 20 = .ok (.iload 4, 2) := zo_21 (d := 4) (zd_b zq_prog_14_method_16_code_0 20 rfl rfl rfl) (zd_b zq_prog_14_method_16_code_0 21 rfl rfl rfl)
theorem d_Mm_isBesideSand_22 : decode prog_14_method_16_code 22 = .ok (.iconst (-1), 1) := zo_2 (zd_b zq_prog_14_method_16_code_0 22 rfl rfl rfl)
theorem d_Mm_isBesideSand_23 : decode prog_14_method_16_code 23 = .ok (.if_icmp .eq 12, 3) := zo_159 (d := 0) (e := 12) (zd_b zq_prog_14_method_16_code_0 23 rfl rfl rfl) (zd_b zq_prog_14_method_16_code_0 24 rfl rfl rfl) (zd_b zq_prog_14_method_16_code_0 25 rfl rfl rfl) (by decide +kernel)
theorem d_Mm_isBesideSand_26 : decode prog_14_method_16_code 26 = .ok (.aload_n 0, 1) := zo_42 (zd_b zq_prog_14_method_16_code_0 26 rfl rfl rfl)
theorem d_Mm_isBesideSand_27 : decode prog_14_method_16_code 27 = .ok (.iload 4, 2) := zo_21 (d := 4) (zd_b zq_prog_14_method_16_code_0 27 rfl rfl rfl) (zd_b zq_prog_14_method_16_code_0 28 rfl rfl rfl)
theorem d_Mm_isBesideSand_29 : decode prog_14_method_16_code 29 = .ok (.caload, 1) := zo_52 (zd_b zq_prog_14_method_16_code_0 29 rfl rfl rfl)
theorem d_Mm_isBesideSand_30 : decode prog_14_method_16_code 30 = .ok (.bipush 46, 2) := zo_16 (d := 46) (zd_b zq_prog_14_method_16_code_0 30 rfl rfl rfl) (zd_b zq_prog_14_method_16_code_0 31 rfl rfl rfl) (by decide +kernel)
theorem d_Mm_isBesideSand_32 : decode prog_14_method_16_code 32 = .ok (.if_icmp .ne 7, 3) := zo_160 (d := 0) (e := 7) (zd_b zq_prog_14_method_16_code_1 0 rfl rfl rfl) (zd_b zq_prog_14_method_16_code_1 1 rfl rfl rfl) (zd_b zq_prog_14_method_16_code_1 2 rfl rfl rfl) (by decide +kernel)
theorem d_Mm_isBesideSand_39 : decode prog_14_method_16_code 39 = .ok (.iconst 0, 1) := zo_3 (zd_b zq_prog_14_method_16_code_1 7 rfl rfl rfl)
theorem d_Mm_isBesideSand_0 : decode prog_14_method_16_code 0 = .ok (.iconst 0, 1) := zo_3 (zd_b zq_prog_14_method_16_code_0 0 rfl rfl rfl)
theorem d_Mm_isBesideSand_1 : decode prog_14_method_16_code 1 = .ok (.istore_n 2, 1) := zo_61 (zd_b zq_prog_14_method_16_code_0 1 rfl rfl rfl)
theorem d_Mm_isBesideSand_2 : decode prog_14_method_16_code 2 = .ok (.iconst 0, 1) := zo_3 (zd_b zq_prog_14_method_16_code_0 2 rfl rfl rfl)
theorem d_Mm_isBesideSand_3 : decode prog_14_method_16_code 3 = .ok (.istore_n 3, 1) := zo_62 (zd_b zq_prog_14_method_16_code_0 3 rfl rfl rfl)
set_option maxHeartbeats 4000000 in
set_option maxRecDepth 100000 in
theorem L_Mm_isBesideSandW_4 (g : zG) (b : Nat) (f : Nat → Int32) (c : Nat) (hc : c < 108) (w0 : zW) (n : Nat) : ∀ (d i : Nat) (lf : Int32), i ≤ 4 → 4 < i + d → (lf = 0 ∨ lf = 1) → DV g M_Mm_isBesideSand (fun o cs1 => ∃ (v9 : Int32), (v9 = 0 ∨ v9 = 1) ∧ o = .inl (some (.int v9)) ∧ cs1 = [(b, .inl (1, 108, .inl f))]) w0 n 4 [(3, .int (nI i)), (2, .int lf), (0, .ref b), (1, .int (nI c))] [] [(b, .inl (1, 108, .inl f))] 0 0 := by
  intro d
  induction d with
  | zero => intro i lf h1 h2 v1; exact absurd h2 (by omega)
  | succ d ih =>
    intro i lf h1 h2 v1
    refine r_iload_n d_Mm_isBesideSand_4 rfl 0 rfl ?_
    refine r_iconst d_Mm_isBesideSand_5 (v := 4) (by decide) ?_
    refine r_icmp_ge (tgt := 47) d_Mm_isBesideSand_6 (by decide) (fun c_6 => ?_) (fun c_6 => ?_)
    · have hn := z_le (a := 4) (by omega) (by decide) c_6
      obtain rfl : i = 4 := by omega
      refine r_iload_n d_Mm_isBesideSand_47 rfl 1 rfl ?_
      refine r_iret d_Mm_isBesideSand_48 rfl (z_nar01 v1) ?_
      exact ⟨_, v1, rfl, rfl⟩
    · have hn := z_nle (a := 4) (by omega) (by decide) c_6
      refine r_iload_n d_Mm_isBesideSand_9 rfl 3 rfl ?_
      refine r_iload_n d_Mm_isBesideSand_10 rfl 0 rfl ?_
      refine r_callS (As := [.int (nI c), .int (nI i)]) (rest := []) (csC := []) (is := []) ln_Mm_119 w_st_Mm_beside ok_Mm_isBesideSand_Mm_beside d_Mm_isBesideSand_11 (C_Mm_beside g c i (by omega) (by omega)) rfl rfl (Nat.le_of_ble_eq_true rfl) rfl (by decide) (by omega) (by omega) (fun E cs1 hx => ?_) (fun v cs1 hx => ?_)
      · exact absurd hx.1 (by simp)
      · obtain ⟨e1, rfl⟩ := hx
        cases e1
        refine ⟨rfl, ?_⟩
        refine r_st (st2 := [.int (oI (bs c i))]) rfl ?_
        refine r_cs (cs2 := [(b, .inl (1, 108, .inl f))]) rfl ?_
        refine r_istore (lv' := [(4, .int (oI (bs c i))), (3, .int (nI i)), (2, .int lf), (0, .ref b), (1, .int (nI c))]) d_Mm_isBesideSand_14 (by decide) rfl ?_
        refine r_iload_n d_Mm_isBesideSand_16 rfl 2 rfl ?_
        refine r_if_ne (tgt := 35) d_Mm_isBesideSand_17 (by decide) (fun c_17 => ?_) (fun c_17 => ?_)
        · refine r_iconst d_Mm_isBesideSand_35 (v := 1) (by decide) ?_
          refine r_goto (tgt := 40) d_Mm_isBesideSand_36 (by decide) ?_
          refine r_istore_n (lv' := [(2, .int 1), (4, .int (oI (bs c i))), (3, .int (nI i)), (0, .ref b), (1, .int (nI c))]) d_Mm_isBesideSand_40 rfl (by decide) rfl ?_
          refine r_iinc (lv' := [(3, .int (nI (i + 1))), (2, .int 1), (4, .int (oI (bs c i))), (0, .ref b), (1, .int (nI c))]) (v := nI (i + 1)) d_Mm_isBesideSand_41 (j := 2) rfl (nI_add _ _) (by decide) rfl ?_
          refine r_goto (tgt := 4) d_Mm_isBesideSand_44 (by decide) ?_
          refine r_lv (lv' := [(3, .int (nI (i + 1))), (2, .int 1), (0, .ref b), (1, .int (nI c))]) [0, 1, 3, 4] rfl ?_
          exact ih (i + 1) _ (by omega) (by omega) (Or.inr rfl)
        · refine r_iload d_Mm_isBesideSand_20 0 rfl ?_
          refine r_iconst d_Mm_isBesideSand_22 (v := (-1)) (by decide) ?_
          refine r_icmp_eq (tgt := 35) d_Mm_isBesideSand_23 (by decide) (fun c_23 => ?_) (fun c_23 => ?_)
          · refine r_iconst d_Mm_isBesideSand_35 (v := 1) (by decide) ?_
            refine r_goto (tgt := 40) d_Mm_isBesideSand_36 (by decide) ?_
            refine r_istore_n (lv' := [(2, .int 1), (4, .int (oI (bs c i))), (3, .int (nI i)), (0, .ref b), (1, .int (nI c))]) d_Mm_isBesideSand_40 rfl (by decide) rfl ?_
            refine r_iinc (lv' := [(3, .int (nI (i + 1))), (2, .int 1), (4, .int (oI (bs c i))), (0, .ref b), (1, .int (nI c))]) (v := nI (i + 1)) d_Mm_isBesideSand_41 (j := 2) rfl (nI_add _ _) (by decide) rfl ?_
            refine r_goto (tgt := 4) d_Mm_isBesideSand_44 (by decide) ?_
            refine r_lv (lv' := [(3, .int (nI (i + 1))), (2, .int 1), (0, .ref b), (1, .int (nI c))]) [0, 1, 3, 4] rfl ?_
            exact ih (i + 1) _ (by omega) (by omega) (Or.inr rfl)
          · obtain ⟨oo, ho9⟩ := oI_nm c_23
            have hol := bs_lt hc ho9
            rw [ho9, show oI (some oo) = nI oo from rfl]
            refine r_aload_n d_Mm_isBesideSand_26 rfl 3 rfl ?_
            refine r_iload d_Mm_isBesideSand_27 0 rfl ?_
            refine r_cald d_Mm_isBesideSand_29 (q0 := 0) rfl (vp_in_nI (by omega) (by omega)) (v := f oo) (by rw [nI_clamp (by omega)]) ?_
            refine r_bipush d_Mm_isBesideSand_30 (v := 46) (by decide) ?_
            refine r_icmp_ne (tgt := 39) d_Mm_isBesideSand_32 (by decide) (fun c_32 => ?_) (fun c_32 => ?_)
            · refine r_iconst d_Mm_isBesideSand_39 (v := 0) (by decide) ?_
              refine r_istore_n (lv' := [(2, .int 0), (4, .int (nI oo)), (3, .int (nI i)), (0, .ref b), (1, .int (nI c))]) d_Mm_isBesideSand_40 rfl (by decide) rfl ?_
              refine r_iinc (lv' := [(3, .int (nI (i + 1))), (2, .int 0), (4, .int (nI oo)), (0, .ref b), (1, .int (nI c))]) (v := nI (i + 1)) d_Mm_isBesideSand_41 (j := 2) rfl (nI_add _ _) (by decide) rfl ?_
              refine r_goto (tgt := 4) d_Mm_isBesideSand_44 (by decide) ?_
              refine r_lv (lv' := [(3, .int (nI (i + 1))), (2, .int 0), (0, .ref b), (1, .int (nI c))]) [0, 1, 3, 4] rfl ?_
              exact ih (i + 1) _ (by omega) (by omega) (Or.inl rfl)
            · refine r_iconst d_Mm_isBesideSand_35 (v := 1) (by decide) ?_
              refine r_goto (tgt := 40) d_Mm_isBesideSand_36 (by decide) ?_
              refine r_istore_n (lv' := [(2, .int 1), (4, .int (nI oo)), (3, .int (nI i)), (0, .ref b), (1, .int (nI c))]) d_Mm_isBesideSand_40 rfl (by decide) rfl ?_
              refine r_iinc (lv' := [(3, .int (nI (i + 1))), (2, .int 1), (4, .int (nI oo)), (0, .ref b), (1, .int (nI c))]) (v := nI (i + 1)) d_Mm_isBesideSand_41 (j := 2) rfl (nI_add _ _) (by decide) rfl ?_
              refine r_goto (tgt := 4) d_Mm_isBesideSand_44 (by decide) ?_
              refine r_lv (lv' := [(3, .int (nI (i + 1))), (2, .int 1), (0, .ref b), (1, .int (nI c))]) [0, 1, 3, 4] rfl ?_
              exact ih (i + 1) _ (by omega) (by omega) (Or.inr rfl)
set_option maxHeartbeats 4000000 in
set_option maxRecDepth 100000 in
theorem C_Mm_isBesideSandW (g : zG) (b : Nat) (f : Nat → Int32) (c : Nat) (hc : c < 108) : CT g M_Mm_isBesideSand [.ref b, .int (nI c)] [(b, .inl (1, 108, .inl f))] (fun o cs1 => ∃ (v9 : Int32), (v9 = 0 ∨ v9 = 1) ∧ o = .inl (some (.int v9)) ∧ cs1 = [(b, .inl (1, 108, .inl f))]) 0 0 := by
  refine z_of (by decide) rfl (Nat.le_of_ble_eq_true rfl) (fun w0 => ?_)
  refine r_lvE (lv2 := [(0, .ref b), (1, .int (nI c))]) rfl ?_
  refine r_iconst d_Mm_isBesideSand_0 (v := 0) (by decide) ?_
  refine r_istore_n (lv' := [(2, .int 0), (0, .ref b), (1, .int (nI c))]) d_Mm_isBesideSand_1 rfl (by decide) rfl ?_
  refine r_iconst d_Mm_isBesideSand_2 (v := 0) (by decide) ?_
  refine r_istore_n (lv' := [(3, .int 0), (2, .int 0), (0, .ref b), (1, .int (nI c))]) d_Mm_isBesideSand_3 rfl (by decide) rfl ?_
  exact L_Mm_isBesideSandW_4 g b f c hc w0 _  (4 + 1) 0 _ (Nat.zero_le _) (by omega) (Or.inl rfl)
theorem d_Mm_isBesideCasting_38 : decode prog_14_method_42_code 38 = .ok (.iconst 1, 1) := zo_4 (zd_b zq_prog_14_method_42_code_1 6 rfl rfl rfl)
theorem d_Mm_isBesideCasting_39 : decode prog_14_method_42_code 39 = .ok (.goto 4, 3) := zo_167 (d := 0) (e := 4) (zd_b zq_prog_14_method_42_code_1 7 rfl rfl rfl) (zd_b zq_prog_14_method_42_code_1 8 rfl rfl rfl) (zd_b zq_prog_14_method_42_code_1 9 rfl rfl rfl) (by decide +kernel)
set_option maxHeartbeats 4000000 in
set_option maxRecDepth 100000 in
theorem L_Mm_isBesideCastingW_4 (g : zG) (m mp mf mh mn mt mz mc_ mq mgr ml mi mr mm mu mk mx : Nat) (th pt cl wa co_ fi bu ho lh mg wd fpi fal : Int32) (po de : Int64) (f : Nat → Int32) (c : Nat) (hc : c < 108) (w0 : zW) (n : Nat) : ∀ (d i : Nat) (lf : Int32), i ≤ 4 → 4 < i + d → (lf = 0 ∨ lf = 1) → DV g M_Mm_isBesideCasting (fun o cs1 => ∃ (v9 : Int32), (v9 = 0 ∨ v9 = 1) ∧ o = .inl (some (.int v9)) ∧ cs1 = [(m, .inr (12, [.int th, .ref mp, .int pt, .ref mf, .ref mh, .ref mn, .ref mt, .ref mz, .ref mc_, .ref mq, .ref mgr, .int cl, .int wa, .int co_, .int fi, .int bu, .int ho, .ref ml, .ref mi, .ref mr, .int lh, .int mg, .int wd, .int fpi, .int fal, .ref mm, .ref mu, .ref mk, .ref mx, .long po, .long de])), (mp, .inl (1, 108, .inl f))]) w0 n 4 [(3, .int (nI i)), (2, .int lf), (0, .ref m), (1, .int (nI c))] [] [(m, .inr (12, [.int th, .ref mp, .int pt, .ref mf, .ref mh, .ref mn, .ref mt, .ref mz, .ref mc_, .ref mq, .ref mgr, .int cl, .int wa, .int co_, .int fi, .int bu, .int ho, .ref ml, .ref mi, .ref mr, .int lh, .int mg, .int wd, .int fpi, .int fal, .ref mm, .ref mu, .ref mk, .ref mx, .long po, .long de])), (mp, .inl (1, 108, .inl f))] 0 0 := by
  intro d
  induction d with
  | zero => intro i lf h1 h2 v1; exact absurd h2 (by omega)
  | succ d ih =>
    intro i lf h1 h2 v1
    refine r_iload_n d_Mm_isBesideCasting_4 rfl 0 rfl ?_
    refine r_iconst d_Mm_isBesideCasting_5 (v := 4) (by decide) ?_
    refine r_icmp_ge (tgt := 50) d_Mm_isBesideCasting_6 (by decide) (fun c_6 => ?_) (fun c_6 => ?_)
    · have hn := z_le (a := 4) (by omega) (by decide) c_6
      obtain rfl : i = 4 := by omega
      refine r_iload_n d_Mm_isBesideCasting_50 rfl 1 rfl ?_
      refine r_iret d_Mm_isBesideCasting_51 rfl (z_nar01 v1) ?_
      exact ⟨_, v1, rfl, rfl⟩
    · have hn := z_nle (a := 4) (by omega) (by decide) c_6
      refine r_iload_n d_Mm_isBesideCasting_9 rfl 3 rfl ?_
      refine r_iload_n d_Mm_isBesideCasting_10 rfl 0 rfl ?_
      refine r_callS (As := [.int (nI c), .int (nI i)]) (rest := []) (csC := []) (is := []) ln_Mm_119 w_st_Mm_beside ok_Mm_isBesideCasting_Mm_beside d_Mm_isBesideCasting_11 (C_Mm_beside g c i (by omega) (by omega)) rfl rfl (Nat.le_of_ble_eq_true rfl) rfl (by decide) (by omega) (by omega) (fun E cs1 hx => ?_) (fun v cs1 hx => ?_)
      · exact absurd hx.1 (by simp)
      · obtain ⟨e1, rfl⟩ := hx
        cases e1
        refine ⟨rfl, ?_⟩
        refine r_st (st2 := [.int (oI (bs c i))]) rfl ?_
        refine r_cs (cs2 := [(m, .inr (12, [.int th, .ref mp, .int pt, .ref mf, .ref mh, .ref mn, .ref mt, .ref mz, .ref mc_, .ref mq, .ref mgr, .int cl, .int wa, .int co_, .int fi, .int bu, .int ho, .ref ml, .ref mi, .ref mr, .int lh, .int mg, .int wd, .int fpi, .int fal, .ref mm, .ref mu, .ref mk, .ref mx, .long po, .long de])), (mp, .inl (1, 108, .inl f))]) rfl ?_
        refine r_istore (lv' := [(4, .int (oI (bs c i))), (3, .int (nI i)), (2, .int lf), (0, .ref m), (1, .int (nI c))]) d_Mm_isBesideCasting_14 (by decide) rfl ?_
        refine r_iload_n d_Mm_isBesideCasting_16 rfl 2 rfl ?_
        refine r_if_ne (tgt := 38) d_Mm_isBesideCasting_17 (by decide) (fun c_17 => ?_) (fun c_17 => ?_)
        · refine r_iconst d_Mm_isBesideCasting_38 (v := 1) (by decide) ?_
          refine r_goto (tgt := 43) d_Mm_isBesideCasting_39 (by decide) ?_
          refine r_istore_n (lv' := [(2, .int 1), (4, .int (oI (bs c i))), (3, .int (nI i)), (0, .ref m), (1, .int (nI c))]) d_Mm_isBesideCasting_43 rfl (by decide) rfl ?_
          refine r_iinc (lv' := [(3, .int (nI (i + 1))), (2, .int 1), (4, .int (oI (bs c i))), (0, .ref m), (1, .int (nI c))]) (v := nI (i + 1)) d_Mm_isBesideCasting_44 (j := 2) rfl (nI_add _ _) (by decide) rfl ?_
          refine r_goto (tgt := 4) d_Mm_isBesideCasting_47 (by decide) ?_
          refine r_lv (lv' := [(3, .int (nI (i + 1))), (2, .int 1), (0, .ref m), (1, .int (nI c))]) [0, 1, 3, 4] rfl ?_
          exact ih (i + 1) _ (by omega) (by omega) (Or.inr rfl)
        · refine r_iload d_Mm_isBesideCasting_20 0 rfl ?_
          refine r_iconst d_Mm_isBesideCasting_22 (v := (-1)) (by decide) ?_
          refine r_icmp_eq (tgt := 42) d_Mm_isBesideCasting_23 (by decide) (fun c_23 => ?_) (fun c_23 => ?_)
          · refine r_iconst d_Mm_isBesideCasting_42 (v := 0) (by decide) ?_
            refine r_istore_n (lv' := [(2, .int 0), (4, .int (oI (bs c i))), (3, .int (nI i)), (0, .ref m), (1, .int (nI c))]) d_Mm_isBesideCasting_43 rfl (by decide) rfl ?_
            refine r_iinc (lv' := [(3, .int (nI (i + 1))), (2, .int 0), (4, .int (oI (bs c i))), (0, .ref m), (1, .int (nI c))]) (v := nI (i + 1)) d_Mm_isBesideCasting_44 (j := 2) rfl (nI_add _ _) (by decide) rfl ?_
            refine r_goto (tgt := 4) d_Mm_isBesideCasting_47 (by decide) ?_
            refine r_lv (lv' := [(3, .int (nI (i + 1))), (2, .int 0), (0, .ref m), (1, .int (nI c))]) [0, 1, 3, 4] rfl ?_
            exact ih (i + 1) _ (by omega) (by omega) (Or.inl rfl)
          · obtain ⟨oo, ho9⟩ := oI_nm c_23
            have hol := bs_lt hc ho9
            rw [ho9, show oI (some oo) = nI oo from rfl]
            refine r_aload_n d_Mm_isBesideCasting_26 rfl 3 rfl ?_
            refine r_get fs_Mm_7 d_Mm_isBesideCasting_27 (q0 := 0) rfl rfl ?_
            refine r_iload d_Mm_isBesideCasting_30 0 rfl ?_
            refine r_cald d_Mm_isBesideCasting_32 (q0 := 1) rfl (vp_in_nI (by omega) (by omega)) (v := f oo) (by rw [nI_clamp (by omega)]) ?_
            refine r_bipush d_Mm_isBesideCasting_33 (v := 99) (by decide) ?_
            refine r_icmp_ne (tgt := 42) d_Mm_isBesideCasting_35 (by decide) (fun c_35 => ?_) (fun c_35 => ?_)
            · refine r_iconst d_Mm_isBesideCasting_42 (v := 0) (by decide) ?_
              refine r_istore_n (lv' := [(2, .int 0), (4, .int (nI oo)), (3, .int (nI i)), (0, .ref m), (1, .int (nI c))]) d_Mm_isBesideCasting_43 rfl (by decide) rfl ?_
              refine r_iinc (lv' := [(3, .int (nI (i + 1))), (2, .int 0), (4, .int (nI oo)), (0, .ref m), (1, .int (nI c))]) (v := nI (i + 1)) d_Mm_isBesideCasting_44 (j := 2) rfl (nI_add _ _) (by decide) rfl ?_
              refine r_goto (tgt := 4) d_Mm_isBesideCasting_47 (by decide) ?_
              refine r_lv (lv' := [(3, .int (nI (i + 1))), (2, .int 0), (0, .ref m), (1, .int (nI c))]) [0, 1, 3, 4] rfl ?_
              exact ih (i + 1) _ (by omega) (by omega) (Or.inl rfl)
            · refine r_iconst d_Mm_isBesideCasting_38 (v := 1) (by decide) ?_
              refine r_goto (tgt := 43) d_Mm_isBesideCasting_39 (by decide) ?_
              refine r_istore_n (lv' := [(2, .int 1), (4, .int (nI oo)), (3, .int (nI i)), (0, .ref m), (1, .int (nI c))]) d_Mm_isBesideCasting_43 rfl (by decide) rfl ?_
              refine r_iinc (lv' := [(3, .int (nI (i + 1))), (2, .int 1), (4, .int (nI oo)), (0, .ref m), (1, .int (nI c))]) (v := nI (i + 1)) d_Mm_isBesideCasting_44 (j := 2) rfl (nI_add _ _) (by decide) rfl ?_
              refine r_goto (tgt := 4) d_Mm_isBesideCasting_47 (by decide) ?_
              refine r_lv (lv' := [(3, .int (nI (i + 1))), (2, .int 1), (0, .ref m), (1, .int (nI c))]) [0, 1, 3, 4] rfl ?_
              exact ih (i + 1) _ (by omega) (by omega) (Or.inr rfl)
set_option maxHeartbeats 4000000 in
set_option maxRecDepth 100000 in
theorem C_Mm_isBesideCastingW (g : zG) (m mp mf mh mn mt mz mc_ mq mgr ml mi mr mm mu mk mx : Nat) (th pt cl wa co_ fi bu ho lh mg wd fpi fal : Int32) (po de : Int64) (f : Nat → Int32) (c : Nat) (hc : c < 108) : CT g M_Mm_isBesideCasting [.ref m, .int (nI c)] [(m, .inr (12, [.int th, .ref mp, .int pt, .ref mf, .ref mh, .ref mn, .ref mt, .ref mz, .ref mc_, .ref mq, .ref mgr, .int cl, .int wa, .int co_, .int fi, .int bu, .int ho, .ref ml, .ref mi, .ref mr, .int lh, .int mg, .int wd, .int fpi, .int fal, .ref mm, .ref mu, .ref mk, .ref mx, .long po, .long de])), (mp, .inl (1, 108, .inl f))] (fun o cs1 => ∃ (v9 : Int32), (v9 = 0 ∨ v9 = 1) ∧ o = .inl (some (.int v9)) ∧ cs1 = [(m, .inr (12, [.int th, .ref mp, .int pt, .ref mf, .ref mh, .ref mn, .ref mt, .ref mz, .ref mc_, .ref mq, .ref mgr, .int cl, .int wa, .int co_, .int fi, .int bu, .int ho, .ref ml, .ref mi, .ref mr, .int lh, .int mg, .int wd, .int fpi, .int fal, .ref mm, .ref mu, .ref mk, .ref mx, .long po, .long de])), (mp, .inl (1, 108, .inl f))]) 0 0 := by
  refine z_of (by decide) rfl (Nat.le_of_ble_eq_true rfl) (fun w0 => ?_)
  refine r_lvE (lv2 := [(0, .ref m), (1, .int (nI c))]) rfl ?_
  refine r_iconst d_Mm_isBesideCasting_0 (v := 0) (by decide) ?_
  refine r_istore_n (lv' := [(2, .int 0), (0, .ref m), (1, .int (nI c))]) d_Mm_isBesideCasting_1 rfl (by decide) rfl ?_
  refine r_iconst d_Mm_isBesideCasting_2 (v := 0) (by decide) ?_
  refine r_istore_n (lv' := [(3, .int 0), (2, .int 0), (0, .ref m), (1, .int (nI c))]) d_Mm_isBesideCasting_3 rfl (by decide) rfl ?_
  exact L_Mm_isBesideCastingW_4 g m mp mf mh mn mt mz mc_ mq mgr ml mi mr mm mu mk mx th pt cl wa co_ fi bu ho lh mg wd fpi fal po de f c hc w0 _  (4 + 1) 0 _ (Nat.zero_le _) (by omega) (Or.inl rfl)
end
section
theorem upd_back {f : Nat → Int32} {i : Nat} {v w : Int32} (h : f i = w) : upd (upd f i v) i w = f := by
  funext k
  unfold upd
  split
  · rename_i q; rw [q, h]
  · rfl
set_option maxHeartbeats 4000000 in
set_option maxRecDepth 100000 in
theorem C_Mm_filledInW (g : zG) (m mp mf mh mn mt mz mc_ mq mgr ml mi mr mm mu mk mx : Nat) (th pt cl wa co_ fi bu ho lh mg wd fpi fal : Int32) (po de : Int64) (f fl he nx mtt fz ic : Nat → Int32) (qn : Nat → Nat) (x y : Nat) (hx0 : x < 12) (hy0 : y < 9) : CT g M_Mm_filledIn [.ref m, .int (nI x), .int (nI y)] [(m, .inr (12, [.int th, .ref mp, .int pt, .ref mf, .ref mh, .ref mn, .ref mt, .ref mz, .ref mc_, .ref mq, .ref mgr, .int cl, .int wa, .int co_, .int fi, .int bu, .int ho, .ref ml, .ref mi, .ref mr, .int lh, .int mg, .int wd, .int fpi, .int fal, .ref mm, .ref mu, .ref mk, .ref mx, .long po, .long de])), (mp, .inl (1, 108, .inl f)), (mf, .inl (0, 108, .inl fl)), (mh, .inl (0, 108, .inl he)), (mt, .inl (0, 108, .inl mtt)), (mz, .inl (0, 108, .inl fz)), (mn, .inl (0, 108, .inl nx)), (mc_, .inl (2, 108, .inl ic)), (mq, .inl (0, 108, .inl (fun k => nI (qn k))))] (fun o cs1 => ∃ (v9 th9 : Int32) (fl9 he9 nx9 mt9 fz9 ic9 : Nat → Int32) (qn9 : Nat → Nat), o = .inl (some (.int v9)) ∧ cs1 = [(m, .inr (12, [.int th9, .ref mp, .int pt, .ref mf, .ref mh, .ref mn, .ref mt, .ref mz, .ref mc_, .ref mq, .ref mgr, .int cl, .int wa, .int co_, .int fi, .int bu, .int ho, .ref ml, .ref mi, .ref mr, .int lh, .int mg, .int wd, .int fpi, .int fal, .ref mm, .ref mu, .ref mk, .ref mx, .long po, .long de])), (mp, .inl (1, 108, .inl f)), (mf, .inl (0, 108, .inl fl9)), (mh, .inl (0, 108, .inl he9)), (mt, .inl (0, 108, .inl mt9)), (mz, .inl (0, 108, .inl fz9)), (mn, .inl (0, 108, .inl nx9)), (mc_, .inl (2, 108, .inl ic9)), (mq, .inl (0, 108, .inl (fun k => nI (qn9 k))))]) 0 0 := by
  refine z_of (by decide) rfl (Nat.le_of_ble_eq_true rfl) (fun w0 => ?_)
  refine r_lvE (lv2 := [(0, .ref m), (1, .int (nI x)), (2, .int (nI y))]) rfl ?_
  refine r_aload_n d_Mm_filledIn_0 rfl 0 rfl ?_
  refine r_iconst d_Mm_filledIn_1 (v := 0) (by decide) ?_
  refine r_put fp_Mm_84 d_Mm_filledIn_2 (fun h => nomatch h) rfl rfl (q0 := 0) rfl (Nat.le_of_ble_eq_true rfl) (cs' := [(m, .inr (12, [.int 0, .ref mp, .int pt, .ref mf, .ref mh, .ref mn, .ref mt, .ref mz, .ref mc_, .ref mq, .ref mgr, .int cl, .int wa, .int co_, .int fi, .int bu, .int ho, .ref ml, .ref mi, .ref mr, .int lh, .int mg, .int wd, .int fpi, .int fal, .ref mm, .ref mu, .ref mk, .ref mx, .long po, .long de])), (mp, .inl (1, 108, .inl f)), (mf, .inl (0, 108, .inl fl)), (mh, .inl (0, 108, .inl he)), (mt, .inl (0, 108, .inl mtt)), (mz, .inl (0, 108, .inl fz)), (mn, .inl (0, 108, .inl nx)), (mc_, .inl (2, 108, .inl ic)), (mq, .inl (0, 108, .inl (fun k => nI (qn k))))]) rfl ?_
  refine r_aload_n d_Mm_filledIn_5 rfl 0 rfl ?_
  refine r_iload_n d_Mm_filledIn_6 rfl 1 rfl ?_
  refine r_iload_n d_Mm_filledIn_7 rfl 2 rfl ?_
  refine r_callS (As := [.int (nI x), .int (nI y)]) (rest := [.ref m]) (csC := []) (is := []) ln_Mm_91 w_st_Mm_isCell ok_Mm_filledIn_Mm_isCell d_Mm_filledIn_8 (C_Mm_isCell g (nI x) (nI y)) rfl rfl (Nat.le_of_ble_eq_true rfl) rfl (by decide) (by omega) (by omega) (fun E cs1 hx => ?_) (fun v cs1 hx => ?_)
  · exact absurd hx.1 (by simp)
  · obtain ⟨e1, rfl⟩ := hx
    rw [if_pos (z_cellN (by omega) (by omega))] at e1
    cases e1
    refine ⟨rfl, ?_⟩
    refine r_st (st2 := [.int 1, .ref m]) rfl ?_
    refine r_cs (cs2 := [(m, .inr (12, [.int 0, .ref mp, .int pt, .ref mf, .ref mh, .ref mn, .ref mt, .ref mz, .ref mc_, .ref mq, .ref mgr, .int cl, .int wa, .int co_, .int fi, .int bu, .int ho, .ref ml, .ref mi, .ref mr, .int lh, .int mg, .int wd, .int fpi, .int fal, .ref mm, .ref mu, .ref mk, .ref mx, .long po, .long de])), (mp, .inl (1, 108, .inl f)), (mf, .inl (0, 108, .inl fl)), (mh, .inl (0, 108, .inl he)), (mt, .inl (0, 108, .inl mtt)), (mz, .inl (0, 108, .inl fz)), (mn, .inl (0, 108, .inl nx)), (mc_, .inl (2, 108, .inl ic)), (mq, .inl (0, 108, .inl (fun k => nI (qn k))))]) rfl ?_
    refine r_if_ne (tgt := 18) d_Mm_filledIn_11 (by decide) (fun c_11 => ?_) (fun c_11 => ?_)
    · refine r_iconst d_Mm_filledIn_18 (v := 0) (by decide) ?_
      refine r_iconst d_Mm_filledIn_19 (v := 1) (by decide) ?_
      refine r_callV (As := [.int 0, .int 1]) (rest := []) (csC := [(m, .inr (12, [.int 0, .ref mp, .int pt, .ref mf, .ref mh, .ref mn, .ref mt, .ref mz, .ref mc_, .ref mq, .ref mgr, .int cl, .int wa, .int co_, .int fi, .int bu, .int ho, .ref ml, .ref mi, .ref mr, .int lh, .int mg, .int wd, .int fpi, .int fal, .ref mm, .ref mu, .ref mk, .ref mx, .long po, .long de]))]) (is := [0]) (q0 := 0) rfl rfl ln_Mm_103 w_im_Mm_fails w_se_Mm_fails ok_Mm_filledIn_Mm_fails d_Mm_filledIn_20 (C_Mm_fails0 g m mp mf mh mn mt mz mc_ mq mgr ml mi mr mm mu mk mx th pt cl wa co_ fi bu ho lh mg wd fpi fal po de 1) rfl rfl (Nat.le_of_ble_eq_true rfl) rfl (by decide) (by omega) (by omega) (fun E cs1 hx => ?_) (fun v cs1 hx => ?_)
      · exact absurd hx.1 (by simp)
      · obtain ⟨e1, rfl⟩ := hx
        cases e1
        refine ⟨rfl, ?_⟩
        refine r_st (st2 := [.int 0]) rfl ?_
        refine r_cs (cs2 := [(m, .inr (12, [.int 0, .ref mp, .int pt, .ref mf, .ref mh, .ref mn, .ref mt, .ref mz, .ref mc_, .ref mq, .ref mgr, .int cl, .int wa, .int co_, .int fi, .int bu, .int ho, .ref ml, .ref mi, .ref mr, .int lh, .int mg, .int wd, .int fpi, .int fal, .ref mm, .ref mu, .ref mk, .ref mx, .long po, .long de])), (mp, .inl (1, 108, .inl f)), (mf, .inl (0, 108, .inl fl)), (mh, .inl (0, 108, .inl he)), (mt, .inl (0, 108, .inl mtt)), (mz, .inl (0, 108, .inl fz)), (mn, .inl (0, 108, .inl nx)), (mc_, .inl (2, 108, .inl ic)), (mq, .inl (0, 108, .inl (fun k => nI (qn k))))]) rfl ?_
        refine r_if_eq (tgt := 28) d_Mm_filledIn_23 (by decide) (fun c_23 => ?_) (fun c_23 => ?_)
        · refine r_aload_n d_Mm_filledIn_28 rfl 0 rfl ?_
          refine r_aload_n d_Mm_filledIn_29 rfl 0 rfl ?_
          refine r_get fs_Mm_7 d_Mm_filledIn_30 (q0 := 0) rfl rfl ?_
          refine r_callV (As := [.ref mp]) (rest := []) (csC := [(m, .inr (12, [.int 0, .ref mp, .int pt, .ref mf, .ref mh, .ref mn, .ref mt, .ref mz, .ref mc_, .ref mq, .ref mgr, .int cl, .int wa, .int co_, .int fi, .int bu, .int ho, .ref ml, .ref mi, .ref mr, .int lh, .int mg, .int wd, .int fpi, .int fal, .ref mm, .ref mu, .ref mk, .ref mx, .long po, .long de])), (mp, .inl (1, 108, .inl f)), (mf, .inl (0, 108, .inl fl))]) (is := [0, 1, 2]) (q0 := 0) rfl rfl ln_Mm_143 w_im_Mm_fill w_se_Mm_fill ok_Mm_filledIn_Mm_fill d_Mm_filledIn_33 (C_Mm_fillW g m mp mf mh mn mt mz mc_ mq mgr ml mi mr mm mu mk mx 0 pt cl wa co_ fi bu ho lh mg wd fpi fal po de mp f fl) rfl rfl (Nat.le_of_ble_eq_true rfl) rfl (by decide) (by omega) (by omega) (fun E cs1 hx => ?_) (fun v cs1 hx => ?_)
          · obtain ⟨fl9, e1, -⟩ := hx
            cases e1
          · obtain ⟨fl9, e1, rfl⟩ := hx
            cases e1
            refine ⟨rfl, ?_⟩
            refine r_st (st2 := []) rfl ?_
            refine r_cs (cs2 := [(m, .inr (12, [.int 0, .ref mp, .int pt, .ref mf, .ref mh, .ref mn, .ref mt, .ref mz, .ref mc_, .ref mq, .ref mgr, .int cl, .int wa, .int co_, .int fi, .int bu, .int ho, .ref ml, .ref mi, .ref mr, .int lh, .int mg, .int wd, .int fpi, .int fal, .ref mm, .ref mu, .ref mk, .ref mx, .long po, .long de])), (mp, .inl (1, 108, .inl f)), (mf, .inl (0, 108, .inl fl9)), (mh, .inl (0, 108, .inl he)), (mt, .inl (0, 108, .inl mtt)), (mz, .inl (0, 108, .inl fz)), (mn, .inl (0, 108, .inl nx)), (mc_, .inl (2, 108, .inl ic)), (mq, .inl (0, 108, .inl (fun k => nI (qn k))))]) rfl ?_
            refine r_aload_n d_Mm_filledIn_36 rfl 0 rfl ?_
            refine r_get fs_Mm_17 d_Mm_filledIn_37 (q0 := 0) rfl rfl ?_
            refine r_bipush d_Mm_filledIn_40 (v := 12) (by decide) ?_
            refine r_iload_n d_Mm_filledIn_42 rfl 2 rfl ?_
            refine r_imul d_Mm_filledIn_43 (v := nI (12 * y)) (pk_mul _ _) ?_
            refine r_iload_n d_Mm_filledIn_44 rfl 1 rfl ?_
            refine r_iadd d_Mm_filledIn_45 (v := nI (12 * y + x)) (nI_add _ _) ?_
            refine r_iald d_Mm_filledIn_46 (q0 := 2) rfl (vp_in_nI (by omega) (by omega)) (v := fl9 (12 * y + x)) (by rw [nI_clamp (by omega)]) ?_
            refine r_iret d_Mm_filledIn_47 rfl rfl ?_
            exact ⟨_, _, _, _, _, _, _, _, _, rfl, rfl⟩
        · exact absurd c_23 (by decide)
    · exact absurd c_11 (by decide)
set_option maxHeartbeats 4000000 in
set_option maxRecDepth 100000 in
theorem C_Mm_frozenInW (g : zG) (m mp mf mh mn mt mz mc_ mq mgr ml mi mr mm mu mk mx : Nat) (th pt cl wa co_ fi bu ho lh mg wd fpi fal : Int32) (po de : Int64) (f fl he nx mtt fz ic : Nat → Int32) (qn : Nat → Nat) (x y : Nat) (hx0 : x < 12) (hy0 : y < 9) (h : Int32) (hh : 1200 ≤ h ∧ h ≤ 1500) : CT g M_Mm_frozenIn [.ref m, .int (nI x), .int (nI y), .int h] [(m, .inr (12, [.int th, .ref mp, .int pt, .ref mf, .ref mh, .ref mn, .ref mt, .ref mz, .ref mc_, .ref mq, .ref mgr, .int cl, .int wa, .int co_, .int fi, .int bu, .int ho, .ref ml, .ref mi, .ref mr, .int lh, .int mg, .int wd, .int fpi, .int fal, .ref mm, .ref mu, .ref mk, .ref mx, .long po, .long de])), (mp, .inl (1, 108, .inl f)), (mf, .inl (0, 108, .inl fl)), (mh, .inl (0, 108, .inl he)), (mt, .inl (0, 108, .inl mtt)), (mz, .inl (0, 108, .inl fz)), (mn, .inl (0, 108, .inl nx)), (mc_, .inl (2, 108, .inl ic)), (mq, .inl (0, 108, .inl (fun k => nI (qn k))))] (fun o cs1 => ∃ (v9 th9 : Int32) (fl9 he9 nx9 mt9 fz9 ic9 : Nat → Int32) (qn9 : Nat → Nat), o = .inl (some (.int v9)) ∧ cs1 = [(m, .inr (12, [.int th9, .ref mp, .int pt, .ref mf, .ref mh, .ref mn, .ref mt, .ref mz, .ref mc_, .ref mq, .ref mgr, .int cl, .int wa, .int co_, .int fi, .int bu, .int ho, .ref ml, .ref mi, .ref mr, .int lh, .int mg, .int wd, .int fpi, .int fal, .ref mm, .ref mu, .ref mk, .ref mx, .long po, .long de])), (mp, .inl (1, 108, .inl f)), (mf, .inl (0, 108, .inl fl9)), (mh, .inl (0, 108, .inl he9)), (mt, .inl (0, 108, .inl mt9)), (mz, .inl (0, 108, .inl fz9)), (mn, .inl (0, 108, .inl nx9)), (mc_, .inl (2, 108, .inl ic9)), (mq, .inl (0, 108, .inl (fun k => nI (qn9 k))))]) 0 0 := by
  refine z_of (by decide) rfl (Nat.le_of_ble_eq_true rfl) (fun w0 => ?_)
  refine r_lvE (lv2 := [(0, .ref m), (1, .int (nI x)), (2, .int (nI y)), (3, .int h)]) rfl ?_
  refine r_aload_n d_Mm_frozenIn_0 rfl 0 rfl ?_
  refine r_iconst d_Mm_frozenIn_1 (v := 0) (by decide) ?_
  refine r_put fp_Mm_84 d_Mm_frozenIn_2 (fun h => nomatch h) rfl rfl (q0 := 0) rfl (Nat.le_of_ble_eq_true rfl) (cs' := [(m, .inr (12, [.int 0, .ref mp, .int pt, .ref mf, .ref mh, .ref mn, .ref mt, .ref mz, .ref mc_, .ref mq, .ref mgr, .int cl, .int wa, .int co_, .int fi, .int bu, .int ho, .ref ml, .ref mi, .ref mr, .int lh, .int mg, .int wd, .int fpi, .int fal, .ref mm, .ref mu, .ref mk, .ref mx, .long po, .long de])), (mp, .inl (1, 108, .inl f)), (mf, .inl (0, 108, .inl fl)), (mh, .inl (0, 108, .inl he)), (mt, .inl (0, 108, .inl mtt)), (mz, .inl (0, 108, .inl fz)), (mn, .inl (0, 108, .inl nx)), (mc_, .inl (2, 108, .inl ic)), (mq, .inl (0, 108, .inl (fun k => nI (qn k))))]) rfl ?_
  refine r_aload_n d_Mm_frozenIn_5 rfl 0 rfl ?_
  refine r_iload_n d_Mm_frozenIn_6 rfl 1 rfl ?_
  refine r_iload_n d_Mm_frozenIn_7 rfl 2 rfl ?_
  refine r_callS (As := [.int (nI x), .int (nI y)]) (rest := [.ref m]) (csC := []) (is := []) ln_Mm_91 w_st_Mm_isCell ok_Mm_frozenIn_Mm_isCell d_Mm_frozenIn_8 (C_Mm_isCell g (nI x) (nI y)) rfl rfl (Nat.le_of_ble_eq_true rfl) rfl (by decide) (by omega) (by omega) (fun E cs1 hx => ?_) (fun v cs1 hx => ?_)
  · exact absurd hx.1 (by simp)
  · obtain ⟨e1, rfl⟩ := hx
    rw [if_pos (z_cellN (by omega) (by omega))] at e1
    cases e1
    refine ⟨rfl, ?_⟩
    refine r_st (st2 := [.int 1, .ref m]) rfl ?_
    refine r_cs (cs2 := [(m, .inr (12, [.int 0, .ref mp, .int pt, .ref mf, .ref mh, .ref mn, .ref mt, .ref mz, .ref mc_, .ref mq, .ref mgr, .int cl, .int wa, .int co_, .int fi, .int bu, .int ho, .ref ml, .ref mi, .ref mr, .int lh, .int mg, .int wd, .int fpi, .int fal, .ref mm, .ref mu, .ref mk, .ref mx, .long po, .long de])), (mp, .inl (1, 108, .inl f)), (mf, .inl (0, 108, .inl fl)), (mh, .inl (0, 108, .inl he)), (mt, .inl (0, 108, .inl mtt)), (mz, .inl (0, 108, .inl fz)), (mn, .inl (0, 108, .inl nx)), (mc_, .inl (2, 108, .inl ic)), (mq, .inl (0, 108, .inl (fun k => nI (qn k))))]) rfl ?_
    refine r_if_ne (tgt := 18) d_Mm_frozenIn_11 (by decide) (fun c_11 => ?_) (fun c_11 => ?_)
    · refine r_iconst d_Mm_frozenIn_18 (v := 0) (by decide) ?_
      refine r_iconst d_Mm_frozenIn_19 (v := 1) (by decide) ?_
      refine r_callV (As := [.int 0, .int 1]) (rest := []) (csC := [(m, .inr (12, [.int 0, .ref mp, .int pt, .ref mf, .ref mh, .ref mn, .ref mt, .ref mz, .ref mc_, .ref mq, .ref mgr, .int cl, .int wa, .int co_, .int fi, .int bu, .int ho, .ref ml, .ref mi, .ref mr, .int lh, .int mg, .int wd, .int fpi, .int fal, .ref mm, .ref mu, .ref mk, .ref mx, .long po, .long de]))]) (is := [0]) (q0 := 0) rfl rfl ln_Mm_103 w_im_Mm_fails w_se_Mm_fails ok_Mm_frozenIn_Mm_fails d_Mm_frozenIn_20 (C_Mm_fails0 g m mp mf mh mn mt mz mc_ mq mgr ml mi mr mm mu mk mx th pt cl wa co_ fi bu ho lh mg wd fpi fal po de 1) rfl rfl (Nat.le_of_ble_eq_true rfl) rfl (by decide) (by omega) (by omega) (fun E cs1 hx => ?_) (fun v cs1 hx => ?_)
      · exact absurd hx.1 (by simp)
      · obtain ⟨e1, rfl⟩ := hx
        cases e1
        refine ⟨rfl, ?_⟩
        refine r_st (st2 := [.int 0]) rfl ?_
        refine r_cs (cs2 := [(m, .inr (12, [.int 0, .ref mp, .int pt, .ref mf, .ref mh, .ref mn, .ref mt, .ref mz, .ref mc_, .ref mq, .ref mgr, .int cl, .int wa, .int co_, .int fi, .int bu, .int ho, .ref ml, .ref mi, .ref mr, .int lh, .int mg, .int wd, .int fpi, .int fal, .ref mm, .ref mu, .ref mk, .ref mx, .long po, .long de])), (mp, .inl (1, 108, .inl f)), (mf, .inl (0, 108, .inl fl)), (mh, .inl (0, 108, .inl he)), (mt, .inl (0, 108, .inl mtt)), (mz, .inl (0, 108, .inl fz)), (mn, .inl (0, 108, .inl nx)), (mc_, .inl (2, 108, .inl ic)), (mq, .inl (0, 108, .inl (fun k => nI (qn k))))]) rfl ?_
        refine r_if_ne (tgt := 38) d_Mm_frozenIn_23 (by decide) (fun c_23 => ?_) (fun c_23 => ?_)
        · exact absurd c_23 (by decide)
        · refine r_aload_n d_Mm_frozenIn_26 rfl 0 rfl ?_
          refine r_iload_n d_Mm_frozenIn_27 rfl 3 rfl ?_
          refine r_callS (As := [.int h]) (rest := [.ref m]) (csC := []) (is := []) ln_Mm_163 w_st_Mm_noHeat ok_Mm_frozenIn_Mm_noHeat d_Mm_frozenIn_28 (C_Mm_noHeat0 g h hh) rfl rfl (Nat.le_of_ble_eq_true rfl) rfl (by decide) (by omega) (by omega) (fun E cs1 hx => ?_) (fun v cs1 hx => ?_)
          · exact absurd hx.1 (by simp)
          · obtain ⟨e1, rfl⟩ := hx
            cases e1
            refine ⟨rfl, ?_⟩
            refine r_st (st2 := [.int 0, .ref m]) rfl ?_
            refine r_cs (cs2 := [(m, .inr (12, [.int 0, .ref mp, .int pt, .ref mf, .ref mh, .ref mn, .ref mt, .ref mz, .ref mc_, .ref mq, .ref mgr, .int cl, .int wa, .int co_, .int fi, .int bu, .int ho, .ref ml, .ref mi, .ref mr, .int lh, .int mg, .int wd, .int fpi, .int fal, .ref mm, .ref mu, .ref mk, .ref mx, .long po, .long de])), (mp, .inl (1, 108, .inl f)), (mf, .inl (0, 108, .inl fl)), (mh, .inl (0, 108, .inl he)), (mt, .inl (0, 108, .inl mtt)), (mz, .inl (0, 108, .inl fz)), (mn, .inl (0, 108, .inl nx)), (mc_, .inl (2, 108, .inl ic)), (mq, .inl (0, 108, .inl (fun k => nI (qn k))))]) rfl ?_
            refine r_iconst d_Mm_frozenIn_31 (v := 2) (by decide) ?_
            refine r_callV (As := [.int 0, .int 2]) (rest := []) (csC := [(m, .inr (12, [.int 0, .ref mp, .int pt, .ref mf, .ref mh, .ref mn, .ref mt, .ref mz, .ref mc_, .ref mq, .ref mgr, .int cl, .int wa, .int co_, .int fi, .int bu, .int ho, .ref ml, .ref mi, .ref mr, .int lh, .int mg, .int wd, .int fpi, .int fal, .ref mm, .ref mu, .ref mk, .ref mx, .long po, .long de]))]) (is := [0]) (q0 := 0) rfl rfl ln_Mm_103 w_im_Mm_fails w_se_Mm_fails ok_Mm_frozenIn_Mm_fails d_Mm_frozenIn_32 (C_Mm_fails0 g m mp mf mh mn mt mz mc_ mq mgr ml mi mr mm mu mk mx th pt cl wa co_ fi bu ho lh mg wd fpi fal po de 2) rfl rfl (Nat.le_of_ble_eq_true rfl) rfl (by decide) (by omega) (by omega) (fun E cs1 hx => ?_) (fun v cs1 hx => ?_)
            · exact absurd hx.1 (by simp)
            · obtain ⟨e1, rfl⟩ := hx
              cases e1
              refine ⟨rfl, ?_⟩
              refine r_st (st2 := [.int 0]) rfl ?_
              refine r_cs (cs2 := [(m, .inr (12, [.int 0, .ref mp, .int pt, .ref mf, .ref mh, .ref mn, .ref mt, .ref mz, .ref mc_, .ref mq, .ref mgr, .int cl, .int wa, .int co_, .int fi, .int bu, .int ho, .ref ml, .ref mi, .ref mr, .int lh, .int mg, .int wd, .int fpi, .int fal, .ref mm, .ref mu, .ref mk, .ref mx, .long po, .long de])), (mp, .inl (1, 108, .inl f)), (mf, .inl (0, 108, .inl fl)), (mh, .inl (0, 108, .inl he)), (mt, .inl (0, 108, .inl mtt)), (mz, .inl (0, 108, .inl fz)), (mn, .inl (0, 108, .inl nx)), (mc_, .inl (2, 108, .inl ic)), (mq, .inl (0, 108, .inl (fun k => nI (qn k))))]) rfl ?_
              refine r_if_eq (tgt := 40) d_Mm_frozenIn_35 (by decide) (fun c_35 => ?_) (fun c_35 => ?_)
              · refine r_aload_n d_Mm_frozenIn_40 rfl 0 rfl ?_
                refine r_aload_n d_Mm_frozenIn_41 rfl 0 rfl ?_
                refine r_get fs_Mm_7 d_Mm_frozenIn_42 (q0 := 0) rfl rfl ?_
                refine r_iload_n d_Mm_frozenIn_45 rfl 3 rfl ?_
                refine r_callV (As := [.ref mp, .int h]) (rest := []) (csC := [(m, .inr (12, [.int 0, .ref mp, .int pt, .ref mf, .ref mh, .ref mn, .ref mt, .ref mz, .ref mc_, .ref mq, .ref mgr, .int cl, .int wa, .int co_, .int fi, .int bu, .int ho, .ref ml, .ref mi, .ref mr, .int lh, .int mg, .int wd, .int fpi, .int fal, .ref mm, .ref mu, .ref mk, .ref mx, .long po, .long de])), (mp, .inl (1, 108, .inl f)), (mf, .inl (0, 108, .inl fl)), (mh, .inl (0, 108, .inl he)), (mt, .inl (0, 108, .inl mtt)), (mz, .inl (0, 108, .inl fz)), (mn, .inl (0, 108, .inl nx))]) (is := [0, 1, 2, 3, 4, 5, 6]) (q0 := 0) rfl rfl ln_Mm_167 w_im_Mm_freeze w_se_Mm_freeze ok_Mm_frozenIn_Mm_freeze d_Mm_frozenIn_46 (C_Mm_freezeW g m mp mf mh mn mt mz mc_ mq mgr ml mi mr mm mu mk mx 0 pt cl wa co_ fi bu ho lh mg wd fpi fal po de mp f fl he nx mtt fz h) rfl rfl (Nat.le_of_ble_eq_true rfl) rfl (by decide) (by omega) (by omega) (fun E cs1 hx => ?_) (fun v cs1 hx => ?_)
                · obtain ⟨fl9, he9, nx9, mt9, fz9, e1, -⟩ := hx
                  cases e1
                · obtain ⟨fl9, he9, nx9, mt9, fz9, e1, rfl⟩ := hx
                  cases e1
                  refine ⟨rfl, ?_⟩
                  refine r_st (st2 := []) rfl ?_
                  refine r_cs (cs2 := [(m, .inr (12, [.int 0, .ref mp, .int pt, .ref mf, .ref mh, .ref mn, .ref mt, .ref mz, .ref mc_, .ref mq, .ref mgr, .int cl, .int wa, .int co_, .int fi, .int bu, .int ho, .ref ml, .ref mi, .ref mr, .int lh, .int mg, .int wd, .int fpi, .int fal, .ref mm, .ref mu, .ref mk, .ref mx, .long po, .long de])), (mp, .inl (1, 108, .inl f)), (mf, .inl (0, 108, .inl fl9)), (mh, .inl (0, 108, .inl he9)), (mt, .inl (0, 108, .inl mt9)), (mz, .inl (0, 108, .inl fz9)), (mn, .inl (0, 108, .inl nx9)), (mc_, .inl (2, 108, .inl ic)), (mq, .inl (0, 108, .inl (fun k => nI (qn k))))]) rfl ?_
                  refine r_aload_n d_Mm_frozenIn_49 rfl 0 rfl ?_
                  refine r_get fs_Mm_30 d_Mm_frozenIn_50 (q0 := 0) rfl rfl ?_
                  refine r_bipush d_Mm_frozenIn_53 (v := 12) (by decide) ?_
                  refine r_iload_n d_Mm_frozenIn_55 rfl 2 rfl ?_
                  refine r_imul d_Mm_frozenIn_56 (v := nI (12 * y)) (pk_mul _ _) ?_
                  refine r_iload_n d_Mm_frozenIn_57 rfl 1 rfl ?_
                  refine r_iadd d_Mm_frozenIn_58 (v := nI (12 * y + x)) (nI_add _ _) ?_
                  refine r_iald d_Mm_frozenIn_59 (q0 := 5) rfl (vp_in_nI (by omega) (by omega)) (v := fz9 (12 * y + x)) (by rw [nI_clamp (by omega)]) ?_
                  refine r_iret d_Mm_frozenIn_60 rfl rfl ?_
                  exact ⟨_, _, _, _, _, _, _, _, _, rfl, rfl⟩
              · exact absurd c_35 (by decide)
    · exact absurd c_11 (by decide)
set_option maxHeartbeats 4000000 in
set_option maxRecDepth 100000 in
theorem C_Mm_shrunkW (g : zG) (m mp mf mh mn mt mz mc_ mq mgr ml mi mr mm mu mk mx : Nat) (th pt cl wa co_ fi bu ho lh mg wd fpi fal : Int32) (po de : Int64) (f fl he nx mtt fz ic : Nat → Int32) (qn : Nat → Nat) (h : Int32) (hh : 1200 ≤ h ∧ h ≤ 1500) : CT g M_Mm_shrunk [.ref m, .int h] [(m, .inr (12, [.int th, .ref mp, .int pt, .ref mf, .ref mh, .ref mn, .ref mt, .ref mz, .ref mc_, .ref mq, .ref mgr, .int cl, .int wa, .int co_, .int fi, .int bu, .int ho, .ref ml, .ref mi, .ref mr, .int lh, .int mg, .int wd, .int fpi, .int fal, .ref mm, .ref mu, .ref mk, .ref mx, .long po, .long de])), (mp, .inl (1, 108, .inl f)), (mf, .inl (0, 108, .inl fl)), (mh, .inl (0, 108, .inl he)), (mt, .inl (0, 108, .inl mtt)), (mz, .inl (0, 108, .inl fz)), (mn, .inl (0, 108, .inl nx)), (mc_, .inl (2, 108, .inl ic)), (mq, .inl (0, 108, .inl (fun k => nI (qn k))))] (fun o cs1 => ∃ (v9 th9 : Int32) (fl9 he9 nx9 mt9 fz9 ic9 : Nat → Int32) (qn9 : Nat → Nat), o = .inl (some (.int v9)) ∧ cs1 = [(m, .inr (12, [.int th9, .ref mp, .int pt, .ref mf, .ref mh, .ref mn, .ref mt, .ref mz, .ref mc_, .ref mq, .ref mgr, .int cl, .int wa, .int co_, .int fi, .int bu, .int ho, .ref ml, .ref mi, .ref mr, .int lh, .int mg, .int wd, .int fpi, .int fal, .ref mm, .ref mu, .ref mk, .ref mx, .long po, .long de])), (mp, .inl (1, 108, .inl f)), (mf, .inl (0, 108, .inl fl9)), (mh, .inl (0, 108, .inl he9)), (mt, .inl (0, 108, .inl mt9)), (mz, .inl (0, 108, .inl fz9)), (mn, .inl (0, 108, .inl nx9)), (mc_, .inl (2, 108, .inl ic9)), (mq, .inl (0, 108, .inl (fun k => nI (qn9 k))))]) 0 0 := by
  refine z_of (by decide) rfl (Nat.le_of_ble_eq_true rfl) (fun w0 => ?_)
  refine r_lvE (lv2 := [(0, .ref m), (1, .int h)]) rfl ?_
  refine r_aload_n d_Mm_shrunk_0 rfl 0 rfl ?_
  refine r_iconst d_Mm_shrunk_1 (v := 0) (by decide) ?_
  refine r_put fp_Mm_84 d_Mm_shrunk_2 (fun h => nomatch h) rfl rfl (q0 := 0) rfl (Nat.le_of_ble_eq_true rfl) (cs' := [(m, .inr (12, [.int 0, .ref mp, .int pt, .ref mf, .ref mh, .ref mn, .ref mt, .ref mz, .ref mc_, .ref mq, .ref mgr, .int cl, .int wa, .int co_, .int fi, .int bu, .int ho, .ref ml, .ref mi, .ref mr, .int lh, .int mg, .int wd, .int fpi, .int fal, .ref mm, .ref mu, .ref mk, .ref mx, .long po, .long de])), (mp, .inl (1, 108, .inl f)), (mf, .inl (0, 108, .inl fl)), (mh, .inl (0, 108, .inl he)), (mt, .inl (0, 108, .inl mtt)), (mz, .inl (0, 108, .inl fz)), (mn, .inl (0, 108, .inl nx)), (mc_, .inl (2, 108, .inl ic)), (mq, .inl (0, 108, .inl (fun k => nI (qn k))))]) rfl ?_
  refine r_aload_n d_Mm_shrunk_5 rfl 0 rfl ?_
  refine r_iload_n d_Mm_shrunk_6 rfl 1 rfl ?_
  refine r_callS (As := [.int h]) (rest := [.ref m]) (csC := []) (is := []) ln_Mm_163 w_st_Mm_noHeat ok_Mm_shrunk_Mm_noHeat d_Mm_shrunk_7 (C_Mm_noHeat0 g h hh) rfl rfl (Nat.le_of_ble_eq_true rfl) rfl (by decide) (by omega) (by omega) (fun E cs1 hx => ?_) (fun v cs1 hx => ?_)
  · exact absurd hx.1 (by simp)
  · obtain ⟨e1, rfl⟩ := hx
    cases e1
    refine ⟨rfl, ?_⟩
    refine r_st (st2 := [.int 0, .ref m]) rfl ?_
    refine r_cs (cs2 := [(m, .inr (12, [.int 0, .ref mp, .int pt, .ref mf, .ref mh, .ref mn, .ref mt, .ref mz, .ref mc_, .ref mq, .ref mgr, .int cl, .int wa, .int co_, .int fi, .int bu, .int ho, .ref ml, .ref mi, .ref mr, .int lh, .int mg, .int wd, .int fpi, .int fal, .ref mm, .ref mu, .ref mk, .ref mx, .long po, .long de])), (mp, .inl (1, 108, .inl f)), (mf, .inl (0, 108, .inl fl)), (mh, .inl (0, 108, .inl he)), (mt, .inl (0, 108, .inl mtt)), (mz, .inl (0, 108, .inl fz)), (mn, .inl (0, 108, .inl nx)), (mc_, .inl (2, 108, .inl ic)), (mq, .inl (0, 108, .inl (fun k => nI (qn k))))]) rfl ?_
    refine r_iconst d_Mm_shrunk_10 (v := 1) (by decide) ?_
    refine r_callV (As := [.int 0, .int 1]) (rest := []) (csC := [(m, .inr (12, [.int 0, .ref mp, .int pt, .ref mf, .ref mh, .ref mn, .ref mt, .ref mz, .ref mc_, .ref mq, .ref mgr, .int cl, .int wa, .int co_, .int fi, .int bu, .int ho, .ref ml, .ref mi, .ref mr, .int lh, .int mg, .int wd, .int fpi, .int fal, .ref mm, .ref mu, .ref mk, .ref mx, .long po, .long de]))]) (is := [0]) (q0 := 0) rfl rfl ln_Mm_103 w_im_Mm_fails w_se_Mm_fails ok_Mm_shrunk_Mm_fails d_Mm_shrunk_11 (C_Mm_fails0 g m mp mf mh mn mt mz mc_ mq mgr ml mi mr mm mu mk mx th pt cl wa co_ fi bu ho lh mg wd fpi fal po de 1) rfl rfl (Nat.le_of_ble_eq_true rfl) rfl (by decide) (by omega) (by omega) (fun E cs1 hx => ?_) (fun v cs1 hx => ?_)
    · exact absurd hx.1 (by simp)
    · obtain ⟨e1, rfl⟩ := hx
      cases e1
      refine ⟨rfl, ?_⟩
      refine r_st (st2 := [.int 0]) rfl ?_
      refine r_cs (cs2 := [(m, .inr (12, [.int 0, .ref mp, .int pt, .ref mf, .ref mh, .ref mn, .ref mt, .ref mz, .ref mc_, .ref mq, .ref mgr, .int cl, .int wa, .int co_, .int fi, .int bu, .int ho, .ref ml, .ref mi, .ref mr, .int lh, .int mg, .int wd, .int fpi, .int fal, .ref mm, .ref mu, .ref mk, .ref mx, .long po, .long de])), (mp, .inl (1, 108, .inl f)), (mf, .inl (0, 108, .inl fl)), (mh, .inl (0, 108, .inl he)), (mt, .inl (0, 108, .inl mtt)), (mz, .inl (0, 108, .inl fz)), (mn, .inl (0, 108, .inl nx)), (mc_, .inl (2, 108, .inl ic)), (mq, .inl (0, 108, .inl (fun k => nI (qn k))))]) rfl ?_
      refine r_if_eq (tgt := 21) d_Mm_shrunk_14 (by decide) (fun c_14 => ?_) (fun c_14 => ?_)
      · refine r_aload_n d_Mm_shrunk_21 rfl 0 rfl ?_
        refine r_aload_n d_Mm_shrunk_22 rfl 0 rfl ?_
        refine r_get fs_Mm_7 d_Mm_shrunk_23 (q0 := 0) rfl rfl ?_
        refine r_iload_n d_Mm_shrunk_26 rfl 1 rfl ?_
        refine r_callV (As := [.ref mp, .int h]) (rest := []) (csC := [(m, .inr (12, [.int 0, .ref mp, .int pt, .ref mf, .ref mh, .ref mn, .ref mt, .ref mz, .ref mc_, .ref mq, .ref mgr, .int cl, .int wa, .int co_, .int fi, .int bu, .int ho, .ref ml, .ref mi, .ref mr, .int lh, .int mg, .int wd, .int fpi, .int fal, .ref mm, .ref mu, .ref mk, .ref mx, .long po, .long de])), (mp, .inl (1, 108, .inl f)), (mf, .inl (0, 108, .inl fl)), (mh, .inl (0, 108, .inl he)), (mt, .inl (0, 108, .inl mtt)), (mz, .inl (0, 108, .inl fz)), (mn, .inl (0, 108, .inl nx)), (mc_, .inl (2, 108, .inl ic)), (mq, .inl (0, 108, .inl (fun k => nI (qn k))))]) (is := [0, 1, 2, 3, 4, 5, 6, 7, 8]) (q0 := 0) rfl rfl ln_Mm_173 w_im_Mm_shrunkOf w_se_Mm_shrunkOf ok_Mm_shrunk_Mm_shrunkOf d_Mm_shrunk_27 (C_Mm_shrunkOfW g m mp mf mh mn mt mz mc_ mq mgr ml mi mr mm mu mk mx 0 pt cl wa co_ fi bu ho lh mg wd fpi fal po de mp f fl he nx mtt fz ic qn h) rfl rfl (Nat.le_of_ble_eq_true rfl) rfl (by decide) (by omega) (by omega) (fun E cs1 hx => ?_) (fun v cs1 hx => ?_)
        · obtain ⟨v9, fl9, he9, nx9, mt9, fz9, ic9, qn9, e1, -⟩ := hx
          cases e1
        · obtain ⟨v9, fl9, he9, nx9, mt9, fz9, ic9, qn9, e1, rfl⟩ := hx
          cases e1
          refine ⟨rfl, ?_⟩
          refine r_st (st2 := [.int v9]) rfl ?_
          refine r_cs (cs2 := [(m, .inr (12, [.int 0, .ref mp, .int pt, .ref mf, .ref mh, .ref mn, .ref mt, .ref mz, .ref mc_, .ref mq, .ref mgr, .int cl, .int wa, .int co_, .int fi, .int bu, .int ho, .ref ml, .ref mi, .ref mr, .int lh, .int mg, .int wd, .int fpi, .int fal, .ref mm, .ref mu, .ref mk, .ref mx, .long po, .long de])), (mp, .inl (1, 108, .inl f)), (mf, .inl (0, 108, .inl fl9)), (mh, .inl (0, 108, .inl he9)), (mt, .inl (0, 108, .inl mt9)), (mz, .inl (0, 108, .inl fz9)), (mn, .inl (0, 108, .inl nx9)), (mc_, .inl (2, 108, .inl ic9)), (mq, .inl (0, 108, .inl (fun k => nI (qn9 k))))]) rfl ?_
          refine r_iret d_Mm_shrunk_30 rfl rfl ?_
          exact ⟨_, _, _, _, _, _, _, _, _, rfl, rfl⟩
      · exact absurd c_14 (by decide)
theorem d_Mm_shrunkAnew_50 : decode prog_14_method_40_code 50 = .ok (.aload_n 0, 1) := zo_42 (zd_b zq_prog_14_method_40_code_1 18 rfl rfl rfl)
theorem d_Mm_shrunkAnew_51 : decode prog_14_method_40_code 51 = .ok (.getfield 17, 3) := zo_180 (d := 0) (e := 17) (zd_b zq_prog_14_method_40_code_1 19 rfl rfl rfl) (zd_b zq_prog_14_method_40_code_1 20 rfl rfl rfl) (zd_b zq_prog_14_method_40_code_1 21 rfl rfl rfl)
theorem d_Mm_shrunkAnew_54 : decode prog_14_method_40_code 54 = .ok (.iload_n 3, 1) := zo_29 (zd_b zq_prog_14_method_40_code_1 22 rfl rfl rfl)
theorem d_Mm_shrunkAnew_55 : decode prog_14_method_40_code 55 = .ok (.iaload, 1) := zo_46 (zd_b zq_prog_14_method_40_code_1 23 rfl rfl rfl)
theorem d_Mm_shrunkAnew_56 : decode prog_14_method_40_code 56 = .ok (.iconst (-1), 1) := zo_2 (zd_b zq_prog_14_method_40_code_1 24 rfl rfl rfl)
theorem d_Mm_shrunkAnew_57 : decode prog_14_method_40_code 57 = .ok (.if_icmp .eq 15, 3) := zo_159 (d := 0) (e := 15) (zd_b zq_prog_14_method_40_code_1 25 rfl rfl rfl) (zd_b zq_prog_14_method_40_code_1 26 rfl rfl rfl) (zd_b zq_prog_14_method_40_code_1 27 rfl rfl rfl) (by decide +kernel)
theorem d_Mm_shrunkAnew_60 : decode prog_14_method_40_code 60 = .ok (.aload_n 0, 1) := zo_42 (zd_b zq_prog_14_method_40_code_1 28 rfl rfl rfl)
theorem d_Mm_shrunkAnew_61 : decode prog_14_method_40_code 61 = .ok (.iload_n 3, 1) := zo_29 (zd_b zq_prog_14_method_40_code_1 29 rfl rfl rfl)
theorem d_Mm_shrunkAnew_62 : decode prog_14_method_40_code 62 = .ok (.invokevirtual 176, 3) := zo_182 (d := 0) (e := 176) (zd_b zq_prog_14_method_40_code_1 30 rfl rfl rfl) (zd_b zq_prog_14_method_40_code_1 31 rfl rfl rfl) (zd_b zq_prog_14_method_40_code_2 0 rfl rfl rfl)
theorem ok_Mm_shrunkAnew_Mm_hasWay : z_ok M_Mm_shrunkAnew M_Mm_hasWay 1 := ⟨z_mj8 (i := 84) rfl (by decide +kernel), rfl, ⟨by decide +kernel, by decide +kernel, by decide +kernel⟩, ⟨by decide, by decide⟩, z_mj1 (i := 14) rfl (by decide +kernel), rfl⟩
theorem ln_Mm_176 : Cond.methodLink "IronpourModel" 176 M_Mm_hasWay.1 ∈ z_gw := z_mj8 (i := 81) rfl (by decide +kernel)
theorem w_im_Mm_hasWay : Cond.instanceMethod M_Mm_hasWay.1 ∈ z_gw := z_mj8 (i := 83) rfl (by decide +kernel)
theorem w_se_Mm_hasWay : Cond.selects M_Mm_hasWay.1.cls M_Mm_hasWay.1 M_Mm_hasWay.1 ∈ z_gw := z_mem (i := 42) (by decide +kernel) (by decide +kernel)
theorem d_Mm_shrunkAnew_65 : decode prog_14_method_40_code 65 = .ok (.ifCond .ne 7, 3) := zo_154 (d := 0) (e := 7) (zd_b zq_prog_14_method_40_code_2 1 rfl rfl rfl) (zd_b zq_prog_14_method_40_code_2 2 rfl rfl rfl) (zd_b zq_prog_14_method_40_code_2 3 rfl rfl rfl) (by decide +kernel)
theorem d_Mm_shrunkAnew_68 : decode prog_14_method_40_code 68 = .ok (.iconst 1, 1) := zo_4 (zd_b zq_prog_14_method_40_code_2 4 rfl rfl rfl)
theorem d_Mm_shrunkAnew_69 : decode prog_14_method_40_code 69 = .ok (.goto 4, 3) := zo_167 (d := 0) (e := 4) (zd_b zq_prog_14_method_40_code_2 5 rfl rfl rfl) (zd_b zq_prog_14_method_40_code_2 6 rfl rfl rfl) (zd_b zq_prog_14_method_40_code_2 7 rfl rfl rfl) (by decide +kernel)
set_option maxHeartbeats 4000000 in
set_option maxRecDepth 100000 in
theorem L_Mm_shrunkAnewW_32 (g : zG) (m mp mf mh mn mt mz mc_ mq mgr ml mi mr mm mu mk mx : Nat) (th pt cl wa co_ fi bu ho lh mg wd fpi fal : Int32) (po de : Int64) (f fl he nx mtt fz ic : Nat → Int32) (qn : Nat → Nat) (h : Int32) (hh : 1200 ≤ h ∧ h ≤ 1500) (w0 : zW) (n : Nat) : ∀ (d i : Nat) (fl he nx mtt fz ic : Nat → Int32) (qn : Nat → Nat) (nn : Int32), i ≤ 108 → 108 < i + d → DV g M_Mm_shrunkAnew (fun o cs1 => ∃ (v9 th9 : Int32) (fl9 he9 nx9 mt9 fz9 ic9 : Nat → Int32) (qn9 : Nat → Nat), o = .inl (some (.int v9)) ∧ cs1 = [(m, .inr (12, [.int th9, .ref mp, .int pt, .ref mf, .ref mh, .ref mn, .ref mt, .ref mz, .ref mc_, .ref mq, .ref mgr, .int cl, .int wa, .int co_, .int fi, .int bu, .int ho, .ref ml, .ref mi, .ref mr, .int lh, .int mg, .int wd, .int fpi, .int fal, .ref mm, .ref mu, .ref mk, .ref mx, .long po, .long de])), (mp, .inl (1, 108, .inl f)), (mf, .inl (0, 108, .inl fl9)), (mh, .inl (0, 108, .inl he9)), (mt, .inl (0, 108, .inl mt9)), (mz, .inl (0, 108, .inl fz9)), (mn, .inl (0, 108, .inl nx9)), (mc_, .inl (2, 108, .inl ic9)), (mq, .inl (0, 108, .inl (fun k => nI (qn9 k))))]) w0 n 32 [(3, .int (nI i)), (2, .int nn), (0, .ref m)] [] [(m, .inr (12, [.int 0, .ref mp, .int pt, .ref mf, .ref mh, .ref mn, .ref mt, .ref mz, .ref mc_, .ref mq, .ref mgr, .int cl, .int wa, .int co_, .int fi, .int bu, .int ho, .ref ml, .ref mi, .ref mr, .int lh, .int mg, .int wd, .int fpi, .int fal, .ref mm, .ref mu, .ref mk, .ref mx, .long po, .long de])), (mp, .inl (1, 108, .inl f)), (mf, .inl (0, 108, .inl fl)), (mh, .inl (0, 108, .inl he)), (mt, .inl (0, 108, .inl mtt)), (mz, .inl (0, 108, .inl fz)), (mn, .inl (0, 108, .inl nx)), (mc_, .inl (2, 108, .inl ic)), (mq, .inl (0, 108, .inl (fun k => nI (qn k))))] 0 0 := by
  intro d
  induction d with
  | zero => intro i fl he nx mtt fz ic qn nn h1 h2 ; exact absurd h2 (by omega)
  | succ d ih =>
    intro i fl he nx mtt fz ic qn nn h1 h2 
    refine r_iload_n d_Mm_shrunkAnew_32 rfl 0 rfl ?_
    refine r_bipush d_Mm_shrunkAnew_33 (v := 108) (by decide) ?_
    refine r_icmp_ge (tgt := 81) d_Mm_shrunkAnew_35 (by decide) (fun c_35 => ?_) (fun c_35 => ?_)
    · have hn := z_le (a := 108) (by omega) (by decide) c_35
      obtain rfl : i = 108 := by omega
      refine r_iload_n d_Mm_shrunkAnew_81 rfl 1 rfl ?_
      refine r_iret d_Mm_shrunkAnew_82 rfl rfl ?_
      exact ⟨_, _, _, _, _, _, _, _, _, rfl, rfl⟩
    · have hn := z_nle (a := 108) (by omega) (by decide) c_35
      refine r_iload_n d_Mm_shrunkAnew_38 rfl 1 rfl ?_
      refine r_aload_n d_Mm_shrunkAnew_39 rfl 2 rfl ?_
      refine r_get fs_Mm_7 d_Mm_shrunkAnew_40 (q0 := 0) rfl rfl ?_
      refine r_iload_n d_Mm_shrunkAnew_43 rfl 0 rfl ?_
      refine r_cald d_Mm_shrunkAnew_44 (q0 := 1) rfl (vp_in_nI (by omega) (by omega)) (v := f i) (by rw [nI_clamp (by omega)]) ?_
      refine r_bipush d_Mm_shrunkAnew_45 (v := 99) (by decide) ?_
      refine r_icmp_ne (tgt := 72) d_Mm_shrunkAnew_47 (by decide) (fun c_47 => ?_) (fun c_47 => ?_)
      · refine r_iconst d_Mm_shrunkAnew_72 (v := 0) (by decide) ?_
        refine r_iadd d_Mm_shrunkAnew_73 (v := nn + 0) rfl ?_
        refine r_istore_n (lv' := [(2, .int (nn + 0)), (3, .int (nI i)), (0, .ref m)]) d_Mm_shrunkAnew_74 rfl (by decide) rfl ?_
        refine r_iinc (lv' := [(3, .int (nI (i + 1))), (2, .int (nn + 0)), (0, .ref m)]) (v := nI (i + 1)) d_Mm_shrunkAnew_75 (j := 1) rfl (nI_add _ _) (by decide) rfl ?_
        refine r_goto (tgt := 32) d_Mm_shrunkAnew_78 (by decide) ?_
        exact ih (i + 1) _ _ _ _ _ _ _ _ (by omega) (by omega)
      · refine r_aload_n d_Mm_shrunkAnew_50 rfl 2 rfl ?_
        refine r_get fs_Mm_17 d_Mm_shrunkAnew_51 (q0 := 0) rfl rfl ?_
        refine r_iload_n d_Mm_shrunkAnew_54 rfl 0 rfl ?_
        refine r_iald d_Mm_shrunkAnew_55 (q0 := 2) rfl (vp_in_nI (by omega) (by omega)) (v := fl i) (by rw [nI_clamp (by omega)]) ?_
        refine r_iconst d_Mm_shrunkAnew_56 (v := (-1)) (by decide) ?_
        refine r_icmp_eq (tgt := 72) d_Mm_shrunkAnew_57 (by decide) (fun c_57 => ?_) (fun c_57 => ?_)
        · refine r_iconst d_Mm_shrunkAnew_72 (v := 0) (by decide) ?_
          refine r_iadd d_Mm_shrunkAnew_73 (v := nn + 0) rfl ?_
          refine r_istore_n (lv' := [(2, .int (nn + 0)), (3, .int (nI i)), (0, .ref m)]) d_Mm_shrunkAnew_74 rfl (by decide) rfl ?_
          refine r_iinc (lv' := [(3, .int (nI (i + 1))), (2, .int (nn + 0)), (0, .ref m)]) (v := nI (i + 1)) d_Mm_shrunkAnew_75 (j := 1) rfl (nI_add _ _) (by decide) rfl ?_
          refine r_goto (tgt := 32) d_Mm_shrunkAnew_78 (by decide) ?_
          exact ih (i + 1) _ _ _ _ _ _ _ _ (by omega) (by omega)
        · refine r_aload_n d_Mm_shrunkAnew_60 rfl 2 rfl ?_
          refine r_iload_n d_Mm_shrunkAnew_61 rfl 0 rfl ?_
          refine r_callV (As := [.int (nI i)]) (rest := [.int nn]) (csC := [(m, .inr (12, [.int 0, .ref mp, .int pt, .ref mf, .ref mh, .ref mn, .ref mt, .ref mz, .ref mc_, .ref mq, .ref mgr, .int cl, .int wa, .int co_, .int fi, .int bu, .int ho, .ref ml, .ref mi, .ref mr, .int lh, .int mg, .int wd, .int fpi, .int fal, .ref mm, .ref mu, .ref mk, .ref mx, .long po, .long de])), (mp, .inl (1, 108, .inl f)), (mf, .inl (0, 108, .inl fl)), (mz, .inl (0, 108, .inl fz)), (mc_, .inl (2, 108, .inl ic)), (mq, .inl (0, 108, .inl (fun k => nI (qn k))))]) (is := [0, 1, 2, 5, 7, 8]) (q0 := 0) rfl rfl ln_Mm_176 w_im_Mm_hasWay w_se_Mm_hasWay ok_Mm_shrunkAnew_Mm_hasWay d_Mm_shrunkAnew_62 (C_Mm_hasWayW g m mp mf mh mn mt mz mc_ mq mgr ml mi mr mm mu mk mx 0 pt cl wa co_ fi bu ho lh mg wd fpi fal po de f fl fz ic qn i (by omega)) rfl rfl (Nat.le_of_ble_eq_true rfl) rfl (by decide) (by omega) (by omega) (fun E cs1 hx => ?_) (fun v cs1 hx => ?_)
          · obtain ⟨v9, ic9, qn9, -, e1, -⟩ := hx
            cases e1
          · obtain ⟨v9, ic9, qn9, -, e1, rfl⟩ := hx
            cases e1
            refine ⟨rfl, ?_⟩
            refine r_st (st2 := [.int v9, .int nn]) rfl ?_
            refine r_cs (cs2 := [(m, .inr (12, [.int 0, .ref mp, .int pt, .ref mf, .ref mh, .ref mn, .ref mt, .ref mz, .ref mc_, .ref mq, .ref mgr, .int cl, .int wa, .int co_, .int fi, .int bu, .int ho, .ref ml, .ref mi, .ref mr, .int lh, .int mg, .int wd, .int fpi, .int fal, .ref mm, .ref mu, .ref mk, .ref mx, .long po, .long de])), (mp, .inl (1, 108, .inl f)), (mf, .inl (0, 108, .inl fl)), (mh, .inl (0, 108, .inl he)), (mt, .inl (0, 108, .inl mtt)), (mz, .inl (0, 108, .inl fz)), (mn, .inl (0, 108, .inl nx)), (mc_, .inl (2, 108, .inl ic9)), (mq, .inl (0, 108, .inl (fun k => nI (qn9 k))))]) rfl ?_
            refine r_if_ne (tgt := 72) d_Mm_shrunkAnew_65 (by decide) (fun c_65 => ?_) (fun c_65 => ?_)
            · refine r_iconst d_Mm_shrunkAnew_72 (v := 0) (by decide) ?_
              refine r_iadd d_Mm_shrunkAnew_73 (v := nn + 0) rfl ?_
              refine r_istore_n (lv' := [(2, .int (nn + 0)), (3, .int (nI i)), (0, .ref m)]) d_Mm_shrunkAnew_74 rfl (by decide) rfl ?_
              refine r_iinc (lv' := [(3, .int (nI (i + 1))), (2, .int (nn + 0)), (0, .ref m)]) (v := nI (i + 1)) d_Mm_shrunkAnew_75 (j := 1) rfl (nI_add _ _) (by decide) rfl ?_
              refine r_goto (tgt := 32) d_Mm_shrunkAnew_78 (by decide) ?_
              exact ih (i + 1) _ _ _ _ _ _ _ _ (by omega) (by omega)
            · refine r_iconst d_Mm_shrunkAnew_68 (v := 1) (by decide) ?_
              refine r_goto (tgt := 73) d_Mm_shrunkAnew_69 (by decide) ?_
              refine r_iadd d_Mm_shrunkAnew_73 (v := nn + 1) rfl ?_
              refine r_istore_n (lv' := [(2, .int (nn + 1)), (3, .int (nI i)), (0, .ref m)]) d_Mm_shrunkAnew_74 rfl (by decide) rfl ?_
              refine r_iinc (lv' := [(3, .int (nI (i + 1))), (2, .int (nn + 1)), (0, .ref m)]) (v := nI (i + 1)) d_Mm_shrunkAnew_75 (j := 1) rfl (nI_add _ _) (by decide) rfl ?_
              refine r_goto (tgt := 32) d_Mm_shrunkAnew_78 (by decide) ?_
              exact ih (i + 1) _ _ _ _ _ _ _ _ (by omega) (by omega)
set_option maxHeartbeats 4000000 in
set_option maxRecDepth 100000 in
theorem C_Mm_shrunkAnewW (g : zG) (m mp mf mh mn mt mz mc_ mq mgr ml mi mr mm mu mk mx : Nat) (th pt cl wa co_ fi bu ho lh mg wd fpi fal : Int32) (po de : Int64) (f fl he nx mtt fz ic : Nat → Int32) (qn : Nat → Nat) (h : Int32) (hh : 1200 ≤ h ∧ h ≤ 1500) : CT g M_Mm_shrunkAnew [.ref m, .int h] [(m, .inr (12, [.int th, .ref mp, .int pt, .ref mf, .ref mh, .ref mn, .ref mt, .ref mz, .ref mc_, .ref mq, .ref mgr, .int cl, .int wa, .int co_, .int fi, .int bu, .int ho, .ref ml, .ref mi, .ref mr, .int lh, .int mg, .int wd, .int fpi, .int fal, .ref mm, .ref mu, .ref mk, .ref mx, .long po, .long de])), (mp, .inl (1, 108, .inl f)), (mf, .inl (0, 108, .inl fl)), (mh, .inl (0, 108, .inl he)), (mt, .inl (0, 108, .inl mtt)), (mz, .inl (0, 108, .inl fz)), (mn, .inl (0, 108, .inl nx)), (mc_, .inl (2, 108, .inl ic)), (mq, .inl (0, 108, .inl (fun k => nI (qn k))))] (fun o cs1 => ∃ (v9 th9 : Int32) (fl9 he9 nx9 mt9 fz9 ic9 : Nat → Int32) (qn9 : Nat → Nat), o = .inl (some (.int v9)) ∧ cs1 = [(m, .inr (12, [.int th9, .ref mp, .int pt, .ref mf, .ref mh, .ref mn, .ref mt, .ref mz, .ref mc_, .ref mq, .ref mgr, .int cl, .int wa, .int co_, .int fi, .int bu, .int ho, .ref ml, .ref mi, .ref mr, .int lh, .int mg, .int wd, .int fpi, .int fal, .ref mm, .ref mu, .ref mk, .ref mx, .long po, .long de])), (mp, .inl (1, 108, .inl f)), (mf, .inl (0, 108, .inl fl9)), (mh, .inl (0, 108, .inl he9)), (mt, .inl (0, 108, .inl mt9)), (mz, .inl (0, 108, .inl fz9)), (mn, .inl (0, 108, .inl nx9)), (mc_, .inl (2, 108, .inl ic9)), (mq, .inl (0, 108, .inl (fun k => nI (qn9 k))))]) 0 0 := by
  refine z_of (by decide) rfl (Nat.le_of_ble_eq_true rfl) (fun w0 => ?_)
  refine r_lvE (lv2 := [(0, .ref m), (1, .int h)]) rfl ?_
  refine r_aload_n d_Mm_shrunkAnew_0 rfl 0 rfl ?_
  refine r_iconst d_Mm_shrunkAnew_1 (v := 0) (by decide) ?_
  refine r_put fp_Mm_84 d_Mm_shrunkAnew_2 (fun h => nomatch h) rfl rfl (q0 := 0) rfl (Nat.le_of_ble_eq_true rfl) (cs' := [(m, .inr (12, [.int 0, .ref mp, .int pt, .ref mf, .ref mh, .ref mn, .ref mt, .ref mz, .ref mc_, .ref mq, .ref mgr, .int cl, .int wa, .int co_, .int fi, .int bu, .int ho, .ref ml, .ref mi, .ref mr, .int lh, .int mg, .int wd, .int fpi, .int fal, .ref mm, .ref mu, .ref mk, .ref mx, .long po, .long de])), (mp, .inl (1, 108, .inl f)), (mf, .inl (0, 108, .inl fl)), (mh, .inl (0, 108, .inl he)), (mt, .inl (0, 108, .inl mtt)), (mz, .inl (0, 108, .inl fz)), (mn, .inl (0, 108, .inl nx)), (mc_, .inl (2, 108, .inl ic)), (mq, .inl (0, 108, .inl (fun k => nI (qn k))))]) rfl ?_
  refine r_aload_n d_Mm_shrunkAnew_5 rfl 0 rfl ?_
  refine r_iload_n d_Mm_shrunkAnew_6 rfl 1 rfl ?_
  refine r_callS (As := [.int h]) (rest := [.ref m]) (csC := []) (is := []) ln_Mm_163 w_st_Mm_noHeat ok_Mm_shrunkAnew_Mm_noHeat d_Mm_shrunkAnew_7 (C_Mm_noHeat0 g h hh) rfl rfl (Nat.le_of_ble_eq_true rfl) rfl (by decide) (by omega) (by omega) (fun E cs1 hx => ?_) (fun v cs1 hx => ?_)
  · exact absurd hx.1 (by simp)
  · obtain ⟨e1, rfl⟩ := hx
    cases e1
    refine ⟨rfl, ?_⟩
    refine r_st (st2 := [.int 0, .ref m]) rfl ?_
    refine r_cs (cs2 := [(m, .inr (12, [.int 0, .ref mp, .int pt, .ref mf, .ref mh, .ref mn, .ref mt, .ref mz, .ref mc_, .ref mq, .ref mgr, .int cl, .int wa, .int co_, .int fi, .int bu, .int ho, .ref ml, .ref mi, .ref mr, .int lh, .int mg, .int wd, .int fpi, .int fal, .ref mm, .ref mu, .ref mk, .ref mx, .long po, .long de])), (mp, .inl (1, 108, .inl f)), (mf, .inl (0, 108, .inl fl)), (mh, .inl (0, 108, .inl he)), (mt, .inl (0, 108, .inl mtt)), (mz, .inl (0, 108, .inl fz)), (mn, .inl (0, 108, .inl nx)), (mc_, .inl (2, 108, .inl ic)), (mq, .inl (0, 108, .inl (fun k => nI (qn k))))]) rfl ?_
    refine r_iconst d_Mm_shrunkAnew_10 (v := 1) (by decide) ?_
    refine r_callV (As := [.int 0, .int 1]) (rest := []) (csC := [(m, .inr (12, [.int 0, .ref mp, .int pt, .ref mf, .ref mh, .ref mn, .ref mt, .ref mz, .ref mc_, .ref mq, .ref mgr, .int cl, .int wa, .int co_, .int fi, .int bu, .int ho, .ref ml, .ref mi, .ref mr, .int lh, .int mg, .int wd, .int fpi, .int fal, .ref mm, .ref mu, .ref mk, .ref mx, .long po, .long de]))]) (is := [0]) (q0 := 0) rfl rfl ln_Mm_103 w_im_Mm_fails w_se_Mm_fails ok_Mm_shrunkAnew_Mm_fails d_Mm_shrunkAnew_11 (C_Mm_fails0 g m mp mf mh mn mt mz mc_ mq mgr ml mi mr mm mu mk mx th pt cl wa co_ fi bu ho lh mg wd fpi fal po de 1) rfl rfl (Nat.le_of_ble_eq_true rfl) rfl (by decide) (by omega) (by omega) (fun E cs1 hx => ?_) (fun v cs1 hx => ?_)
    · exact absurd hx.1 (by simp)
    · obtain ⟨e1, rfl⟩ := hx
      cases e1
      refine ⟨rfl, ?_⟩
      refine r_st (st2 := [.int 0]) rfl ?_
      refine r_cs (cs2 := [(m, .inr (12, [.int 0, .ref mp, .int pt, .ref mf, .ref mh, .ref mn, .ref mt, .ref mz, .ref mc_, .ref mq, .ref mgr, .int cl, .int wa, .int co_, .int fi, .int bu, .int ho, .ref ml, .ref mi, .ref mr, .int lh, .int mg, .int wd, .int fpi, .int fal, .ref mm, .ref mu, .ref mk, .ref mx, .long po, .long de])), (mp, .inl (1, 108, .inl f)), (mf, .inl (0, 108, .inl fl)), (mh, .inl (0, 108, .inl he)), (mt, .inl (0, 108, .inl mtt)), (mz, .inl (0, 108, .inl fz)), (mn, .inl (0, 108, .inl nx)), (mc_, .inl (2, 108, .inl ic)), (mq, .inl (0, 108, .inl (fun k => nI (qn k))))]) rfl ?_
      refine r_if_eq (tgt := 19) d_Mm_shrunkAnew_14 (by decide) (fun c_14 => ?_) (fun c_14 => ?_)
      · refine r_aload_n d_Mm_shrunkAnew_19 rfl 0 rfl ?_
        refine r_aload_n d_Mm_shrunkAnew_20 rfl 0 rfl ?_
        refine r_get fs_Mm_7 d_Mm_shrunkAnew_21 (q0 := 0) rfl rfl ?_
        refine r_iload_n d_Mm_shrunkAnew_24 rfl 1 rfl ?_
        refine r_callV (As := [.ref mp, .int h]) (rest := []) (csC := [(m, .inr (12, [.int 0, .ref mp, .int pt, .ref mf, .ref mh, .ref mn, .ref mt, .ref mz, .ref mc_, .ref mq, .ref mgr, .int cl, .int wa, .int co_, .int fi, .int bu, .int ho, .ref ml, .ref mi, .ref mr, .int lh, .int mg, .int wd, .int fpi, .int fal, .ref mm, .ref mu, .ref mk, .ref mx, .long po, .long de])), (mp, .inl (1, 108, .inl f)), (mf, .inl (0, 108, .inl fl)), (mh, .inl (0, 108, .inl he)), (mt, .inl (0, 108, .inl mtt)), (mz, .inl (0, 108, .inl fz)), (mn, .inl (0, 108, .inl nx))]) (is := [0, 1, 2, 3, 4, 5, 6]) (q0 := 0) rfl rfl ln_Mm_167 w_im_Mm_freeze w_se_Mm_freeze ok_Mm_shrunkAnew_Mm_freeze d_Mm_shrunkAnew_25 (C_Mm_freezeW g m mp mf mh mn mt mz mc_ mq mgr ml mi mr mm mu mk mx 0 pt cl wa co_ fi bu ho lh mg wd fpi fal po de mp f fl he nx mtt fz h) rfl rfl (Nat.le_of_ble_eq_true rfl) rfl (by decide) (by omega) (by omega) (fun E cs1 hx => ?_) (fun v cs1 hx => ?_)
        · obtain ⟨fl9, he9, nx9, mt9, fz9, e1, -⟩ := hx
          cases e1
        · obtain ⟨fl9, he9, nx9, mt9, fz9, e1, rfl⟩ := hx
          cases e1
          refine ⟨rfl, ?_⟩
          refine r_st (st2 := []) rfl ?_
          refine r_cs (cs2 := [(m, .inr (12, [.int 0, .ref mp, .int pt, .ref mf, .ref mh, .ref mn, .ref mt, .ref mz, .ref mc_, .ref mq, .ref mgr, .int cl, .int wa, .int co_, .int fi, .int bu, .int ho, .ref ml, .ref mi, .ref mr, .int lh, .int mg, .int wd, .int fpi, .int fal, .ref mm, .ref mu, .ref mk, .ref mx, .long po, .long de])), (mp, .inl (1, 108, .inl f)), (mf, .inl (0, 108, .inl fl9)), (mh, .inl (0, 108, .inl he9)), (mt, .inl (0, 108, .inl mt9)), (mz, .inl (0, 108, .inl fz9)), (mn, .inl (0, 108, .inl nx9)), (mc_, .inl (2, 108, .inl ic)), (mq, .inl (0, 108, .inl (fun k => nI (qn k))))]) rfl ?_
          refine r_iconst d_Mm_shrunkAnew_28 (v := 0) (by decide) ?_
          refine r_istore_n (lv' := [(2, .int 0), (0, .ref m), (1, .int h)]) d_Mm_shrunkAnew_29 rfl (by decide) rfl ?_
          refine r_iconst d_Mm_shrunkAnew_30 (v := 0) (by decide) ?_
          refine r_istore_n (lv' := [(3, .int 0), (2, .int 0), (0, .ref m), (1, .int h)]) d_Mm_shrunkAnew_31 rfl (by decide) rfl ?_
          refine r_lv (lv' := [(3, .int 0), (2, .int 0), (0, .ref m)]) [0, 1, 2] rfl ?_
          exact L_Mm_shrunkAnewW_32 g m mp mf mh mn mt mz mc_ mq mgr ml mi mr mm mu mk mx th pt cl wa co_ fi bu ho lh mg wd fpi fal po de f fl he nx mtt fz ic qn h hh w0 _  (108 + 1) 0 _ _ _ _ _ _ _ _ (Nat.zero_le _) (by omega)
      · exact absurd c_14 (by decide)
theorem d_Mm_lastPlace_113 : decode prog_14_method_41_code 113 = .ok (.iconst 0, 1) := zo_3 (zd_b zq_prog_14_method_41_code_3 17 rfl rfl rfl)
theorem d_Mm_lastPlace_125 : decode prog_14_method_41_code 125 = .ok (.iload_n 2, 1) := zo_28 (zd_b zq_prog_14_method_41_code_3 29 rfl rfl rfl)
theorem d_Mm_lastPlace_49 : decode prog_14_method_41_code 49 = .ok (.aload_n 0, 1) := zo_42 (zd_b zq_prog_14_method_41_code_1 17 rfl rfl rfl)
theorem d_Mm_lastPlace_50 : decode prog_14_method_41_code 50 = .ok (.getfield 17, 3) := zo_180 (d := 0) (e := 17) (zd_b zq_prog_14_method_41_code_1 18 rfl rfl rfl) (zd_b zq_prog_14_method_41_code_1 19 rfl rfl rfl) (zd_b zq_prog_14_method_41_code_1 20 rfl rfl rfl)
theorem d_Mm_lastPlace_53 : decode prog_14_method_41_code 53 = .ok (.iload_n 3, 1) := zo_29 (zd_b zq_prog_14_method_41_code_1 21 rfl rfl rfl)
theorem d_Mm_lastPlace_54 : decode prog_14_method_41_code 54 = .ok (.iaload, 1) := zo_46 (zd_b zq_prog_14_method_41_code_1 22 rfl rfl rfl)
theorem d_Mm_lastPlace_55 : decode prog_14_method_41_code 55 = .ok (.iconst (-1), 1) := zo_2 (zd_b zq_prog_14_method_41_code_1 23 rfl rfl rfl)
theorem d_Mm_lastPlace_56 : decode prog_14_method_41_code 56 = .ok (.if_icmp .eq 7, 3) := zo_159 (d := 0) (e := 7) (zd_b zq_prog_14_method_41_code_1 24 rfl rfl rfl) (zd_b zq_prog_14_method_41_code_1 25 rfl rfl rfl) (zd_b zq_prog_14_method_41_code_1 26 rfl rfl rfl) (by decide +kernel)
theorem d_Mm_lastPlace_59 : decode prog_14_method_41_code 59 = .ok (.iconst 1, 1) := zo_4 (zd_b zq_prog_14_method_41_code_1 27 rfl rfl rfl)
theorem d_Mm_lastPlace_60 : decode prog_14_method_41_code 60 = .ok (.goto 4, 3) := zo_167 (d := 0) (e := 4) (zd_b zq_prog_14_method_41_code_1 28 rfl rfl rfl) (zd_b zq_prog_14_method_41_code_1 29 rfl rfl rfl) (zd_b zq_prog_14_method_41_code_1 30 rfl rfl rfl) (by decide +kernel)
theorem d_Mm_lastPlace_71 : decode prog_14_method_41_code 71 = .ok (.iload_n 2, 1) := zo_28 (zd_b zq_prog_14_method_41_code_2 7 rfl rfl rfl)
theorem d_Mm_lastPlace_72 : decode prog_14_method_41_code 72 = .ok (.iconst (-1), 1) := zo_2 (zd_b zq_prog_14_method_41_code_2 8 rfl rfl rfl)
theorem d_Mm_lastPlace_73 : decode prog_14_method_41_code 73 = .ok (.if_icmp .eq 18, 3) := zo_159 (d := 0) (e := 18) (zd_b zq_prog_14_method_41_code_2 9 rfl rfl rfl) (zd_b zq_prog_14_method_41_code_2 10 rfl rfl rfl) (zd_b zq_prog_14_method_41_code_2 11 rfl rfl rfl) (by decide +kernel)
theorem d_Mm_lastPlace_91 : decode prog_14_method_41_code 91 = .ok (.iload_n 3, 1) := zo_29 (zd_b zq_prog_14_method_41_code_2 27 rfl rfl rfl)
theorem d_Mm_lastPlace_92 : decode prog_14_method_41_code 92 = .ok (.goto 4, 3) := zo_167 (d := 0) (e := 4) (zd_b zq_prog_14_method_41_code_2 28 rfl rfl rfl) (zd_b zq_prog_14_method_41_code_2 29 rfl rfl rfl) (zd_b zq_prog_14_method_41_code_2 30 rfl rfl rfl) (by decide +kernel)
theorem d_Mm_lastPlace_76 : decode prog_14_method_41_code 76 = .ok (.aload_n 0, 1) := zo_42 (zd_b zq_prog_14_method_41_code_2 12 rfl rfl rfl)
theorem d_Mm_lastPlace_77 : decode prog_14_method_41_code 77 = .ok (.getfield 30, 3) := zo_180 (d := 0) (e := 30) (zd_b zq_prog_14_method_41_code_2 13 rfl rfl rfl) (zd_b zq_prog_14_method_41_code_2 14 rfl rfl rfl) (zd_b zq_prog_14_method_41_code_2 15 rfl rfl rfl)
theorem d_Mm_lastPlace_80 : decode prog_14_method_41_code 80 = .ok (.iload_n 3, 1) := zo_29 (zd_b zq_prog_14_method_41_code_2 16 rfl rfl rfl)
theorem d_Mm_lastPlace_81 : decode prog_14_method_41_code 81 = .ok (.iaload, 1) := zo_46 (zd_b zq_prog_14_method_41_code_2 17 rfl rfl rfl)
theorem d_Mm_lastPlace_82 : decode prog_14_method_41_code 82 = .ok (.aload_n 0, 1) := zo_42 (zd_b zq_prog_14_method_41_code_2 18 rfl rfl rfl)
theorem d_Mm_lastPlace_83 : decode prog_14_method_41_code 83 = .ok (.getfield 30, 3) := zo_180 (d := 0) (e := 30) (zd_b zq_prog_14_method_41_code_2 19 rfl rfl rfl) (zd_b zq_prog_14_method_41_code_2 20 rfl rfl rfl) (zd_b zq_prog_14_method_41_code_2 21 rfl rfl rfl)
theorem d_Mm_lastPlace_86 : decode prog_14_method_41_code 86 = .ok (.iload_n 2, 1) := zo_28 (zd_b zq_prog_14_method_41_code_2 22 rfl rfl rfl)
theorem d_Mm_lastPlace_87 : decode prog_14_method_41_code 87 = .ok (.iaload, 1) := zo_46 (zd_b zq_prog_14_method_41_code_2 23 rfl rfl rfl)
theorem d_Mm_lastPlace_88 : decode prog_14_method_41_code 88 = .ok (.if_icmp .le 7, 3) := zo_164 (d := 0) (e := 7) (zd_b zq_prog_14_method_41_code_2 24 rfl rfl rfl) (zd_b zq_prog_14_method_41_code_2 25 rfl rfl rfl) (zd_b zq_prog_14_method_41_code_2 26 rfl rfl rfl) (by decide +kernel)
set_option maxHeartbeats 4000000 in
set_option maxRecDepth 100000 in
theorem L_Mm_lastPlaceW_32 (g : zG) (m mp mf mh mn mt mz mc_ mq mgr ml mi mr mm mu mk mx : Nat) (th pt cl wa co_ fi bu ho lh mg wd fpi fal : Int32) (po de : Int64) (f fl he nx mtt fz ic : Nat → Int32) (qn : Nat → Nat) (h : Int32) (hh : 1200 ≤ h ∧ h ≤ 1500) (w0 : zW) (n : Nat) : ∀ (d i : Nat) (fl he nx mtt fz ic : Nat → Int32) (qn : Nat → Nat) (fo : Int32), i ≤ 108 → 108 < i + d → (fo = -1 ∨ ∃ c9 : Nat, c9 < 108 ∧ fo = nI c9) → DV g M_Mm_lastPlace (fun o cs1 => ∃ (v9 th9 : Int32) (fl9 he9 nx9 mt9 fz9 ic9 : Nat → Int32) (qn9 : Nat → Nat), o = .inl (some (.int v9)) ∧ cs1 = [(m, .inr (12, [.int th9, .ref mp, .int pt, .ref mf, .ref mh, .ref mn, .ref mt, .ref mz, .ref mc_, .ref mq, .ref mgr, .int cl, .int wa, .int co_, .int fi, .int bu, .int ho, .ref ml, .ref mi, .ref mr, .int lh, .int mg, .int wd, .int fpi, .int fal, .ref mm, .ref mu, .ref mk, .ref mx, .long po, .long de])), (mp, .inl (1, 108, .inl f)), (mf, .inl (0, 108, .inl fl9)), (mh, .inl (0, 108, .inl he9)), (mt, .inl (0, 108, .inl mt9)), (mz, .inl (0, 108, .inl fz9)), (mn, .inl (0, 108, .inl nx9)), (mc_, .inl (2, 108, .inl ic9)), (mq, .inl (0, 108, .inl (fun k => nI (qn9 k))))]) w0 n 32 [(3, .int (nI i)), (2, .int fo), (0, .ref m)] [] [(m, .inr (12, [.int 0, .ref mp, .int pt, .ref mf, .ref mh, .ref mn, .ref mt, .ref mz, .ref mc_, .ref mq, .ref mgr, .int cl, .int wa, .int co_, .int fi, .int bu, .int ho, .ref ml, .ref mi, .ref mr, .int lh, .int mg, .int wd, .int fpi, .int fal, .ref mm, .ref mu, .ref mk, .ref mx, .long po, .long de])), (mp, .inl (1, 108, .inl f)), (mf, .inl (0, 108, .inl fl)), (mh, .inl (0, 108, .inl he)), (mt, .inl (0, 108, .inl mtt)), (mz, .inl (0, 108, .inl fz)), (mn, .inl (0, 108, .inl nx)), (mc_, .inl (2, 108, .inl ic)), (mq, .inl (0, 108, .inl (fun k => nI (qn k))))] 0 0 := by
  intro d
  induction d with
  | zero => intro i fl he nx mtt fz ic qn fo h1 h2 v1; exact absurd h2 (by omega)
  | succ d ih =>
    intro i fl he nx mtt fz ic qn fo h1 h2 v1
    refine r_iload_n d_Mm_lastPlace_32 rfl 0 rfl ?_
    refine r_bipush d_Mm_lastPlace_33 (v := 108) (by decide) ?_
    refine r_icmp_ge (tgt := 103) d_Mm_lastPlace_35 (by decide) (fun c_35 => ?_) (fun c_35 => ?_)
    · have hn := z_le (a := 108) (by omega) (by decide) c_35
      obtain rfl : i = 108 := by omega
      refine r_aload_n d_Mm_lastPlace_103 rfl 2 rfl ?_
      refine r_iload_n d_Mm_lastPlace_104 rfl 1 rfl ?_
      refine r_iconst d_Mm_lastPlace_105 (v := (-1)) (by decide) ?_
      refine r_icmp_ne (tgt := 113) d_Mm_lastPlace_106 (by decide) (fun c_106 => ?_) (fun c_106 => ?_)
      · refine r_iconst d_Mm_lastPlace_113 (v := 0) (by decide) ?_
        refine r_iconst d_Mm_lastPlace_114 (v := 2) (by decide) ?_
        refine r_callV (As := [.int 0, .int 2]) (rest := []) (csC := [(m, .inr (12, [.int 0, .ref mp, .int pt, .ref mf, .ref mh, .ref mn, .ref mt, .ref mz, .ref mc_, .ref mq, .ref mgr, .int cl, .int wa, .int co_, .int fi, .int bu, .int ho, .ref ml, .ref mi, .ref mr, .int lh, .int mg, .int wd, .int fpi, .int fal, .ref mm, .ref mu, .ref mk, .ref mx, .long po, .long de]))]) (is := [0]) (q0 := 0) rfl rfl ln_Mm_103 w_im_Mm_fails w_se_Mm_fails ok_Mm_lastPlace_Mm_fails d_Mm_lastPlace_115 (C_Mm_fails0 g m mp mf mh mn mt mz mc_ mq mgr ml mi mr mm mu mk mx th pt cl wa co_ fi bu ho lh mg wd fpi fal po de 2) rfl rfl (Nat.le_of_ble_eq_true rfl) rfl (by decide) (by omega) (by omega) (fun E cs1 hx => ?_) (fun v cs1 hx => ?_)
        · exact absurd hx.1 (by simp)
        · obtain ⟨e1, rfl⟩ := hx
          cases e1
          refine ⟨rfl, ?_⟩
          refine r_st (st2 := [.int 0]) rfl ?_
          refine r_cs (cs2 := [(m, .inr (12, [.int 0, .ref mp, .int pt, .ref mf, .ref mh, .ref mn, .ref mt, .ref mz, .ref mc_, .ref mq, .ref mgr, .int cl, .int wa, .int co_, .int fi, .int bu, .int ho, .ref ml, .ref mi, .ref mr, .int lh, .int mg, .int wd, .int fpi, .int fal, .ref mm, .ref mu, .ref mk, .ref mx, .long po, .long de])), (mp, .inl (1, 108, .inl f)), (mf, .inl (0, 108, .inl fl)), (mh, .inl (0, 108, .inl he)), (mt, .inl (0, 108, .inl mtt)), (mz, .inl (0, 108, .inl fz)), (mn, .inl (0, 108, .inl nx)), (mc_, .inl (2, 108, .inl ic)), (mq, .inl (0, 108, .inl (fun k => nI (qn k))))]) rfl ?_
          refine r_if_eq (tgt := 125) d_Mm_lastPlace_118 (by decide) (fun c_118 => ?_) (fun c_118 => ?_)
          · refine r_iload_n d_Mm_lastPlace_125 rfl 1 rfl ?_
            refine r_iret d_Mm_lastPlace_126 rfl rfl ?_
            exact ⟨_, _, _, _, _, _, _, _, _, rfl, rfl⟩
          · exact absurd c_118 (by decide)
      · refine r_iconst d_Mm_lastPlace_109 (v := 1) (by decide) ?_
        refine r_goto (tgt := 114) d_Mm_lastPlace_110 (by decide) ?_
        refine r_iconst d_Mm_lastPlace_114 (v := 2) (by decide) ?_
        refine r_callV (As := [.int 1, .int 2]) (rest := []) (csC := [(m, .inr (12, [.int 0, .ref mp, .int pt, .ref mf, .ref mh, .ref mn, .ref mt, .ref mz, .ref mc_, .ref mq, .ref mgr, .int cl, .int wa, .int co_, .int fi, .int bu, .int ho, .ref ml, .ref mi, .ref mr, .int lh, .int mg, .int wd, .int fpi, .int fal, .ref mm, .ref mu, .ref mk, .ref mx, .long po, .long de]))]) (is := [0]) (q0 := 0) rfl rfl ln_Mm_103 w_im_Mm_fails w_se_Mm_fails ok_Mm_lastPlace_Mm_fails d_Mm_lastPlace_115 (C_Mm_fails2 g m mp mf mh mn mt mz mc_ mq mgr ml mi mr mm mu mk mx th pt cl wa co_ fi bu ho lh mg wd fpi fal po de) rfl rfl (Nat.le_of_ble_eq_true rfl) rfl (by decide) (by omega) (by omega) (fun E cs1 hx => ?_) (fun v cs1 hx => ?_)
        · exact absurd hx.1 (by simp)
        · obtain ⟨e1, rfl⟩ := hx
          cases e1
          refine ⟨rfl, ?_⟩
          refine r_st (st2 := [.int 1]) rfl ?_
          refine r_cs (cs2 := [(m, .inr (12, [.int 2, .ref mp, .int pt, .ref mf, .ref mh, .ref mn, .ref mt, .ref mz, .ref mc_, .ref mq, .ref mgr, .int cl, .int wa, .int co_, .int fi, .int bu, .int ho, .ref ml, .ref mi, .ref mr, .int lh, .int mg, .int wd, .int fpi, .int fal, .ref mm, .ref mu, .ref mk, .ref mx, .long po, .long de])), (mp, .inl (1, 108, .inl f)), (mf, .inl (0, 108, .inl fl)), (mh, .inl (0, 108, .inl he)), (mt, .inl (0, 108, .inl mtt)), (mz, .inl (0, 108, .inl fz)), (mn, .inl (0, 108, .inl nx)), (mc_, .inl (2, 108, .inl ic)), (mq, .inl (0, 108, .inl (fun k => nI (qn k))))]) rfl ?_
          refine r_if_eq (tgt := 125) d_Mm_lastPlace_118 (by decide) (fun c_118 => ?_) (fun c_118 => ?_)
          · exact absurd c_118 (by decide)
          · refine r_iconst d_Mm_lastPlace_121 (v := 0) (by decide) ?_
            refine r_goto (tgt := 126) d_Mm_lastPlace_122 (by decide) ?_
            refine r_iret d_Mm_lastPlace_126 rfl rfl ?_
            exact ⟨_, _, _, _, _, _, _, _, _, rfl, rfl⟩
    · have hn := z_nle (a := 108) (by omega) (by decide) c_35
      refine r_aload_n d_Mm_lastPlace_38 rfl 2 rfl ?_
      refine r_get fs_Mm_7 d_Mm_lastPlace_39 (q0 := 0) rfl rfl ?_
      refine r_iload_n d_Mm_lastPlace_42 rfl 0 rfl ?_
      refine r_cald d_Mm_lastPlace_43 (q0 := 1) rfl (vp_in_nI (by omega) (by omega)) (v := f i) (by rw [nI_clamp (by omega)]) ?_
      refine r_bipush d_Mm_lastPlace_44 (v := 99) (by decide) ?_
      refine r_icmp_ne (tgt := 63) d_Mm_lastPlace_46 (by decide) (fun c_46 => ?_) (fun c_46 => ?_)
      · refine r_iconst d_Mm_lastPlace_63 (v := 0) (by decide) ?_
        refine r_istore (lv' := [(4, .int 0), (3, .int (nI i)), (2, .int fo), (0, .ref m)]) d_Mm_lastPlace_64 (by decide) rfl ?_
        refine r_iload d_Mm_lastPlace_66 0 rfl ?_
        refine r_if_eq (tgt := 95) d_Mm_lastPlace_68 (by decide) (fun c_68 => ?_) (fun c_68 => ?_)
        · refine r_iload_n d_Mm_lastPlace_95 rfl 2 rfl ?_
          refine r_istore_n (lv' := [(2, .int fo), (4, .int 0), (3, .int (nI i)), (0, .ref m)]) d_Mm_lastPlace_96 rfl (by decide) rfl ?_
          refine r_iinc (lv' := [(3, .int (nI (i + 1))), (2, .int fo), (4, .int 0), (0, .ref m)]) (v := nI (i + 1)) d_Mm_lastPlace_97 (j := 2) rfl (nI_add _ _) (by decide) rfl ?_
          refine r_goto (tgt := 32) d_Mm_lastPlace_100 (by decide) ?_
          refine r_lv (lv' := [(3, .int (nI (i + 1))), (2, .int fo), (0, .ref m)]) [0, 1, 3] rfl ?_
          exact ih (i + 1) _ _ _ _ _ _ _ _ (by omega) (by omega) v1
        · exact absurd c_68 (by decide)
      · refine r_aload_n d_Mm_lastPlace_49 rfl 2 rfl ?_
        refine r_get fs_Mm_17 d_Mm_lastPlace_50 (q0 := 0) rfl rfl ?_
        refine r_iload_n d_Mm_lastPlace_53 rfl 0 rfl ?_
        refine r_iald d_Mm_lastPlace_54 (q0 := 2) rfl (vp_in_nI (by omega) (by omega)) (v := fl i) (by rw [nI_clamp (by omega)]) ?_
        refine r_iconst d_Mm_lastPlace_55 (v := (-1)) (by decide) ?_
        refine r_icmp_eq (tgt := 63) d_Mm_lastPlace_56 (by decide) (fun c_56 => ?_) (fun c_56 => ?_)
        · refine r_iconst d_Mm_lastPlace_63 (v := 0) (by decide) ?_
          refine r_istore (lv' := [(4, .int 0), (3, .int (nI i)), (2, .int fo), (0, .ref m)]) d_Mm_lastPlace_64 (by decide) rfl ?_
          refine r_iload d_Mm_lastPlace_66 0 rfl ?_
          refine r_if_eq (tgt := 95) d_Mm_lastPlace_68 (by decide) (fun c_68 => ?_) (fun c_68 => ?_)
          · refine r_iload_n d_Mm_lastPlace_95 rfl 2 rfl ?_
            refine r_istore_n (lv' := [(2, .int fo), (4, .int 0), (3, .int (nI i)), (0, .ref m)]) d_Mm_lastPlace_96 rfl (by decide) rfl ?_
            refine r_iinc (lv' := [(3, .int (nI (i + 1))), (2, .int fo), (4, .int 0), (0, .ref m)]) (v := nI (i + 1)) d_Mm_lastPlace_97 (j := 2) rfl (nI_add _ _) (by decide) rfl ?_
            refine r_goto (tgt := 32) d_Mm_lastPlace_100 (by decide) ?_
            refine r_lv (lv' := [(3, .int (nI (i + 1))), (2, .int fo), (0, .ref m)]) [0, 1, 3] rfl ?_
            exact ih (i + 1) _ _ _ _ _ _ _ _ (by omega) (by omega) v1
          · exact absurd c_68 (by decide)
        · refine r_iconst d_Mm_lastPlace_59 (v := 1) (by decide) ?_
          refine r_goto (tgt := 64) d_Mm_lastPlace_60 (by decide) ?_
          refine r_istore (lv' := [(4, .int 1), (3, .int (nI i)), (2, .int fo), (0, .ref m)]) d_Mm_lastPlace_64 (by decide) rfl ?_
          refine r_iload d_Mm_lastPlace_66 0 rfl ?_
          refine r_if_eq (tgt := 95) d_Mm_lastPlace_68 (by decide) (fun c_68 => ?_) (fun c_68 => ?_)
          · exact absurd c_68 (by decide)
          · refine r_iload_n d_Mm_lastPlace_71 rfl 2 rfl ?_
            refine r_iconst d_Mm_lastPlace_72 (v := (-1)) (by decide) ?_
            refine r_icmp_eq (tgt := 91) d_Mm_lastPlace_73 (by decide) (fun c_73 => ?_) (fun c_73 => ?_)
            · refine r_iload_n d_Mm_lastPlace_91 rfl 1 rfl ?_
              refine r_goto (tgt := 96) d_Mm_lastPlace_92 (by decide) ?_
              refine r_istore_n (lv' := [(2, .int (nI i)), (4, .int 1), (3, .int (nI i)), (0, .ref m)]) d_Mm_lastPlace_96 rfl (by decide) rfl ?_
              refine r_iinc (lv' := [(3, .int (nI (i + 1))), (2, .int (nI i)), (4, .int 1), (0, .ref m)]) (v := nI (i + 1)) d_Mm_lastPlace_97 (j := 2) rfl (nI_add _ _) (by decide) rfl ?_
              refine r_goto (tgt := 32) d_Mm_lastPlace_100 (by decide) ?_
              refine r_lv (lv' := [(3, .int (nI (i + 1))), (2, .int (nI i)), (0, .ref m)]) [0, 1, 3] rfl ?_
              exact ih (i + 1) _ _ _ _ _ _ _ _ (by omega) (by omega) (Or.inr ⟨i, by omega, rfl⟩)
            · obtain ⟨c9, hc9, rfl⟩ := v1.resolve_left c_73
              refine r_aload_n d_Mm_lastPlace_76 rfl 3 rfl ?_
              refine r_get fs_Mm_30 d_Mm_lastPlace_77 (q0 := 0) rfl rfl ?_
              refine r_iload_n d_Mm_lastPlace_80 rfl 1 rfl ?_
              refine r_iald d_Mm_lastPlace_81 (q0 := 5) rfl (vp_in_nI (by omega) (by omega)) (v := fz i) (by rw [nI_clamp (by omega)]) ?_
              refine r_aload_n d_Mm_lastPlace_82 rfl 3 rfl ?_
              refine r_get fs_Mm_30 d_Mm_lastPlace_83 (q0 := 0) rfl rfl ?_
              refine r_iload_n d_Mm_lastPlace_86 rfl 2 rfl ?_
              refine r_iald d_Mm_lastPlace_87 (q0 := 5) rfl (vp_in_nI (by omega) (by omega)) (v := fz c9) (by rw [nI_clamp (by omega)]) ?_
              refine r_icmp_le (tgt := 95) d_Mm_lastPlace_88 (by decide) (fun c_88 => ?_) (fun c_88 => ?_)
              · refine r_iload_n d_Mm_lastPlace_95 rfl 2 rfl ?_
                refine r_istore_n (lv' := [(2, .int (nI c9)), (4, .int 1), (3, .int (nI i)), (0, .ref m)]) d_Mm_lastPlace_96 rfl (by decide) rfl ?_
                refine r_iinc (lv' := [(3, .int (nI (i + 1))), (2, .int (nI c9)), (4, .int 1), (0, .ref m)]) (v := nI (i + 1)) d_Mm_lastPlace_97 (j := 2) rfl (nI_add _ _) (by decide) rfl ?_
                refine r_goto (tgt := 32) d_Mm_lastPlace_100 (by decide) ?_
                refine r_lv (lv' := [(3, .int (nI (i + 1))), (2, .int (nI c9)), (0, .ref m)]) [0, 1, 3] rfl ?_
                exact ih (i + 1) _ _ _ _ _ _ _ _ (by omega) (by omega) (Or.inr ⟨c9, hc9, rfl⟩)
              · refine r_iload_n d_Mm_lastPlace_91 rfl 1 rfl ?_
                refine r_goto (tgt := 96) d_Mm_lastPlace_92 (by decide) ?_
                refine r_istore_n (lv' := [(2, .int (nI i)), (4, .int 1), (3, .int (nI i)), (0, .ref m)]) d_Mm_lastPlace_96 rfl (by decide) rfl ?_
                refine r_iinc (lv' := [(3, .int (nI (i + 1))), (2, .int (nI i)), (4, .int 1), (0, .ref m)]) (v := nI (i + 1)) d_Mm_lastPlace_97 (j := 2) rfl (nI_add _ _) (by decide) rfl ?_
                refine r_goto (tgt := 32) d_Mm_lastPlace_100 (by decide) ?_
                refine r_lv (lv' := [(3, .int (nI (i + 1))), (2, .int (nI i)), (0, .ref m)]) [0, 1, 3] rfl ?_
                exact ih (i + 1) _ _ _ _ _ _ _ _ (by omega) (by omega) (Or.inr ⟨i, by omega, rfl⟩)
set_option maxHeartbeats 4000000 in
set_option maxRecDepth 100000 in
theorem C_Mm_lastPlaceW (g : zG) (m mp mf mh mn mt mz mc_ mq mgr ml mi mr mm mu mk mx : Nat) (th pt cl wa co_ fi bu ho lh mg wd fpi fal : Int32) (po de : Int64) (f fl he nx mtt fz ic : Nat → Int32) (qn : Nat → Nat) (h : Int32) (hh : 1200 ≤ h ∧ h ≤ 1500) : CT g M_Mm_lastPlace [.ref m, .int h] [(m, .inr (12, [.int th, .ref mp, .int pt, .ref mf, .ref mh, .ref mn, .ref mt, .ref mz, .ref mc_, .ref mq, .ref mgr, .int cl, .int wa, .int co_, .int fi, .int bu, .int ho, .ref ml, .ref mi, .ref mr, .int lh, .int mg, .int wd, .int fpi, .int fal, .ref mm, .ref mu, .ref mk, .ref mx, .long po, .long de])), (mp, .inl (1, 108, .inl f)), (mf, .inl (0, 108, .inl fl)), (mh, .inl (0, 108, .inl he)), (mt, .inl (0, 108, .inl mtt)), (mz, .inl (0, 108, .inl fz)), (mn, .inl (0, 108, .inl nx)), (mc_, .inl (2, 108, .inl ic)), (mq, .inl (0, 108, .inl (fun k => nI (qn k))))] (fun o cs1 => ∃ (v9 th9 : Int32) (fl9 he9 nx9 mt9 fz9 ic9 : Nat → Int32) (qn9 : Nat → Nat), o = .inl (some (.int v9)) ∧ cs1 = [(m, .inr (12, [.int th9, .ref mp, .int pt, .ref mf, .ref mh, .ref mn, .ref mt, .ref mz, .ref mc_, .ref mq, .ref mgr, .int cl, .int wa, .int co_, .int fi, .int bu, .int ho, .ref ml, .ref mi, .ref mr, .int lh, .int mg, .int wd, .int fpi, .int fal, .ref mm, .ref mu, .ref mk, .ref mx, .long po, .long de])), (mp, .inl (1, 108, .inl f)), (mf, .inl (0, 108, .inl fl9)), (mh, .inl (0, 108, .inl he9)), (mt, .inl (0, 108, .inl mt9)), (mz, .inl (0, 108, .inl fz9)), (mn, .inl (0, 108, .inl nx9)), (mc_, .inl (2, 108, .inl ic9)), (mq, .inl (0, 108, .inl (fun k => nI (qn9 k))))]) 0 0 := by
  refine z_of (by decide) rfl (Nat.le_of_ble_eq_true rfl) (fun w0 => ?_)
  refine r_lvE (lv2 := [(0, .ref m), (1, .int h)]) rfl ?_
  refine r_aload_n d_Mm_lastPlace_0 rfl 0 rfl ?_
  refine r_iconst d_Mm_lastPlace_1 (v := 0) (by decide) ?_
  refine r_put fp_Mm_84 d_Mm_lastPlace_2 (fun h => nomatch h) rfl rfl (q0 := 0) rfl (Nat.le_of_ble_eq_true rfl) (cs' := [(m, .inr (12, [.int 0, .ref mp, .int pt, .ref mf, .ref mh, .ref mn, .ref mt, .ref mz, .ref mc_, .ref mq, .ref mgr, .int cl, .int wa, .int co_, .int fi, .int bu, .int ho, .ref ml, .ref mi, .ref mr, .int lh, .int mg, .int wd, .int fpi, .int fal, .ref mm, .ref mu, .ref mk, .ref mx, .long po, .long de])), (mp, .inl (1, 108, .inl f)), (mf, .inl (0, 108, .inl fl)), (mh, .inl (0, 108, .inl he)), (mt, .inl (0, 108, .inl mtt)), (mz, .inl (0, 108, .inl fz)), (mn, .inl (0, 108, .inl nx)), (mc_, .inl (2, 108, .inl ic)), (mq, .inl (0, 108, .inl (fun k => nI (qn k))))]) rfl ?_
  refine r_aload_n d_Mm_lastPlace_5 rfl 0 rfl ?_
  refine r_iload_n d_Mm_lastPlace_6 rfl 1 rfl ?_
  refine r_callS (As := [.int h]) (rest := [.ref m]) (csC := []) (is := []) ln_Mm_163 w_st_Mm_noHeat ok_Mm_lastPlace_Mm_noHeat d_Mm_lastPlace_7 (C_Mm_noHeat0 g h hh) rfl rfl (Nat.le_of_ble_eq_true rfl) rfl (by decide) (by omega) (by omega) (fun E cs1 hx => ?_) (fun v cs1 hx => ?_)
  · exact absurd hx.1 (by simp)
  · obtain ⟨e1, rfl⟩ := hx
    cases e1
    refine ⟨rfl, ?_⟩
    refine r_st (st2 := [.int 0, .ref m]) rfl ?_
    refine r_cs (cs2 := [(m, .inr (12, [.int 0, .ref mp, .int pt, .ref mf, .ref mh, .ref mn, .ref mt, .ref mz, .ref mc_, .ref mq, .ref mgr, .int cl, .int wa, .int co_, .int fi, .int bu, .int ho, .ref ml, .ref mi, .ref mr, .int lh, .int mg, .int wd, .int fpi, .int fal, .ref mm, .ref mu, .ref mk, .ref mx, .long po, .long de])), (mp, .inl (1, 108, .inl f)), (mf, .inl (0, 108, .inl fl)), (mh, .inl (0, 108, .inl he)), (mt, .inl (0, 108, .inl mtt)), (mz, .inl (0, 108, .inl fz)), (mn, .inl (0, 108, .inl nx)), (mc_, .inl (2, 108, .inl ic)), (mq, .inl (0, 108, .inl (fun k => nI (qn k))))]) rfl ?_
    refine r_iconst d_Mm_lastPlace_10 (v := 1) (by decide) ?_
    refine r_callV (As := [.int 0, .int 1]) (rest := []) (csC := [(m, .inr (12, [.int 0, .ref mp, .int pt, .ref mf, .ref mh, .ref mn, .ref mt, .ref mz, .ref mc_, .ref mq, .ref mgr, .int cl, .int wa, .int co_, .int fi, .int bu, .int ho, .ref ml, .ref mi, .ref mr, .int lh, .int mg, .int wd, .int fpi, .int fal, .ref mm, .ref mu, .ref mk, .ref mx, .long po, .long de]))]) (is := [0]) (q0 := 0) rfl rfl ln_Mm_103 w_im_Mm_fails w_se_Mm_fails ok_Mm_lastPlace_Mm_fails d_Mm_lastPlace_11 (C_Mm_fails0 g m mp mf mh mn mt mz mc_ mq mgr ml mi mr mm mu mk mx th pt cl wa co_ fi bu ho lh mg wd fpi fal po de 1) rfl rfl (Nat.le_of_ble_eq_true rfl) rfl (by decide) (by omega) (by omega) (fun E cs1 hx => ?_) (fun v cs1 hx => ?_)
    · exact absurd hx.1 (by simp)
    · obtain ⟨e1, rfl⟩ := hx
      cases e1
      refine ⟨rfl, ?_⟩
      refine r_st (st2 := [.int 0]) rfl ?_
      refine r_cs (cs2 := [(m, .inr (12, [.int 0, .ref mp, .int pt, .ref mf, .ref mh, .ref mn, .ref mt, .ref mz, .ref mc_, .ref mq, .ref mgr, .int cl, .int wa, .int co_, .int fi, .int bu, .int ho, .ref ml, .ref mi, .ref mr, .int lh, .int mg, .int wd, .int fpi, .int fal, .ref mm, .ref mu, .ref mk, .ref mx, .long po, .long de])), (mp, .inl (1, 108, .inl f)), (mf, .inl (0, 108, .inl fl)), (mh, .inl (0, 108, .inl he)), (mt, .inl (0, 108, .inl mtt)), (mz, .inl (0, 108, .inl fz)), (mn, .inl (0, 108, .inl nx)), (mc_, .inl (2, 108, .inl ic)), (mq, .inl (0, 108, .inl (fun k => nI (qn k))))]) rfl ?_
      refine r_if_eq (tgt := 19) d_Mm_lastPlace_14 (by decide) (fun c_14 => ?_) (fun c_14 => ?_)
      · refine r_aload_n d_Mm_lastPlace_19 rfl 0 rfl ?_
        refine r_aload_n d_Mm_lastPlace_20 rfl 0 rfl ?_
        refine r_get fs_Mm_7 d_Mm_lastPlace_21 (q0 := 0) rfl rfl ?_
        refine r_iload_n d_Mm_lastPlace_24 rfl 1 rfl ?_
        refine r_callV (As := [.ref mp, .int h]) (rest := []) (csC := [(m, .inr (12, [.int 0, .ref mp, .int pt, .ref mf, .ref mh, .ref mn, .ref mt, .ref mz, .ref mc_, .ref mq, .ref mgr, .int cl, .int wa, .int co_, .int fi, .int bu, .int ho, .ref ml, .ref mi, .ref mr, .int lh, .int mg, .int wd, .int fpi, .int fal, .ref mm, .ref mu, .ref mk, .ref mx, .long po, .long de])), (mp, .inl (1, 108, .inl f)), (mf, .inl (0, 108, .inl fl)), (mh, .inl (0, 108, .inl he)), (mt, .inl (0, 108, .inl mtt)), (mz, .inl (0, 108, .inl fz)), (mn, .inl (0, 108, .inl nx))]) (is := [0, 1, 2, 3, 4, 5, 6]) (q0 := 0) rfl rfl ln_Mm_167 w_im_Mm_freeze w_se_Mm_freeze ok_Mm_lastPlace_Mm_freeze d_Mm_lastPlace_25 (C_Mm_freezeW g m mp mf mh mn mt mz mc_ mq mgr ml mi mr mm mu mk mx 0 pt cl wa co_ fi bu ho lh mg wd fpi fal po de mp f fl he nx mtt fz h) rfl rfl (Nat.le_of_ble_eq_true rfl) rfl (by decide) (by omega) (by omega) (fun E cs1 hx => ?_) (fun v cs1 hx => ?_)
        · obtain ⟨fl9, he9, nx9, mt9, fz9, e1, -⟩ := hx
          cases e1
        · obtain ⟨fl9, he9, nx9, mt9, fz9, e1, rfl⟩ := hx
          cases e1
          refine ⟨rfl, ?_⟩
          refine r_st (st2 := []) rfl ?_
          refine r_cs (cs2 := [(m, .inr (12, [.int 0, .ref mp, .int pt, .ref mf, .ref mh, .ref mn, .ref mt, .ref mz, .ref mc_, .ref mq, .ref mgr, .int cl, .int wa, .int co_, .int fi, .int bu, .int ho, .ref ml, .ref mi, .ref mr, .int lh, .int mg, .int wd, .int fpi, .int fal, .ref mm, .ref mu, .ref mk, .ref mx, .long po, .long de])), (mp, .inl (1, 108, .inl f)), (mf, .inl (0, 108, .inl fl9)), (mh, .inl (0, 108, .inl he9)), (mt, .inl (0, 108, .inl mt9)), (mz, .inl (0, 108, .inl fz9)), (mn, .inl (0, 108, .inl nx9)), (mc_, .inl (2, 108, .inl ic)), (mq, .inl (0, 108, .inl (fun k => nI (qn k))))]) rfl ?_
          refine r_iconst d_Mm_lastPlace_28 (v := (-1)) (by decide) ?_
          refine r_istore_n (lv' := [(2, .int (-1)), (0, .ref m), (1, .int h)]) d_Mm_lastPlace_29 rfl (by decide) rfl ?_
          refine r_iconst d_Mm_lastPlace_30 (v := 0) (by decide) ?_
          refine r_istore_n (lv' := [(3, .int 0), (2, .int (-1)), (0, .ref m), (1, .int h)]) d_Mm_lastPlace_31 rfl (by decide) rfl ?_
          refine r_lv (lv' := [(3, .int 0), (2, .int (-1)), (0, .ref m)]) [0, 1, 2] rfl ?_
          exact L_Mm_lastPlaceW_32 g m mp mf mh mn mt mz mc_ mq mgr ml mi mr mm mu mk mx th pt cl wa co_ fi bu ho lh mg wd fpi fal po de f fl he nx mtt fz ic qn h hh w0 _  (108 + 1) 0 _ _ _ _ _ _ _ _ (Nat.zero_le _) (by omega) (Or.inl rfl)
      · exact absurd c_14 (by decide)
theorem d_Mm_bestFeeder_127 : decode prog_14_method_43_code 127 = .ok (.iconst 0, 1) := zo_3 (zd_b zq_prog_14_method_43_code_3 31 rfl rfl rfl)
theorem d_Mm_bestFeeder_139 : decode prog_14_method_43_code 139 = .ok (.iload_n 2, 1) := zo_28 (zd_b zq_prog_14_method_43_code_4 11 rfl rfl rfl)
theorem d_Mm_bestFeeder_62 : decode prog_14_method_43_code 62 = .ok (.aload_n 0, 1) := zo_42 (zd_b zq_prog_14_method_43_code_1 30 rfl rfl rfl)
theorem d_Mm_bestFeeder_63 : decode prog_14_method_43_code 63 = .ok (.getfield 7, 3) := zo_180 (d := 0) (e := 7) (zd_b zq_prog_14_method_43_code_1 31 rfl rfl rfl) (zd_b zq_prog_14_method_43_code_2 0 rfl rfl rfl) (zd_b zq_prog_14_method_43_code_2 1 rfl rfl rfl)
theorem d_Mm_bestFeeder_66 : decode prog_14_method_43_code 66 = .ok (.iload 4, 2) := zo_21 (d := 4) (zd_b zq_prog_14_method_43_code_2 2 rfl rfl rfl) (zd_b zq_prog_14_method_43_code_2 3 rfl rfl rfl)
theorem d_Mm_bestFeeder_68 : decode prog_14_method_43_code 68 = .ok (.bipush 114, 2) := zo_16 (d := 114) (zd_b zq_prog_14_method_43_code_2 4 rfl rfl rfl) (zd_b zq_prog_14_method_43_code_2 5 rfl rfl rfl) (by decide +kernel)
theorem d_Mm_bestFeeder_70 : decode prog_14_method_43_code 70 = .ok (.castore, 1) := zo_85 (zd_b zq_prog_14_method_43_code_2 6 rfl rfl rfl)
theorem d_Mm_bestFeeder_71 : decode prog_14_method_43_code 71 = .ok (.aload_n 0, 1) := zo_42 (zd_b zq_prog_14_method_43_code_2 7 rfl rfl rfl)
theorem d_Mm_bestFeeder_72 : decode prog_14_method_43_code 72 = .ok (.aload_n 0, 1) := zo_42 (zd_b zq_prog_14_method_43_code_2 8 rfl rfl rfl)
theorem d_Mm_bestFeeder_73 : decode prog_14_method_43_code 73 = .ok (.getfield 7, 3) := zo_180 (d := 0) (e := 7) (zd_b zq_prog_14_method_43_code_2 9 rfl rfl rfl) (zd_b zq_prog_14_method_43_code_2 10 rfl rfl rfl) (zd_b zq_prog_14_method_43_code_2 11 rfl rfl rfl)
theorem d_Mm_bestFeeder_76 : decode prog_14_method_43_code 76 = .ok (.iload_n 1, 1) := zo_27 (zd_b zq_prog_14_method_43_code_2 12 rfl rfl rfl)
theorem d_Mm_bestFeeder_77 : decode prog_14_method_43_code 77 = .ok (.invokevirtual 173, 3) := zo_182 (d := 0) (e := 173) (zd_b zq_prog_14_method_43_code_2 13 rfl rfl rfl) (zd_b zq_prog_14_method_43_code_2 14 rfl rfl rfl) (zd_b zq_prog_14_method_43_code_2 15 rfl rfl rfl)
theorem d_Mm_bestFeeder_80 : decode prog_14_method_43_code 80 = .ok (.istore 5, 2) := zo_54 (d := 5) (zd_b zq_prog_14_method_43_code_2 16 rfl rfl rfl) (zd_b zq_prog_14_method_43_code_2 17 rfl rfl rfl)
theorem d_Mm_bestFeeder_82 : decode prog_14_method_43_code 82 = .ok (.aload_n 0, 1) := zo_42 (zd_b zq_prog_14_method_43_code_2 18 rfl rfl rfl)
theorem d_Mm_bestFeeder_83 : decode prog_14_method_43_code 83 = .ok (.getfield 7, 3) := zo_180 (d := 0) (e := 7) (zd_b zq_prog_14_method_43_code_2 19 rfl rfl rfl) (zd_b zq_prog_14_method_43_code_2 20 rfl rfl rfl) (zd_b zq_prog_14_method_43_code_2 21 rfl rfl rfl)
theorem d_Mm_bestFeeder_86 : decode prog_14_method_43_code 86 = .ok (.iload 4, 2) := zo_21 (d := 4) (zd_b zq_prog_14_method_43_code_2 22 rfl rfl rfl) (zd_b zq_prog_14_method_43_code_2 23 rfl rfl rfl)
theorem d_Mm_bestFeeder_88 : decode prog_14_method_43_code 88 = .ok (.bipush 46, 2) := zo_16 (d := 46) (zd_b zq_prog_14_method_43_code_2 24 rfl rfl rfl) (zd_b zq_prog_14_method_43_code_2 25 rfl rfl rfl) (by decide +kernel)
theorem d_Mm_bestFeeder_90 : decode prog_14_method_43_code 90 = .ok (.castore, 1) := zo_85 (zd_b zq_prog_14_method_43_code_2 26 rfl rfl rfl)
theorem d_Mm_bestFeeder_91 : decode prog_14_method_43_code 91 = .ok (.iload 5, 2) := zo_21 (d := 5) (zd_b zq_prog_14_method_43_code_2 27 rfl rfl rfl) (zd_b zq_prog_14_method_43_code_2 28 rfl rfl rfl)
theorem d_Mm_bestFeeder_93 : decode prog_14_method_43_code 93 = .ok (.iload_n 3, 1) := zo_29 (zd_b zq_prog_14_method_43_code_2 29 rfl rfl rfl)
theorem d_Mm_bestFeeder_94 : decode prog_14_method_43_code 94 = .ok (.if_icmp .ge 8, 3) := zo_162 (d := 0) (e := 8) (zd_b zq_prog_14_method_43_code_2 30 rfl rfl rfl) (zd_b zq_prog_14_method_43_code_2 31 rfl rfl rfl) (zd_b zq_prog_14_method_43_code_3 0 rfl rfl rfl) (by decide +kernel)
theorem d_Mm_bestFeeder_102 : decode prog_14_method_43_code 102 = .ok (.iload_n 2, 1) := zo_28 (zd_b zq_prog_14_method_43_code_3 6 rfl rfl rfl)
theorem d_Mm_bestFeeder_103 : decode prog_14_method_43_code 103 = .ok (.istore_n 2, 1) := zo_61 (zd_b zq_prog_14_method_43_code_3 7 rfl rfl rfl)
theorem d_Mm_bestFeeder_104 : decode prog_14_method_43_code 104 = .ok (.iload_n 3, 1) := zo_29 (zd_b zq_prog_14_method_43_code_3 8 rfl rfl rfl)
theorem d_Mm_bestFeeder_105 : decode prog_14_method_43_code 105 = .ok (.iload 5, 2) := zo_21 (d := 5) (zd_b zq_prog_14_method_43_code_3 9 rfl rfl rfl) (zd_b zq_prog_14_method_43_code_3 10 rfl rfl rfl)
theorem d_Mm_bestFeeder_107 : decode prog_14_method_43_code 107 = .ok (.invokestatic 182, 3) := zo_184 (d := 0) (e := 182) (zd_b zq_prog_14_method_43_code_3 11 rfl rfl rfl) (zd_b zq_prog_14_method_43_code_3 12 rfl rfl rfl) (zd_b zq_prog_14_method_43_code_3 13 rfl rfl rfl)
theorem d_Mm_bestFeeder_110 : decode prog_14_method_43_code 110 = .ok (.istore_n 3, 1) := zo_62 (zd_b zq_prog_14_method_43_code_3 14 rfl rfl rfl)
theorem d_Mm_bestFeeder_97 : decode prog_14_method_43_code 97 = .ok (.iload 4, 2) := zo_21 (d := 4) (zd_b zq_prog_14_method_43_code_3 1 rfl rfl rfl) (zd_b zq_prog_14_method_43_code_3 2 rfl rfl rfl)
theorem d_Mm_bestFeeder_99 : decode prog_14_method_43_code 99 = .ok (.goto 4, 3) := zo_167 (d := 0) (e := 4) (zd_b zq_prog_14_method_43_code_3 3 rfl rfl rfl) (zd_b zq_prog_14_method_43_code_3 4 rfl rfl rfl) (zd_b zq_prog_14_method_43_code_3 5 rfl rfl rfl) (by decide +kernel)
set_option maxHeartbeats 4000000 in
set_option maxRecDepth 100000 in
theorem L_Mm_bestFeederW_34 (g : zG) (m mp mf mh mn mt mz mc_ mq mgr ml mi mr mm mu mk mx : Nat) (th pt cl wa co_ fi bu ho lh mg wd fpi fal : Int32) (po de : Int64) (f fl he nx mtt fz ic : Nat → Int32) (qn : Nat → Nat) (h : Int32) (hh : 1200 ≤ h ∧ h ≤ 1500) (w0 : zW) (n : Nat) : ∀ (d i : Nat) (fl he nx mtt fz ic : Nat → Int32) (qn : Nat → Nat) (few fo : Int32), i ≤ 108 → 108 < i + d → DV g M_Mm_bestFeeder (fun o cs1 => ∃ (v9 th9 : Int32) (fl9 he9 nx9 mt9 fz9 ic9 : Nat → Int32) (qn9 : Nat → Nat), o = .inl (some (.int v9)) ∧ cs1 = [(m, .inr (12, [.int th9, .ref mp, .int pt, .ref mf, .ref mh, .ref mn, .ref mt, .ref mz, .ref mc_, .ref mq, .ref mgr, .int cl, .int wa, .int co_, .int fi, .int bu, .int ho, .ref ml, .ref mi, .ref mr, .int lh, .int mg, .int wd, .int fpi, .int fal, .ref mm, .ref mu, .ref mk, .ref mx, .long po, .long de])), (mp, .inl (1, 108, .inl f)), (mf, .inl (0, 108, .inl fl9)), (mh, .inl (0, 108, .inl he9)), (mt, .inl (0, 108, .inl mt9)), (mz, .inl (0, 108, .inl fz9)), (mn, .inl (0, 108, .inl nx9)), (mc_, .inl (2, 108, .inl ic9)), (mq, .inl (0, 108, .inl (fun k => nI (qn9 k))))]) w0 n 34 [(4, .int (nI i)), (3, .int few), (2, .int fo), (0, .ref m), (1, .int h)] [] [(m, .inr (12, [.int 0, .ref mp, .int pt, .ref mf, .ref mh, .ref mn, .ref mt, .ref mz, .ref mc_, .ref mq, .ref mgr, .int cl, .int wa, .int co_, .int fi, .int bu, .int ho, .ref ml, .ref mi, .ref mr, .int lh, .int mg, .int wd, .int fpi, .int fal, .ref mm, .ref mu, .ref mk, .ref mx, .long po, .long de])), (mp, .inl (1, 108, .inl f)), (mf, .inl (0, 108, .inl fl)), (mh, .inl (0, 108, .inl he)), (mt, .inl (0, 108, .inl mtt)), (mz, .inl (0, 108, .inl fz)), (mn, .inl (0, 108, .inl nx)), (mc_, .inl (2, 108, .inl ic)), (mq, .inl (0, 108, .inl (fun k => nI (qn k))))] 0 0 := by
  intro d
  induction d with
  | zero => intro i fl he nx mtt fz ic qn few fo h1 h2 ; exact absurd h2 (by omega)
  | succ d ih =>
    intro i fl he nx mtt fz ic qn few fo h1 h2 
    refine r_iload d_Mm_bestFeeder_34 0 rfl ?_
    refine r_bipush d_Mm_bestFeeder_36 (v := 108) (by decide) ?_
    refine r_icmp_ge (tgt := 117) d_Mm_bestFeeder_38 (by decide) (fun c_38 => ?_) (fun c_38 => ?_)
    · have hn := z_le (a := 108) (by omega) (by decide) c_38
      obtain rfl : i = 108 := by omega
      refine r_aload_n d_Mm_bestFeeder_117 rfl 3 rfl ?_
      refine r_iload_n d_Mm_bestFeeder_118 rfl 2 rfl ?_
      refine r_iconst d_Mm_bestFeeder_119 (v := (-1)) (by decide) ?_
      refine r_icmp_ne (tgt := 127) d_Mm_bestFeeder_120 (by decide) (fun c_120 => ?_) (fun c_120 => ?_)
      · refine r_iconst d_Mm_bestFeeder_127 (v := 0) (by decide) ?_
        refine r_iconst d_Mm_bestFeeder_128 (v := 2) (by decide) ?_
        refine r_callV (As := [.int 0, .int 2]) (rest := []) (csC := [(m, .inr (12, [.int 0, .ref mp, .int pt, .ref mf, .ref mh, .ref mn, .ref mt, .ref mz, .ref mc_, .ref mq, .ref mgr, .int cl, .int wa, .int co_, .int fi, .int bu, .int ho, .ref ml, .ref mi, .ref mr, .int lh, .int mg, .int wd, .int fpi, .int fal, .ref mm, .ref mu, .ref mk, .ref mx, .long po, .long de]))]) (is := [0]) (q0 := 0) rfl rfl ln_Mm_103 w_im_Mm_fails w_se_Mm_fails ok_Mm_bestFeeder_Mm_fails d_Mm_bestFeeder_129 (C_Mm_fails0 g m mp mf mh mn mt mz mc_ mq mgr ml mi mr mm mu mk mx th pt cl wa co_ fi bu ho lh mg wd fpi fal po de 2) rfl rfl (Nat.le_of_ble_eq_true rfl) rfl (by decide) (by omega) (by omega) (fun E cs1 hx => ?_) (fun v cs1 hx => ?_)
        · exact absurd hx.1 (by simp)
        · obtain ⟨e1, rfl⟩ := hx
          cases e1
          refine ⟨rfl, ?_⟩
          refine r_st (st2 := [.int 0]) rfl ?_
          refine r_cs (cs2 := [(m, .inr (12, [.int 0, .ref mp, .int pt, .ref mf, .ref mh, .ref mn, .ref mt, .ref mz, .ref mc_, .ref mq, .ref mgr, .int cl, .int wa, .int co_, .int fi, .int bu, .int ho, .ref ml, .ref mi, .ref mr, .int lh, .int mg, .int wd, .int fpi, .int fal, .ref mm, .ref mu, .ref mk, .ref mx, .long po, .long de])), (mp, .inl (1, 108, .inl f)), (mf, .inl (0, 108, .inl fl)), (mh, .inl (0, 108, .inl he)), (mt, .inl (0, 108, .inl mtt)), (mz, .inl (0, 108, .inl fz)), (mn, .inl (0, 108, .inl nx)), (mc_, .inl (2, 108, .inl ic)), (mq, .inl (0, 108, .inl (fun k => nI (qn k))))]) rfl ?_
          refine r_if_eq (tgt := 139) d_Mm_bestFeeder_132 (by decide) (fun c_132 => ?_) (fun c_132 => ?_)
          · refine r_iload_n d_Mm_bestFeeder_139 rfl 2 rfl ?_
            refine r_iret d_Mm_bestFeeder_140 rfl rfl ?_
            exact ⟨_, _, _, _, _, _, _, _, _, rfl, rfl⟩
          · exact absurd c_132 (by decide)
      · refine r_iconst d_Mm_bestFeeder_123 (v := 1) (by decide) ?_
        refine r_goto (tgt := 128) d_Mm_bestFeeder_124 (by decide) ?_
        refine r_iconst d_Mm_bestFeeder_128 (v := 2) (by decide) ?_
        refine r_callV (As := [.int 1, .int 2]) (rest := []) (csC := [(m, .inr (12, [.int 0, .ref mp, .int pt, .ref mf, .ref mh, .ref mn, .ref mt, .ref mz, .ref mc_, .ref mq, .ref mgr, .int cl, .int wa, .int co_, .int fi, .int bu, .int ho, .ref ml, .ref mi, .ref mr, .int lh, .int mg, .int wd, .int fpi, .int fal, .ref mm, .ref mu, .ref mk, .ref mx, .long po, .long de]))]) (is := [0]) (q0 := 0) rfl rfl ln_Mm_103 w_im_Mm_fails w_se_Mm_fails ok_Mm_bestFeeder_Mm_fails d_Mm_bestFeeder_129 (C_Mm_fails2 g m mp mf mh mn mt mz mc_ mq mgr ml mi mr mm mu mk mx th pt cl wa co_ fi bu ho lh mg wd fpi fal po de) rfl rfl (Nat.le_of_ble_eq_true rfl) rfl (by decide) (by omega) (by omega) (fun E cs1 hx => ?_) (fun v cs1 hx => ?_)
        · exact absurd hx.1 (by simp)
        · obtain ⟨e1, rfl⟩ := hx
          cases e1
          refine ⟨rfl, ?_⟩
          refine r_st (st2 := [.int 1]) rfl ?_
          refine r_cs (cs2 := [(m, .inr (12, [.int 2, .ref mp, .int pt, .ref mf, .ref mh, .ref mn, .ref mt, .ref mz, .ref mc_, .ref mq, .ref mgr, .int cl, .int wa, .int co_, .int fi, .int bu, .int ho, .ref ml, .ref mi, .ref mr, .int lh, .int mg, .int wd, .int fpi, .int fal, .ref mm, .ref mu, .ref mk, .ref mx, .long po, .long de])), (mp, .inl (1, 108, .inl f)), (mf, .inl (0, 108, .inl fl)), (mh, .inl (0, 108, .inl he)), (mt, .inl (0, 108, .inl mtt)), (mz, .inl (0, 108, .inl fz)), (mn, .inl (0, 108, .inl nx)), (mc_, .inl (2, 108, .inl ic)), (mq, .inl (0, 108, .inl (fun k => nI (qn k))))]) rfl ?_
          refine r_if_eq (tgt := 139) d_Mm_bestFeeder_132 (by decide) (fun c_132 => ?_) (fun c_132 => ?_)
          · exact absurd c_132 (by decide)
          · refine r_iconst d_Mm_bestFeeder_135 (v := 0) (by decide) ?_
            refine r_goto (tgt := 140) d_Mm_bestFeeder_136 (by decide) ?_
            refine r_iret d_Mm_bestFeeder_140 rfl rfl ?_
            exact ⟨_, _, _, _, _, _, _, _, _, rfl, rfl⟩
    · have hn := z_nle (a := 108) (by omega) (by decide) c_38
      refine r_aload_n d_Mm_bestFeeder_41 rfl 3 rfl ?_
      refine r_get fs_Mm_7 d_Mm_bestFeeder_42 (q0 := 0) rfl rfl ?_
      refine r_iload d_Mm_bestFeeder_45 0 rfl ?_
      refine r_cald d_Mm_bestFeeder_47 (q0 := 1) rfl (vp_in_nI (by omega) (by omega)) (v := f i) (by rw [nI_clamp (by omega)]) ?_
      refine r_bipush d_Mm_bestFeeder_48 (v := 46) (by decide) ?_
      refine r_icmp_ne (tgt := 111) d_Mm_bestFeeder_50 (by decide) (fun c_50 => ?_) (fun c_50 => ?_)
      · refine r_iinc (lv' := [(4, .int (nI (i + 1))), (3, .int few), (2, .int fo), (0, .ref m), (1, .int h)]) (v := nI (i + 1)) d_Mm_bestFeeder_111 (j := 0) rfl (nI_add _ _) (by decide) rfl ?_
        refine r_goto (tgt := 34) d_Mm_bestFeeder_114 (by decide) ?_
        exact ih (i + 1) _ _ _ _ _ _ _ _ _ (by omega) (by omega)
      · refine r_aload_n d_Mm_bestFeeder_53 rfl 3 rfl ?_
        refine r_iload d_Mm_bestFeeder_54 0 rfl ?_
        refine r_callV (As := [.int (nI i)]) (rest := []) (csC := [(m, .inr (12, [.int 0, .ref mp, .int pt, .ref mf, .ref mh, .ref mn, .ref mt, .ref mz, .ref mc_, .ref mq, .ref mgr, .int cl, .int wa, .int co_, .int fi, .int bu, .int ho, .ref ml, .ref mi, .ref mr, .int lh, .int mg, .int wd, .int fpi, .int fal, .ref mm, .ref mu, .ref mk, .ref mx, .long po, .long de])), (mp, .inl (1, 108, .inl f))]) (is := [0, 1]) (q0 := 0) rfl rfl ln_Mm_179 w_im_Mm_isBesideCasting w_se_Mm_isBesideCasting ok_Mm_bestFeeder_Mm_isBesideCasting d_Mm_bestFeeder_56 (C_Mm_isBesideCastingW g m mp mf mh mn mt mz mc_ mq mgr ml mi mr mm mu mk mx 0 pt cl wa co_ fi bu ho lh mg wd fpi fal po de f i (by omega)) rfl rfl (Nat.le_of_ble_eq_true rfl) rfl (by decide) (by omega) (by omega) (fun E cs1 hx => ?_) (fun v cs1 hx => ?_)
        · obtain ⟨v9, -, e1, -⟩ := hx
          cases e1
        · obtain ⟨v9, -, e1, rfl⟩ := hx
          cases e1
          refine ⟨rfl, ?_⟩
          refine r_st (st2 := [.int v9]) rfl ?_
          refine r_cs (cs2 := [(m, .inr (12, [.int 0, .ref mp, .int pt, .ref mf, .ref mh, .ref mn, .ref mt, .ref mz, .ref mc_, .ref mq, .ref mgr, .int cl, .int wa, .int co_, .int fi, .int bu, .int ho, .ref ml, .ref mi, .ref mr, .int lh, .int mg, .int wd, .int fpi, .int fal, .ref mm, .ref mu, .ref mk, .ref mx, .long po, .long de])), (mp, .inl (1, 108, .inl f)), (mf, .inl (0, 108, .inl fl)), (mh, .inl (0, 108, .inl he)), (mt, .inl (0, 108, .inl mtt)), (mz, .inl (0, 108, .inl fz)), (mn, .inl (0, 108, .inl nx)), (mc_, .inl (2, 108, .inl ic)), (mq, .inl (0, 108, .inl (fun k => nI (qn k))))]) rfl ?_
          refine r_if_eq (tgt := 111) d_Mm_bestFeeder_59 (by decide) (fun c_59 => ?_) (fun c_59 => ?_)
          · refine r_iinc (lv' := [(4, .int (nI (i + 1))), (3, .int few), (2, .int fo), (0, .ref m), (1, .int h)]) (v := nI (i + 1)) d_Mm_bestFeeder_111 (j := 0) rfl (nI_add _ _) (by decide) rfl ?_
            refine r_goto (tgt := 34) d_Mm_bestFeeder_114 (by decide) ?_
            exact ih (i + 1) _ _ _ _ _ _ _ _ _ (by omega) (by omega)
          · refine r_aload_n d_Mm_bestFeeder_62 rfl 3 rfl ?_
            refine r_get fs_Mm_7 d_Mm_bestFeeder_63 (q0 := 0) rfl rfl ?_
            refine r_iload d_Mm_bestFeeder_66 0 rfl ?_
            refine r_bipush d_Mm_bestFeeder_68 (v := 114) (by decide) ?_
            refine r_cast d_Mm_bestFeeder_70 (q0 := 1) rfl (vp_in_nI (by omega) (by omega)) (f' := upd f i 114) (by rw [nI_clamp (by omega)]; rfl) (cs' := [(m, .inr (12, [.int 0, .ref mp, .int pt, .ref mf, .ref mh, .ref mn, .ref mt, .ref mz, .ref mc_, .ref mq, .ref mgr, .int cl, .int wa, .int co_, .int fi, .int bu, .int ho, .ref ml, .ref mi, .ref mr, .int lh, .int mg, .int wd, .int fpi, .int fal, .ref mm, .ref mu, .ref mk, .ref mx, .long po, .long de])), (mp, .inl (1, 108, .inl (upd f i 114))), (mf, .inl (0, 108, .inl fl)), (mh, .inl (0, 108, .inl he)), (mt, .inl (0, 108, .inl mtt)), (mz, .inl (0, 108, .inl fz)), (mn, .inl (0, 108, .inl nx)), (mc_, .inl (2, 108, .inl ic)), (mq, .inl (0, 108, .inl (fun k => nI (qn k))))]) rfl ?_
            refine r_aload_n d_Mm_bestFeeder_71 rfl 3 rfl ?_
            refine r_aload_n d_Mm_bestFeeder_72 rfl 3 rfl ?_
            refine r_get fs_Mm_7 d_Mm_bestFeeder_73 (q0 := 0) rfl rfl ?_
            refine r_iload_n d_Mm_bestFeeder_76 rfl 4 rfl ?_
            refine r_callV (As := [.ref mp, .int h]) (rest := []) (csC := [(m, .inr (12, [.int 0, .ref mp, .int pt, .ref mf, .ref mh, .ref mn, .ref mt, .ref mz, .ref mc_, .ref mq, .ref mgr, .int cl, .int wa, .int co_, .int fi, .int bu, .int ho, .ref ml, .ref mi, .ref mr, .int lh, .int mg, .int wd, .int fpi, .int fal, .ref mm, .ref mu, .ref mk, .ref mx, .long po, .long de])), (mp, .inl (1, 108, .inl (upd f i 114))), (mf, .inl (0, 108, .inl fl)), (mh, .inl (0, 108, .inl he)), (mt, .inl (0, 108, .inl mtt)), (mz, .inl (0, 108, .inl fz)), (mn, .inl (0, 108, .inl nx)), (mc_, .inl (2, 108, .inl ic)), (mq, .inl (0, 108, .inl (fun k => nI (qn k))))]) (is := [0, 1, 2, 3, 4, 5, 6, 7, 8]) (q0 := 0) rfl rfl ln_Mm_173 w_im_Mm_shrunkOf w_se_Mm_shrunkOf ok_Mm_bestFeeder_Mm_shrunkOf d_Mm_bestFeeder_77 (C_Mm_shrunkOfW g m mp mf mh mn mt mz mc_ mq mgr ml mi mr mm mu mk mx 0 pt cl wa co_ fi bu ho lh mg wd fpi fal po de mp (upd f i 114) fl he nx mtt fz ic qn h) rfl rfl (Nat.le_of_ble_eq_true rfl) rfl (by decide) (by omega) (by omega) (fun E cs1 hx => ?_) (fun v cs1 hx => ?_)
            · obtain ⟨v9, fl9, he9, nx9, mt9, fz9, ic9, qn9, e1, -⟩ := hx
              cases e1
            · obtain ⟨v9, fl9, he9, nx9, mt9, fz9, ic9, qn9, e1, rfl⟩ := hx
              cases e1
              refine ⟨rfl, ?_⟩
              refine r_st (st2 := [.int v9]) rfl ?_
              refine r_cs (cs2 := [(m, .inr (12, [.int 0, .ref mp, .int pt, .ref mf, .ref mh, .ref mn, .ref mt, .ref mz, .ref mc_, .ref mq, .ref mgr, .int cl, .int wa, .int co_, .int fi, .int bu, .int ho, .ref ml, .ref mi, .ref mr, .int lh, .int mg, .int wd, .int fpi, .int fal, .ref mm, .ref mu, .ref mk, .ref mx, .long po, .long de])), (mp, .inl (1, 108, .inl (upd f i 114))), (mf, .inl (0, 108, .inl fl9)), (mh, .inl (0, 108, .inl he9)), (mt, .inl (0, 108, .inl mt9)), (mz, .inl (0, 108, .inl fz9)), (mn, .inl (0, 108, .inl nx9)), (mc_, .inl (2, 108, .inl ic9)), (mq, .inl (0, 108, .inl (fun k => nI (qn9 k))))]) rfl ?_
              refine r_istore (lv' := [(5, .int v9), (4, .int (nI i)), (3, .int few), (2, .int fo), (0, .ref m), (1, .int h)]) d_Mm_bestFeeder_80 (by decide) rfl ?_
              refine r_aload_n d_Mm_bestFeeder_82 rfl 4 rfl ?_
              refine r_get fs_Mm_7 d_Mm_bestFeeder_83 (q0 := 0) rfl rfl ?_
              refine r_iload d_Mm_bestFeeder_86 1 rfl ?_
              refine r_bipush d_Mm_bestFeeder_88 (v := 46) (by decide) ?_
              refine r_cast d_Mm_bestFeeder_90 (q0 := 1) rfl (vp_in_nI (by omega) (by omega)) (f' := f) (by rw [nI_clamp (by omega)]; exact upd_back c_50) (cs' := [(m, .inr (12, [.int 0, .ref mp, .int pt, .ref mf, .ref mh, .ref mn, .ref mt, .ref mz, .ref mc_, .ref mq, .ref mgr, .int cl, .int wa, .int co_, .int fi, .int bu, .int ho, .ref ml, .ref mi, .ref mr, .int lh, .int mg, .int wd, .int fpi, .int fal, .ref mm, .ref mu, .ref mk, .ref mx, .long po, .long de])), (mp, .inl (1, 108, .inl f)), (mf, .inl (0, 108, .inl fl9)), (mh, .inl (0, 108, .inl he9)), (mt, .inl (0, 108, .inl mt9)), (mz, .inl (0, 108, .inl fz9)), (mn, .inl (0, 108, .inl nx9)), (mc_, .inl (2, 108, .inl ic9)), (mq, .inl (0, 108, .inl (fun k => nI (qn9 k))))]) rfl ?_
              refine r_iload d_Mm_bestFeeder_91 0 rfl ?_
              refine r_iload_n d_Mm_bestFeeder_93 rfl 2 rfl ?_
              refine r_icmp_ge (tgt := 102) d_Mm_bestFeeder_94 (by decide) (fun c_94 => ?_) (fun c_94 => ?_)
              · refine r_iload_n d_Mm_bestFeeder_102 rfl 3 rfl ?_
                refine r_istore_n (lv' := [(2, .int fo), (5, .int v9), (4, .int (nI i)), (3, .int few), (0, .ref m), (1, .int h)]) d_Mm_bestFeeder_103 rfl (by decide) rfl ?_
                refine r_iload_n d_Mm_bestFeeder_104 rfl 3 rfl ?_
                refine r_iload d_Mm_bestFeeder_105 1 rfl ?_
                refine r_min (v := (if v9 < few then v9 else few)) ln_Mm_182 w_mmin w_mi w_cmin d_Mm_bestFeeder_107 (by decide) (by decide) (Nat.le_of_ble_eq_true rfl) rfl ?_
                refine r_istore_n (lv' := [(3, .int (if v9 < few then v9 else few)), (2, .int fo), (5, .int v9), (4, .int (nI i)), (0, .ref m), (1, .int h)]) d_Mm_bestFeeder_110 rfl (by decide) rfl ?_
                refine r_iinc (lv' := [(4, .int (nI (i + 1))), (3, .int (if v9 < few then v9 else few)), (2, .int fo), (5, .int v9), (0, .ref m), (1, .int h)]) (v := nI (i + 1)) d_Mm_bestFeeder_111 (j := 3) rfl (nI_add _ _) (by decide) rfl ?_
                refine r_goto (tgt := 34) d_Mm_bestFeeder_114 (by decide) ?_
                refine r_lv (lv' := [(4, .int (nI (i + 1))), (3, .int (if v9 < few then v9 else few)), (2, .int fo), (0, .ref m), (1, .int h)]) [0, 1, 2, 4, 5] rfl ?_
                exact ih (i + 1) _ _ _ _ _ _ _ _ _ (by omega) (by omega)
              · refine r_iload d_Mm_bestFeeder_97 1 rfl ?_
                refine r_goto (tgt := 103) d_Mm_bestFeeder_99 (by decide) ?_
                refine r_istore_n (lv' := [(2, .int (nI i)), (5, .int v9), (4, .int (nI i)), (3, .int few), (0, .ref m), (1, .int h)]) d_Mm_bestFeeder_103 rfl (by decide) rfl ?_
                refine r_iload_n d_Mm_bestFeeder_104 rfl 3 rfl ?_
                refine r_iload d_Mm_bestFeeder_105 1 rfl ?_
                refine r_min (v := (if v9 < few then v9 else few)) ln_Mm_182 w_mmin w_mi w_cmin d_Mm_bestFeeder_107 (by decide) (by decide) (Nat.le_of_ble_eq_true rfl) rfl ?_
                refine r_istore_n (lv' := [(3, .int (if v9 < few then v9 else few)), (2, .int (nI i)), (5, .int v9), (4, .int (nI i)), (0, .ref m), (1, .int h)]) d_Mm_bestFeeder_110 rfl (by decide) rfl ?_
                refine r_iinc (lv' := [(4, .int (nI (i + 1))), (3, .int (if v9 < few then v9 else few)), (2, .int (nI i)), (5, .int v9), (0, .ref m), (1, .int h)]) (v := nI (i + 1)) d_Mm_bestFeeder_111 (j := 3) rfl (nI_add _ _) (by decide) rfl ?_
                refine r_goto (tgt := 34) d_Mm_bestFeeder_114 (by decide) ?_
                refine r_lv (lv' := [(4, .int (nI (i + 1))), (3, .int (if v9 < few then v9 else few)), (2, .int (nI i)), (0, .ref m), (1, .int h)]) [0, 1, 2, 4, 5] rfl ?_
                exact ih (i + 1) _ _ _ _ _ _ _ _ _ (by omega) (by omega)
set_option maxHeartbeats 4000000 in
set_option maxRecDepth 100000 in
theorem C_Mm_bestFeederW (g : zG) (m mp mf mh mn mt mz mc_ mq mgr ml mi mr mm mu mk mx : Nat) (th pt cl wa co_ fi bu ho lh mg wd fpi fal : Int32) (po de : Int64) (f fl he nx mtt fz ic : Nat → Int32) (qn : Nat → Nat) (h : Int32) (hh : 1200 ≤ h ∧ h ≤ 1500) : CT g M_Mm_bestFeeder [.ref m, .int h] [(m, .inr (12, [.int th, .ref mp, .int pt, .ref mf, .ref mh, .ref mn, .ref mt, .ref mz, .ref mc_, .ref mq, .ref mgr, .int cl, .int wa, .int co_, .int fi, .int bu, .int ho, .ref ml, .ref mi, .ref mr, .int lh, .int mg, .int wd, .int fpi, .int fal, .ref mm, .ref mu, .ref mk, .ref mx, .long po, .long de])), (mp, .inl (1, 108, .inl f)), (mf, .inl (0, 108, .inl fl)), (mh, .inl (0, 108, .inl he)), (mt, .inl (0, 108, .inl mtt)), (mz, .inl (0, 108, .inl fz)), (mn, .inl (0, 108, .inl nx)), (mc_, .inl (2, 108, .inl ic)), (mq, .inl (0, 108, .inl (fun k => nI (qn k))))] (fun o cs1 => ∃ (v9 th9 : Int32) (fl9 he9 nx9 mt9 fz9 ic9 : Nat → Int32) (qn9 : Nat → Nat), o = .inl (some (.int v9)) ∧ cs1 = [(m, .inr (12, [.int th9, .ref mp, .int pt, .ref mf, .ref mh, .ref mn, .ref mt, .ref mz, .ref mc_, .ref mq, .ref mgr, .int cl, .int wa, .int co_, .int fi, .int bu, .int ho, .ref ml, .ref mi, .ref mr, .int lh, .int mg, .int wd, .int fpi, .int fal, .ref mm, .ref mu, .ref mk, .ref mx, .long po, .long de])), (mp, .inl (1, 108, .inl f)), (mf, .inl (0, 108, .inl fl9)), (mh, .inl (0, 108, .inl he9)), (mt, .inl (0, 108, .inl mt9)), (mz, .inl (0, 108, .inl fz9)), (mn, .inl (0, 108, .inl nx9)), (mc_, .inl (2, 108, .inl ic9)), (mq, .inl (0, 108, .inl (fun k => nI (qn9 k))))]) 0 0 := by
  refine z_of (by decide) rfl (Nat.le_of_ble_eq_true rfl) (fun w0 => ?_)
  refine r_lvE (lv2 := [(0, .ref m), (1, .int h)]) rfl ?_
  refine r_aload_n d_Mm_bestFeeder_0 rfl 0 rfl ?_
  refine r_iconst d_Mm_bestFeeder_1 (v := 0) (by decide) ?_
  refine r_put fp_Mm_84 d_Mm_bestFeeder_2 (fun h => nomatch h) rfl rfl (q0 := 0) rfl (Nat.le_of_ble_eq_true rfl) (cs' := [(m, .inr (12, [.int 0, .ref mp, .int pt, .ref mf, .ref mh, .ref mn, .ref mt, .ref mz, .ref mc_, .ref mq, .ref mgr, .int cl, .int wa, .int co_, .int fi, .int bu, .int ho, .ref ml, .ref mi, .ref mr, .int lh, .int mg, .int wd, .int fpi, .int fal, .ref mm, .ref mu, .ref mk, .ref mx, .long po, .long de])), (mp, .inl (1, 108, .inl f)), (mf, .inl (0, 108, .inl fl)), (mh, .inl (0, 108, .inl he)), (mt, .inl (0, 108, .inl mtt)), (mz, .inl (0, 108, .inl fz)), (mn, .inl (0, 108, .inl nx)), (mc_, .inl (2, 108, .inl ic)), (mq, .inl (0, 108, .inl (fun k => nI (qn k))))]) rfl ?_
  refine r_aload_n d_Mm_bestFeeder_5 rfl 0 rfl ?_
  refine r_iload_n d_Mm_bestFeeder_6 rfl 1 rfl ?_
  refine r_callS (As := [.int h]) (rest := [.ref m]) (csC := []) (is := []) ln_Mm_163 w_st_Mm_noHeat ok_Mm_bestFeeder_Mm_noHeat d_Mm_bestFeeder_7 (C_Mm_noHeat0 g h hh) rfl rfl (Nat.le_of_ble_eq_true rfl) rfl (by decide) (by omega) (by omega) (fun E cs1 hx => ?_) (fun v cs1 hx => ?_)
  · exact absurd hx.1 (by simp)
  · obtain ⟨e1, rfl⟩ := hx
    cases e1
    refine ⟨rfl, ?_⟩
    refine r_st (st2 := [.int 0, .ref m]) rfl ?_
    refine r_cs (cs2 := [(m, .inr (12, [.int 0, .ref mp, .int pt, .ref mf, .ref mh, .ref mn, .ref mt, .ref mz, .ref mc_, .ref mq, .ref mgr, .int cl, .int wa, .int co_, .int fi, .int bu, .int ho, .ref ml, .ref mi, .ref mr, .int lh, .int mg, .int wd, .int fpi, .int fal, .ref mm, .ref mu, .ref mk, .ref mx, .long po, .long de])), (mp, .inl (1, 108, .inl f)), (mf, .inl (0, 108, .inl fl)), (mh, .inl (0, 108, .inl he)), (mt, .inl (0, 108, .inl mtt)), (mz, .inl (0, 108, .inl fz)), (mn, .inl (0, 108, .inl nx)), (mc_, .inl (2, 108, .inl ic)), (mq, .inl (0, 108, .inl (fun k => nI (qn k))))]) rfl ?_
    refine r_iconst d_Mm_bestFeeder_10 (v := 1) (by decide) ?_
    refine r_callV (As := [.int 0, .int 1]) (rest := []) (csC := [(m, .inr (12, [.int 0, .ref mp, .int pt, .ref mf, .ref mh, .ref mn, .ref mt, .ref mz, .ref mc_, .ref mq, .ref mgr, .int cl, .int wa, .int co_, .int fi, .int bu, .int ho, .ref ml, .ref mi, .ref mr, .int lh, .int mg, .int wd, .int fpi, .int fal, .ref mm, .ref mu, .ref mk, .ref mx, .long po, .long de]))]) (is := [0]) (q0 := 0) rfl rfl ln_Mm_103 w_im_Mm_fails w_se_Mm_fails ok_Mm_bestFeeder_Mm_fails d_Mm_bestFeeder_11 (C_Mm_fails0 g m mp mf mh mn mt mz mc_ mq mgr ml mi mr mm mu mk mx th pt cl wa co_ fi bu ho lh mg wd fpi fal po de 1) rfl rfl (Nat.le_of_ble_eq_true rfl) rfl (by decide) (by omega) (by omega) (fun E cs1 hx => ?_) (fun v cs1 hx => ?_)
    · exact absurd hx.1 (by simp)
    · obtain ⟨e1, rfl⟩ := hx
      cases e1
      refine ⟨rfl, ?_⟩
      refine r_st (st2 := [.int 0]) rfl ?_
      refine r_cs (cs2 := [(m, .inr (12, [.int 0, .ref mp, .int pt, .ref mf, .ref mh, .ref mn, .ref mt, .ref mz, .ref mc_, .ref mq, .ref mgr, .int cl, .int wa, .int co_, .int fi, .int bu, .int ho, .ref ml, .ref mi, .ref mr, .int lh, .int mg, .int wd, .int fpi, .int fal, .ref mm, .ref mu, .ref mk, .ref mx, .long po, .long de])), (mp, .inl (1, 108, .inl f)), (mf, .inl (0, 108, .inl fl)), (mh, .inl (0, 108, .inl he)), (mt, .inl (0, 108, .inl mtt)), (mz, .inl (0, 108, .inl fz)), (mn, .inl (0, 108, .inl nx)), (mc_, .inl (2, 108, .inl ic)), (mq, .inl (0, 108, .inl (fun k => nI (qn k))))]) rfl ?_
      refine r_if_eq (tgt := 19) d_Mm_bestFeeder_14 (by decide) (fun c_14 => ?_) (fun c_14 => ?_)
      · refine r_iconst d_Mm_bestFeeder_19 (v := (-1)) (by decide) ?_
        refine r_istore_n (lv' := [(2, .int (-1)), (0, .ref m), (1, .int h)]) d_Mm_bestFeeder_20 rfl (by decide) rfl ?_
        refine r_aload_n d_Mm_bestFeeder_21 rfl 1 rfl ?_
        refine r_aload_n d_Mm_bestFeeder_22 rfl 1 rfl ?_
        refine r_get fs_Mm_7 d_Mm_bestFeeder_23 (q0 := 0) rfl rfl ?_
        refine r_iload_n d_Mm_bestFeeder_26 rfl 2 rfl ?_
        refine r_callV (As := [.ref mp, .int h]) (rest := []) (csC := [(m, .inr (12, [.int 0, .ref mp, .int pt, .ref mf, .ref mh, .ref mn, .ref mt, .ref mz, .ref mc_, .ref mq, .ref mgr, .int cl, .int wa, .int co_, .int fi, .int bu, .int ho, .ref ml, .ref mi, .ref mr, .int lh, .int mg, .int wd, .int fpi, .int fal, .ref mm, .ref mu, .ref mk, .ref mx, .long po, .long de])), (mp, .inl (1, 108, .inl f)), (mf, .inl (0, 108, .inl fl)), (mh, .inl (0, 108, .inl he)), (mt, .inl (0, 108, .inl mtt)), (mz, .inl (0, 108, .inl fz)), (mn, .inl (0, 108, .inl nx)), (mc_, .inl (2, 108, .inl ic)), (mq, .inl (0, 108, .inl (fun k => nI (qn k))))]) (is := [0, 1, 2, 3, 4, 5, 6, 7, 8]) (q0 := 0) rfl rfl ln_Mm_173 w_im_Mm_shrunkOf w_se_Mm_shrunkOf ok_Mm_bestFeeder_Mm_shrunkOf d_Mm_bestFeeder_27 (C_Mm_shrunkOfW g m mp mf mh mn mt mz mc_ mq mgr ml mi mr mm mu mk mx 0 pt cl wa co_ fi bu ho lh mg wd fpi fal po de mp f fl he nx mtt fz ic qn h) rfl rfl (Nat.le_of_ble_eq_true rfl) rfl (by decide) (by omega) (by omega) (fun E cs1 hx => ?_) (fun v cs1 hx => ?_)
        · obtain ⟨v9, fl9, he9, nx9, mt9, fz9, ic9, qn9, e1, -⟩ := hx
          cases e1
        · obtain ⟨v9, fl9, he9, nx9, mt9, fz9, ic9, qn9, e1, rfl⟩ := hx
          cases e1
          refine ⟨rfl, ?_⟩
          refine r_st (st2 := [.int v9]) rfl ?_
          refine r_cs (cs2 := [(m, .inr (12, [.int 0, .ref mp, .int pt, .ref mf, .ref mh, .ref mn, .ref mt, .ref mz, .ref mc_, .ref mq, .ref mgr, .int cl, .int wa, .int co_, .int fi, .int bu, .int ho, .ref ml, .ref mi, .ref mr, .int lh, .int mg, .int wd, .int fpi, .int fal, .ref mm, .ref mu, .ref mk, .ref mx, .long po, .long de])), (mp, .inl (1, 108, .inl f)), (mf, .inl (0, 108, .inl fl9)), (mh, .inl (0, 108, .inl he9)), (mt, .inl (0, 108, .inl mt9)), (mz, .inl (0, 108, .inl fz9)), (mn, .inl (0, 108, .inl nx9)), (mc_, .inl (2, 108, .inl ic9)), (mq, .inl (0, 108, .inl (fun k => nI (qn9 k))))]) rfl ?_
          refine r_istore_n (lv' := [(3, .int v9), (2, .int (-1)), (0, .ref m), (1, .int h)]) d_Mm_bestFeeder_30 rfl (by decide) rfl ?_
          refine r_iconst d_Mm_bestFeeder_31 (v := 0) (by decide) ?_
          refine r_istore (lv' := [(4, .int 0), (3, .int v9), (2, .int (-1)), (0, .ref m), (1, .int h)]) d_Mm_bestFeeder_32 (by decide) rfl ?_
          exact L_Mm_bestFeederW_34 g m mp mf mh mn mt mz mc_ mq mgr ml mi mr mm mu mk mx th pt cl wa co_ fi bu ho lh mg wd fpi fal po de f fl he nx mtt fz ic qn h hh w0 _  (108 + 1) 0 _ _ _ _ _ _ _ _ _ (Nat.zero_le _) (by omega)
      · exact absurd c_14 (by decide)
end
section
set_option maxHeartbeats 4000000 in
set_option maxRecDepth 100000 in
theorem L_Mm_heatAtW_72 (g : zG) (m mp mf mh mn mt mz mc_ mq mgr ml mi mr mm mu mk mx : Nat) (th pt cl wa co_ fi bu ho lh mg wd fpi fal : Int32) (po de : Int64) (f fl he nx mtt fz ic : Nat → Int32) (qn : Nat → Nat) (x y : Nat) (hx0 : x < 12) (hy0 : y < 9) (h : Int32) (kd : Nat) (hkd : kd ≤ 400) (hh : 1200 ≤ h ∧ h ≤ 1500) (w0 : zW) (n : Nat) : ∀ (d i : Nat) (fl he nx mtt fz : Nat → Int32), i ≤ kd → kd < i + d → DV g M_Mm_heatAt (fun o cs1 => ∃ (v9 th9 : Int32) (fl9 he9 nx9 mt9 fz9 ic9 : Nat → Int32) (qn9 : Nat → Nat), o = .inl (some (.int v9)) ∧ cs1 = [(m, .inr (12, [.int th9, .ref mp, .int pt, .ref mf, .ref mh, .ref mn, .ref mt, .ref mz, .ref mc_, .ref mq, .ref mgr, .int cl, .int wa, .int co_, .int fi, .int bu, .int ho, .ref ml, .ref mi, .ref mr, .int lh, .int mg, .int wd, .int fpi, .int fal, .ref mm, .ref mu, .ref mk, .ref mx, .long po, .long de])), (mp, .inl (1, 108, .inl f)), (mf, .inl (0, 108, .inl fl9)), (mh, .inl (0, 108, .inl he9)), (mt, .inl (0, 108, .inl mt9)), (mz, .inl (0, 108, .inl fz9)), (mn, .inl (0, 108, .inl nx9)), (mc_, .inl (2, 108, .inl ic9)), (mq, .inl (0, 108, .inl (fun k => nI (qn9 k))))]) w0 n 72 [(5, .int (nI (i + 1))), (4, .int (nI kd)), (2, .int (nI y)), (1, .int (nI x)), (0, .ref m)] [] [(m, .inr (12, [.int 0, .ref mp, .int pt, .ref mf, .ref mh, .ref mn, .ref mt, .ref mz, .ref mc_, .ref mq, .ref mgr, .int cl, .int wa, .int co_, .int fi, .int bu, .int ho, .ref ml, .ref mi, .ref mr, .int lh, .int mg, .int wd, .int fpi, .int fal, .ref mm, .ref mu, .ref mk, .ref mx, .long po, .long de])), (mp, .inl (1, 108, .inl f)), (mf, .inl (0, 108, .inl fl)), (mh, .inl (0, 108, .inl he)), (mt, .inl (0, 108, .inl mtt)), (mz, .inl (0, 108, .inl fz)), (mn, .inl (0, 108, .inl nx)), (mc_, .inl (2, 108, .inl ic)), (mq, .inl (0, 108, .inl (fun k => nI (qn k))))] 0 0 := by
  intro d
  induction d with
  | zero => intro i fl he nx mtt fz h1 h2 ; exact absurd h2 (by omega)
  | succ d ih =>
    intro i fl he nx mtt fz h1 h2 
    refine r_iload d_Mm_heatAt_72 0 rfl ?_
    refine r_iload d_Mm_heatAt_74 1 rfl ?_
    refine r_icmp_gt (tgt := 96) d_Mm_heatAt_76 (by decide) (fun c_76 => ?_) (fun c_76 => ?_)
    · refine r_aload_n d_Mm_heatAt_96 rfl 4 rfl ?_
      refine r_get fs_Mm_21 d_Mm_heatAt_97 (q0 := 0) rfl rfl ?_
      refine r_bipush d_Mm_heatAt_100 (v := 12) (by decide) ?_
      refine r_iload_n d_Mm_heatAt_102 rfl 2 rfl ?_
      refine r_imul d_Mm_heatAt_103 (v := nI (12 * y)) (pk_mul _ _) ?_
      refine r_iload_n d_Mm_heatAt_104 rfl 3 rfl ?_
      refine r_iadd d_Mm_heatAt_105 (v := nI (12 * y + x)) (nI_add _ _) ?_
      refine r_iald d_Mm_heatAt_106 (q0 := 3) rfl (vp_in_nI (by omega) (by omega)) (v := he (12 * y + x)) (by rw [nI_clamp (by omega)]) ?_
      refine r_iret d_Mm_heatAt_107 rfl rfl ?_
      exact ⟨_, _, _, _, _, _, _, _, _, rfl, rfl⟩
    · have hn := z_nlt (by omega) (by omega) c_76
      refine r_aload_n d_Mm_heatAt_79 rfl 4 rfl ?_
      refine r_aload_n d_Mm_heatAt_80 rfl 4 rfl ?_
      refine r_get fs_Mm_7 d_Mm_heatAt_81 (q0 := 0) rfl rfl ?_
      refine r_iload d_Mm_heatAt_84 0 rfl ?_
      refine r_callV (As := [.ref mp, .int (nI (i + 1))]) (rest := []) (csC := [(m, .inr (12, [.int 0, .ref mp, .int pt, .ref mf, .ref mh, .ref mn, .ref mt, .ref mz, .ref mc_, .ref mq, .ref mgr, .int cl, .int wa, .int co_, .int fi, .int bu, .int ho, .ref ml, .ref mi, .ref mr, .int lh, .int mg, .int wd, .int fpi, .int fal, .ref mm, .ref mu, .ref mk, .ref mx, .long po, .long de])), (mp, .inl (1, 108, .inl f)), (mf, .inl (0, 108, .inl fl)), (mh, .inl (0, 108, .inl he)), (mn, .inl (0, 108, .inl nx)), (mt, .inl (0, 108, .inl mtt)), (mz, .inl (0, 108, .inl fz))]) (is := [0, 1, 2, 3, 6, 4, 5]) (q0 := 0) rfl rfl ln_Mm_160 w_im_Mm_freezeStep w_se_Mm_freezeStep ok_Mm_heatAt_Mm_freezeStep d_Mm_heatAt_86 (C_Mm_freezeStepW g m mp mf mh mn mt mz mc_ mq mgr ml mi mr mm mu mk mx 0 pt cl wa co_ fi bu ho lh mg wd fpi fal po de mp f fl he nx mtt fz (nI (i + 1))) rfl rfl (Nat.le_of_ble_eq_true rfl) rfl (by decide) (by omega) (by omega) (fun E cs1 hx => ?_) (fun v cs1 hx => ?_)
      · obtain ⟨v9, he9, nx9, mt9, fz9, -, e1, -⟩ := hx
        cases e1
      · obtain ⟨v9, he9, nx9, mt9, fz9, -, e1, rfl⟩ := hx
        cases e1
        refine ⟨rfl, ?_⟩
        refine r_st (st2 := [.int v9]) rfl ?_
        refine r_cs (cs2 := [(m, .inr (12, [.int 0, .ref mp, .int pt, .ref mf, .ref mh, .ref mn, .ref mt, .ref mz, .ref mc_, .ref mq, .ref mgr, .int cl, .int wa, .int co_, .int fi, .int bu, .int ho, .ref ml, .ref mi, .ref mr, .int lh, .int mg, .int wd, .int fpi, .int fal, .ref mm, .ref mu, .ref mk, .ref mx, .long po, .long de])), (mp, .inl (1, 108, .inl f)), (mf, .inl (0, 108, .inl fl)), (mh, .inl (0, 108, .inl he9)), (mt, .inl (0, 108, .inl mt9)), (mz, .inl (0, 108, .inl fz9)), (mn, .inl (0, 108, .inl nx9)), (mc_, .inl (2, 108, .inl ic)), (mq, .inl (0, 108, .inl (fun k => nI (qn k))))]) rfl ?_
        refine r_pop d_Mm_heatAt_89 rfl ?_
        refine r_iinc (lv' := [(5, .int (nI ((i + 1) + 1))), (4, .int (nI kd)), (2, .int (nI y)), (1, .int (nI x)), (0, .ref m)]) (v := nI ((i + 1) + 1)) d_Mm_heatAt_90 (j := 0) rfl (nI_add _ _) (by decide) rfl ?_
        refine r_goto (tgt := 72) d_Mm_heatAt_93 (by decide) ?_
        exact ih (i + 1) _ _ _ _ _ (by omega) (by omega)
set_option maxHeartbeats 4000000 in
set_option maxRecDepth 100000 in
theorem C_Mm_heatAtW (g : zG) (m mp mf mh mn mt mz mc_ mq mgr ml mi mr mm mu mk mx : Nat) (th pt cl wa co_ fi bu ho lh mg wd fpi fal : Int32) (po de : Int64) (f fl he nx mtt fz ic : Nat → Int32) (qn : Nat → Nat) (x y : Nat) (hx0 : x < 12) (hy0 : y < 9) (h : Int32) (kd : Nat) (hkd : kd ≤ 400) (hh : 1200 ≤ h ∧ h ≤ 1500) : CT g M_Mm_heatAt [.ref m, .int (nI x), .int (nI y), .int h, .int (nI kd)] [(m, .inr (12, [.int th, .ref mp, .int pt, .ref mf, .ref mh, .ref mn, .ref mt, .ref mz, .ref mc_, .ref mq, .ref mgr, .int cl, .int wa, .int co_, .int fi, .int bu, .int ho, .ref ml, .ref mi, .ref mr, .int lh, .int mg, .int wd, .int fpi, .int fal, .ref mm, .ref mu, .ref mk, .ref mx, .long po, .long de])), (mp, .inl (1, 108, .inl f)), (mf, .inl (0, 108, .inl fl)), (mh, .inl (0, 108, .inl he)), (mt, .inl (0, 108, .inl mtt)), (mz, .inl (0, 108, .inl fz)), (mn, .inl (0, 108, .inl nx)), (mc_, .inl (2, 108, .inl ic)), (mq, .inl (0, 108, .inl (fun k => nI (qn k))))] (fun o cs1 => ∃ (v9 th9 : Int32) (fl9 he9 nx9 mt9 fz9 ic9 : Nat → Int32) (qn9 : Nat → Nat), o = .inl (some (.int v9)) ∧ cs1 = [(m, .inr (12, [.int th9, .ref mp, .int pt, .ref mf, .ref mh, .ref mn, .ref mt, .ref mz, .ref mc_, .ref mq, .ref mgr, .int cl, .int wa, .int co_, .int fi, .int bu, .int ho, .ref ml, .ref mi, .ref mr, .int lh, .int mg, .int wd, .int fpi, .int fal, .ref mm, .ref mu, .ref mk, .ref mx, .long po, .long de])), (mp, .inl (1, 108, .inl f)), (mf, .inl (0, 108, .inl fl9)), (mh, .inl (0, 108, .inl he9)), (mt, .inl (0, 108, .inl mt9)), (mz, .inl (0, 108, .inl fz9)), (mn, .inl (0, 108, .inl nx9)), (mc_, .inl (2, 108, .inl ic9)), (mq, .inl (0, 108, .inl (fun k => nI (qn9 k))))]) 0 0 := by
  refine z_of (by decide) rfl (Nat.le_of_ble_eq_true rfl) (fun w0 => ?_)
  refine r_lvE (lv2 := [(0, .ref m), (1, .int (nI x)), (2, .int (nI y)), (3, .int h), (4, .int (nI kd))]) rfl ?_
  refine r_aload_n d_Mm_heatAt_0 rfl 0 rfl ?_
  refine r_iconst d_Mm_heatAt_1 (v := 0) (by decide) ?_
  refine r_put fp_Mm_84 d_Mm_heatAt_2 (fun h => nomatch h) rfl rfl (q0 := 0) rfl (Nat.le_of_ble_eq_true rfl) (cs' := [(m, .inr (12, [.int 0, .ref mp, .int pt, .ref mf, .ref mh, .ref mn, .ref mt, .ref mz, .ref mc_, .ref mq, .ref mgr, .int cl, .int wa, .int co_, .int fi, .int bu, .int ho, .ref ml, .ref mi, .ref mr, .int lh, .int mg, .int wd, .int fpi, .int fal, .ref mm, .ref mu, .ref mk, .ref mx, .long po, .long de])), (mp, .inl (1, 108, .inl f)), (mf, .inl (0, 108, .inl fl)), (mh, .inl (0, 108, .inl he)), (mt, .inl (0, 108, .inl mtt)), (mz, .inl (0, 108, .inl fz)), (mn, .inl (0, 108, .inl nx)), (mc_, .inl (2, 108, .inl ic)), (mq, .inl (0, 108, .inl (fun k => nI (qn k))))]) rfl ?_
  refine r_aload_n d_Mm_heatAt_5 rfl 0 rfl ?_
  refine r_iload_n d_Mm_heatAt_6 rfl 1 rfl ?_
  refine r_iload_n d_Mm_heatAt_7 rfl 2 rfl ?_
  refine r_callS (As := [.int (nI x), .int (nI y)]) (rest := [.ref m]) (csC := []) (is := []) ln_Mm_91 w_st_Mm_isCell ok_Mm_heatAt_Mm_isCell d_Mm_heatAt_8 (C_Mm_isCell g (nI x) (nI y)) rfl rfl (Nat.le_of_ble_eq_true rfl) rfl (by decide) (by omega) (by omega) (fun E cs1 hx => ?_) (fun v cs1 hx => ?_)
  · exact absurd hx.1 (by simp)
  · obtain ⟨e1, rfl⟩ := hx
    rw [if_pos (z_cellN (by omega) (by omega))] at e1
    cases e1
    refine ⟨rfl, ?_⟩
    refine r_st (st2 := [.int 1, .ref m]) rfl ?_
    refine r_cs (cs2 := [(m, .inr (12, [.int 0, .ref mp, .int pt, .ref mf, .ref mh, .ref mn, .ref mt, .ref mz, .ref mc_, .ref mq, .ref mgr, .int cl, .int wa, .int co_, .int fi, .int bu, .int ho, .ref ml, .ref mi, .ref mr, .int lh, .int mg, .int wd, .int fpi, .int fal, .ref mm, .ref mu, .ref mk, .ref mx, .long po, .long de])), (mp, .inl (1, 108, .inl f)), (mf, .inl (0, 108, .inl fl)), (mh, .inl (0, 108, .inl he)), (mt, .inl (0, 108, .inl mtt)), (mz, .inl (0, 108, .inl fz)), (mn, .inl (0, 108, .inl nx)), (mc_, .inl (2, 108, .inl ic)), (mq, .inl (0, 108, .inl (fun k => nI (qn k))))]) rfl ?_
    refine r_if_ne (tgt := 18) d_Mm_heatAt_11 (by decide) (fun c_11 => ?_) (fun c_11 => ?_)
    · refine r_iconst d_Mm_heatAt_18 (v := 0) (by decide) ?_
      refine r_iconst d_Mm_heatAt_19 (v := 1) (by decide) ?_
      refine r_callV (As := [.int 0, .int 1]) (rest := []) (csC := [(m, .inr (12, [.int 0, .ref mp, .int pt, .ref mf, .ref mh, .ref mn, .ref mt, .ref mz, .ref mc_, .ref mq, .ref mgr, .int cl, .int wa, .int co_, .int fi, .int bu, .int ho, .ref ml, .ref mi, .ref mr, .int lh, .int mg, .int wd, .int fpi, .int fal, .ref mm, .ref mu, .ref mk, .ref mx, .long po, .long de]))]) (is := [0]) (q0 := 0) rfl rfl ln_Mm_103 w_im_Mm_fails w_se_Mm_fails ok_Mm_heatAt_Mm_fails d_Mm_heatAt_20 (C_Mm_fails0 g m mp mf mh mn mt mz mc_ mq mgr ml mi mr mm mu mk mx th pt cl wa co_ fi bu ho lh mg wd fpi fal po de 1) rfl rfl (Nat.le_of_ble_eq_true rfl) rfl (by decide) (by omega) (by omega) (fun E cs1 hx => ?_) (fun v cs1 hx => ?_)
      · exact absurd hx.1 (by simp)
      · obtain ⟨e1, rfl⟩ := hx
        cases e1
        refine ⟨rfl, ?_⟩
        refine r_st (st2 := [.int 0]) rfl ?_
        refine r_cs (cs2 := [(m, .inr (12, [.int 0, .ref mp, .int pt, .ref mf, .ref mh, .ref mn, .ref mt, .ref mz, .ref mc_, .ref mq, .ref mgr, .int cl, .int wa, .int co_, .int fi, .int bu, .int ho, .ref ml, .ref mi, .ref mr, .int lh, .int mg, .int wd, .int fpi, .int fal, .ref mm, .ref mu, .ref mk, .ref mx, .long po, .long de])), (mp, .inl (1, 108, .inl f)), (mf, .inl (0, 108, .inl fl)), (mh, .inl (0, 108, .inl he)), (mt, .inl (0, 108, .inl mtt)), (mz, .inl (0, 108, .inl fz)), (mn, .inl (0, 108, .inl nx)), (mc_, .inl (2, 108, .inl ic)), (mq, .inl (0, 108, .inl (fun k => nI (qn k))))]) rfl ?_
        refine r_if_ne (tgt := 58) d_Mm_heatAt_23 (by decide) (fun c_23 => ?_) (fun c_23 => ?_)
        · exact absurd c_23 (by decide)
        · refine r_aload_n d_Mm_heatAt_26 rfl 0 rfl ?_
          refine r_iload_n d_Mm_heatAt_27 rfl 3 rfl ?_
          refine r_callS (As := [.int h]) (rest := [.ref m]) (csC := []) (is := []) ln_Mm_163 w_st_Mm_noHeat ok_Mm_heatAt_Mm_noHeat d_Mm_heatAt_28 (C_Mm_noHeat0 g h hh) rfl rfl (Nat.le_of_ble_eq_true rfl) rfl (by decide) (by omega) (by omega) (fun E cs1 hx => ?_) (fun v cs1 hx => ?_)
          · exact absurd hx.1 (by simp)
          · obtain ⟨e1, rfl⟩ := hx
            cases e1
            refine ⟨rfl, ?_⟩
            refine r_st (st2 := [.int 0, .ref m]) rfl ?_
            refine r_cs (cs2 := [(m, .inr (12, [.int 0, .ref mp, .int pt, .ref mf, .ref mh, .ref mn, .ref mt, .ref mz, .ref mc_, .ref mq, .ref mgr, .int cl, .int wa, .int co_, .int fi, .int bu, .int ho, .ref ml, .ref mi, .ref mr, .int lh, .int mg, .int wd, .int fpi, .int fal, .ref mm, .ref mu, .ref mk, .ref mx, .long po, .long de])), (mp, .inl (1, 108, .inl f)), (mf, .inl (0, 108, .inl fl)), (mh, .inl (0, 108, .inl he)), (mt, .inl (0, 108, .inl mtt)), (mz, .inl (0, 108, .inl fz)), (mn, .inl (0, 108, .inl nx)), (mc_, .inl (2, 108, .inl ic)), (mq, .inl (0, 108, .inl (fun k => nI (qn k))))]) rfl ?_
            refine r_if_ne (tgt := 46) d_Mm_heatAt_31 (by decide) (fun c_31 => ?_) (fun c_31 => ?_)
            · exact absurd c_31 (by decide)
            · refine r_iload d_Mm_heatAt_34 4 rfl ?_
              refine r_iconst d_Mm_heatAt_36 (v := 0) (by decide) ?_
              refine r_sipush d_Mm_heatAt_37 (v := 400) (by decide) ?_
              refine r_callS (As := [.int (nI kd), .int 0, .int 400]) (rest := [.ref m]) (csC := []) (is := []) ln_Mm_87 w_st_Mm_in ok_Mm_heatAt_Mm_in d_Mm_heatAt_40 (C_Mm_in g (nI kd) 0 400) rfl rfl (Nat.le_of_ble_eq_true rfl) rfl (by decide) (by omega) (by omega) (fun E cs1 hx => ?_) (fun v cs1 hx => ?_)
              · exact absurd hx.1 (by simp)
              · obtain ⟨e1, rfl⟩ := hx
                rw [if_pos ⟨Int32.not_lt.mp (nI_nneg (by omega)), (nI_leI (b := 400) (by omega) (by decide)).mpr hkd⟩] at e1
                cases e1
                refine ⟨rfl, ?_⟩
                refine r_st (st2 := [.int 1, .ref m]) rfl ?_
                refine r_cs (cs2 := [(m, .inr (12, [.int 0, .ref mp, .int pt, .ref mf, .ref mh, .ref mn, .ref mt, .ref mz, .ref mc_, .ref mq, .ref mgr, .int cl, .int wa, .int co_, .int fi, .int bu, .int ho, .ref ml, .ref mi, .ref mr, .int lh, .int mg, .int wd, .int fpi, .int fal, .ref mm, .ref mu, .ref mk, .ref mx, .long po, .long de])), (mp, .inl (1, 108, .inl f)), (mf, .inl (0, 108, .inl fl)), (mh, .inl (0, 108, .inl he)), (mt, .inl (0, 108, .inl mtt)), (mz, .inl (0, 108, .inl fz)), (mn, .inl (0, 108, .inl nx)), (mc_, .inl (2, 108, .inl ic)), (mq, .inl (0, 108, .inl (fun k => nI (qn k))))]) rfl ?_
                refine r_if_ne (tgt := 50) d_Mm_heatAt_43 (by decide) (fun c_43 => ?_) (fun c_43 => ?_)
                · refine r_iconst d_Mm_heatAt_50 (v := 0) (by decide) ?_
                  refine r_iconst d_Mm_heatAt_51 (v := 2) (by decide) ?_
                  refine r_callV (As := [.int 0, .int 2]) (rest := []) (csC := [(m, .inr (12, [.int 0, .ref mp, .int pt, .ref mf, .ref mh, .ref mn, .ref mt, .ref mz, .ref mc_, .ref mq, .ref mgr, .int cl, .int wa, .int co_, .int fi, .int bu, .int ho, .ref ml, .ref mi, .ref mr, .int lh, .int mg, .int wd, .int fpi, .int fal, .ref mm, .ref mu, .ref mk, .ref mx, .long po, .long de]))]) (is := [0]) (q0 := 0) rfl rfl ln_Mm_103 w_im_Mm_fails w_se_Mm_fails ok_Mm_heatAt_Mm_fails d_Mm_heatAt_52 (C_Mm_fails0 g m mp mf mh mn mt mz mc_ mq mgr ml mi mr mm mu mk mx th pt cl wa co_ fi bu ho lh mg wd fpi fal po de 2) rfl rfl (Nat.le_of_ble_eq_true rfl) rfl (by decide) (by omega) (by omega) (fun E cs1 hx => ?_) (fun v cs1 hx => ?_)
                  · exact absurd hx.1 (by simp)
                  · obtain ⟨e1, rfl⟩ := hx
                    cases e1
                    refine ⟨rfl, ?_⟩
                    refine r_st (st2 := [.int 0]) rfl ?_
                    refine r_cs (cs2 := [(m, .inr (12, [.int 0, .ref mp, .int pt, .ref mf, .ref mh, .ref mn, .ref mt, .ref mz, .ref mc_, .ref mq, .ref mgr, .int cl, .int wa, .int co_, .int fi, .int bu, .int ho, .ref ml, .ref mi, .ref mr, .int lh, .int mg, .int wd, .int fpi, .int fal, .ref mm, .ref mu, .ref mk, .ref mx, .long po, .long de])), (mp, .inl (1, 108, .inl f)), (mf, .inl (0, 108, .inl fl)), (mh, .inl (0, 108, .inl he)), (mt, .inl (0, 108, .inl mtt)), (mz, .inl (0, 108, .inl fz)), (mn, .inl (0, 108, .inl nx)), (mc_, .inl (2, 108, .inl ic)), (mq, .inl (0, 108, .inl (fun k => nI (qn k))))]) rfl ?_
                    refine r_if_eq (tgt := 60) d_Mm_heatAt_55 (by decide) (fun c_55 => ?_) (fun c_55 => ?_)
                    · refine r_aload_n d_Mm_heatAt_60 rfl 0 rfl ?_
                      refine r_aload_n d_Mm_heatAt_61 rfl 0 rfl ?_
                      refine r_get fs_Mm_7 d_Mm_heatAt_62 (q0 := 0) rfl rfl ?_
                      refine r_iload_n d_Mm_heatAt_65 rfl 3 rfl ?_
                      refine r_callV (As := [.ref mp, .int h]) (rest := []) (csC := [(m, .inr (12, [.int 0, .ref mp, .int pt, .ref mf, .ref mh, .ref mn, .ref mt, .ref mz, .ref mc_, .ref mq, .ref mgr, .int cl, .int wa, .int co_, .int fi, .int bu, .int ho, .ref ml, .ref mi, .ref mr, .int lh, .int mg, .int wd, .int fpi, .int fal, .ref mm, .ref mu, .ref mk, .ref mx, .long po, .long de])), (mp, .inl (1, 108, .inl f)), (mf, .inl (0, 108, .inl fl)), (mh, .inl (0, 108, .inl he)), (mt, .inl (0, 108, .inl mtt)), (mz, .inl (0, 108, .inl fz))]) (is := [0, 1, 2, 3, 4, 5]) (q0 := 0) rfl rfl ln_Mm_157 w_im_Mm_begin w_se_Mm_begin ok_Mm_heatAt_Mm_begin d_Mm_heatAt_66 (C_Mm_beginW g m mp mf mh mn mt mz mc_ mq mgr ml mi mr mm mu mk mx 0 pt cl wa co_ fi bu ho lh mg wd fpi fal po de mp f fl he mtt fz h) rfl rfl (Nat.le_of_ble_eq_true rfl) rfl (by decide) (by omega) (by omega) (fun E cs1 hx => ?_) (fun v cs1 hx => ?_)
                      · obtain ⟨fl9, he9, mt9, fz9, e1, -⟩ := hx
                        cases e1
                      · obtain ⟨fl9, he9, mt9, fz9, e1, rfl⟩ := hx
                        cases e1
                        refine ⟨rfl, ?_⟩
                        refine r_st (st2 := []) rfl ?_
                        refine r_cs (cs2 := [(m, .inr (12, [.int 0, .ref mp, .int pt, .ref mf, .ref mh, .ref mn, .ref mt, .ref mz, .ref mc_, .ref mq, .ref mgr, .int cl, .int wa, .int co_, .int fi, .int bu, .int ho, .ref ml, .ref mi, .ref mr, .int lh, .int mg, .int wd, .int fpi, .int fal, .ref mm, .ref mu, .ref mk, .ref mx, .long po, .long de])), (mp, .inl (1, 108, .inl f)), (mf, .inl (0, 108, .inl fl9)), (mh, .inl (0, 108, .inl he9)), (mt, .inl (0, 108, .inl mt9)), (mz, .inl (0, 108, .inl fz9)), (mn, .inl (0, 108, .inl nx)), (mc_, .inl (2, 108, .inl ic)), (mq, .inl (0, 108, .inl (fun k => nI (qn k))))]) rfl ?_
                        refine r_iconst d_Mm_heatAt_69 (v := 1) (by decide) ?_
                        refine r_istore (lv' := [(5, .int 1), (0, .ref m), (1, .int (nI x)), (2, .int (nI y)), (3, .int h), (4, .int (nI kd))]) d_Mm_heatAt_70 (by decide) rfl ?_
                        refine r_lv (lv' := [(5, .int 1), (4, .int (nI kd)), (2, .int (nI y)), (1, .int (nI x)), (0, .ref m)]) [0, 5, 3, 2, 1] rfl ?_
                        exact L_Mm_heatAtW_72 g m mp mf mh mn mt mz mc_ mq mgr ml mi mr mm mu mk mx th pt cl wa co_ fi bu ho lh mg wd fpi fal po de f fl he nx mtt fz ic qn x y hx0 hy0 h kd hkd hh w0 _  (kd + 1) 0 _ _ _ _ _ (Nat.zero_le _) (by omega)
                    · exact absurd c_55 (by decide)
                · exact absurd c_43 (by decide)
    · exact absurd c_11 (by decide)
theorem d_Mm_looseIn_23 : decode prog_14_method_15_code 23 = .ok (.iload 6, 2) := zo_21 (d := 6) (zd_b zq_prog_14_method_15_code_0 23 rfl rfl rfl) (zd_b zq_prog_14_method_15_code_0 24 rfl rfl rfl)
theorem d_Mm_looseIn_25 : decode prog_14_method_15_code 25 = .ok (.bipush 108, 2) := zo_16 (d := 108) (zd_b zq_prog_14_method_15_code_0 25 rfl rfl rfl) (zd_b zq_prog_14_method_15_code_0 26 rfl rfl rfl) (by decide +kernel)
theorem d_Mm_looseIn_27 : decode prog_14_method_15_code 27 = .ok (.if_icmp .ge 40, 3) := zo_162 (d := 0) (e := 40) (zd_b zq_prog_14_method_15_code_0 27 rfl rfl rfl) (zd_b zq_prog_14_method_15_code_0 28 rfl rfl rfl) (zd_b zq_prog_14_method_15_code_0 29 rfl rfl rfl) (by decide +kernel)
theorem d_Mm_looseIn_30 : decode prog_14_method_15_code 30 = .ok (.iload 5, 2) := zo_21 (d := 5) (zd_b zq_prog_14_method_15_code_0 30 rfl rfl rfl) (zd_b zq_prog_14_method_15_code_0 31 rfl rfl rfl)
theorem d_Mm_looseIn_32 : decode prog_14_method_15_code 32 = .ok (.aload_n 0, 1) := zo_42 (zd_b zq_prog_14_method_15_code_1 0 rfl rfl rfl)
theorem d_Mm_looseIn_33 : decode prog_14_method_15_code 33 = .ok (.getfield 40, 3) := zo_180 (d := 0) (e := 40) (zd_b zq_prog_14_method_15_code_1 1 rfl rfl rfl) (zd_b zq_prog_14_method_15_code_1 2 rfl rfl rfl) (zd_b zq_prog_14_method_15_code_1 3 rfl rfl rfl)
theorem d_Mm_looseIn_36 : decode prog_14_method_15_code 36 = .ok (.iload 6, 2) := zo_21 (d := 6) (zd_b zq_prog_14_method_15_code_1 4 rfl rfl rfl) (zd_b zq_prog_14_method_15_code_1 5 rfl rfl rfl)
theorem d_Mm_looseIn_38 : decode prog_14_method_15_code 38 = .ok (.iaload, 1) := zo_46 (zd_b zq_prog_14_method_15_code_1 6 rfl rfl rfl)
theorem d_Mm_looseIn_39 : decode prog_14_method_15_code 39 = .ok (.iload 4, 2) := zo_21 (d := 4) (zd_b zq_prog_14_method_15_code_1 7 rfl rfl rfl) (zd_b zq_prog_14_method_15_code_1 8 rfl rfl rfl)
theorem d_Mm_looseIn_41 : decode prog_14_method_15_code 41 = .ok (.if_icmp .ne 16, 3) := zo_160 (d := 0) (e := 16) (zd_b zq_prog_14_method_15_code_1 9 rfl rfl rfl) (zd_b zq_prog_14_method_15_code_1 10 rfl rfl rfl) (zd_b zq_prog_14_method_15_code_1 11 rfl rfl rfl) (by decide +kernel)
theorem d_Mm_looseIn_57 : decode prog_14_method_15_code 57 = .ok (.iconst 0, 1) := zo_3 (zd_b zq_prog_14_method_15_code_1 25 rfl rfl rfl)
theorem d_Mm_looseIn_58 : decode prog_14_method_15_code 58 = .ok (.iadd, 1) := zo_96 (zd_b zq_prog_14_method_15_code_1 26 rfl rfl rfl)
theorem d_Mm_looseIn_59 : decode prog_14_method_15_code 59 = .ok (.istore 5, 2) := zo_54 (d := 5) (zd_b zq_prog_14_method_15_code_1 27 rfl rfl rfl) (zd_b zq_prog_14_method_15_code_1 28 rfl rfl rfl)
theorem d_Mm_looseIn_61 : decode prog_14_method_15_code 61 = .ok (.iinc 6 1, 3) := by decide +kernel
theorem d_Mm_looseIn_64 : decode prog_14_method_15_code 64 = .ok (.goto (-41), 3) := zo_167 (d := 255) (e := 215) (zd_b zq_prog_14_method_15_code_2 0 rfl rfl rfl) (zd_b zq_prog_14_method_15_code_2 1 rfl rfl rfl) (zd_b zq_prog_14_method_15_code_2 2 rfl rfl rfl) (by decide +kernel)
theorem d_Mm_looseIn_44 : decode prog_14_method_15_code 44 = .ok (.aload_n 1, 1) := zo_43 (zd_b zq_prog_14_method_15_code_1 12 rfl rfl rfl)
theorem d_Mm_looseIn_45 : decode prog_14_method_15_code 45 = .ok (.iload 6, 2) := zo_21 (d := 6) (zd_b zq_prog_14_method_15_code_1 13 rfl rfl rfl) (zd_b zq_prog_14_method_15_code_1 14 rfl rfl rfl)
theorem d_Mm_looseIn_47 : decode prog_14_method_15_code 47 = .ok (.invokestatic 127, 3) := zo_184 (d := 0) (e := 127) (zd_b zq_prog_14_method_15_code_1 15 rfl rfl rfl) (zd_b zq_prog_14_method_15_code_1 16 rfl rfl rfl) (zd_b zq_prog_14_method_15_code_1 17 rfl rfl rfl)
theorem ok_Mm_looseIn_Mm_isBesideSand : z_ok M_Mm_looseIn M_Mm_isBesideSand 2 := ⟨z_mj8 (i := 0) rfl (by decide +kernel), rfl, ⟨by decide +kernel, by decide +kernel, by decide +kernel⟩, ⟨by decide, by decide⟩, z_mj1 (i := 14) rfl (by decide +kernel), rfl⟩
theorem ln_Mm_127 : Cond.methodLink "IronpourModel" 127 M_Mm_isBesideSand.1 ∈ z_gw := z_mj7 (i := 238) rfl (by decide +kernel)
theorem w_st_Mm_isBesideSand : Cond.static M_Mm_isBesideSand.1 ∈ z_gw := z_mj7 (i := 239) rfl (by decide +kernel)
theorem d_Mm_looseIn_50 : decode prog_14_method_15_code 50 = .ok (.ifCond .eq 7, 3) := zo_153 (d := 0) (e := 7) (zd_b zq_prog_14_method_15_code_1 18 rfl rfl rfl) (zd_b zq_prog_14_method_15_code_1 19 rfl rfl rfl) (zd_b zq_prog_14_method_15_code_1 20 rfl rfl rfl) (by decide +kernel)
theorem d_Mm_looseIn_53 : decode prog_14_method_15_code 53 = .ok (.iconst 1, 1) := zo_4 (zd_b zq_prog_14_method_15_code_1 21 rfl rfl rfl)
theorem d_Mm_looseIn_54 : decode prog_14_method_15_code 54 = .ok (.goto 4, 3) := zo_167 (d := 0) (e := 4) (zd_b zq_prog_14_method_15_code_1 22 rfl rfl rfl) (zd_b zq_prog_14_method_15_code_1 23 rfl rfl rfl) (zd_b zq_prog_14_method_15_code_1 24 rfl rfl rfl) (by decide +kernel)
theorem d_Mm_looseIn_17 : decode prog_14_method_15_code 17 = .ok (.iconst 0, 1) := zo_3 (zd_b zq_prog_14_method_15_code_0 17 rfl rfl rfl)
theorem d_Mm_looseIn_18 : decode prog_14_method_15_code 18 = .ok (.istore 5, 2) := zo_54 (d := 5) (zd_b zq_prog_14_method_15_code_0 18 rfl rfl rfl) (zd_b zq_prog_14_method_15_code_0 19 rfl rfl rfl)
theorem d_Mm_looseIn_20 : decode prog_14_method_15_code 20 = .ok (.iconst 0, 1) := zo_3 (zd_b zq_prog_14_method_15_code_0 20 rfl rfl rfl)
theorem d_Mm_looseIn_21 : decode prog_14_method_15_code 21 = .ok (.istore 6, 2) := zo_54 (d := 6) (zd_b zq_prog_14_method_15_code_0 21 rfl rfl rfl) (zd_b zq_prog_14_method_15_code_0 22 rfl rfl rfl)
theorem d_Mm_looseIn_67 : decode prog_14_method_15_code 67 = .ok (.iload_n 3, 1) := zo_29 (zd_b zq_prog_14_method_15_code_2 3 rfl rfl rfl)
theorem d_Mm_looseIn_68 : decode prog_14_method_15_code 68 = .ok (.iload 5, 2) := zo_21 (d := 5) (zd_b zq_prog_14_method_15_code_2 4 rfl rfl rfl) (zd_b zq_prog_14_method_15_code_2 5 rfl rfl rfl)
theorem d_Mm_looseIn_70 : decode prog_14_method_15_code 70 = .ok (.iconst 2, 1) := zo_5 (zd_b zq_prog_14_method_15_code_2 6 rfl rfl rfl)
theorem d_Mm_looseIn_71 : decode prog_14_method_15_code 71 = .ok (.if_icmp .ge 7, 3) := zo_162 (d := 0) (e := 7) (zd_b zq_prog_14_method_15_code_2 7 rfl rfl rfl) (zd_b zq_prog_14_method_15_code_2 8 rfl rfl rfl) (zd_b zq_prog_14_method_15_code_2 9 rfl rfl rfl) (by decide +kernel)
theorem d_Mm_looseIn_78 : decode prog_14_method_15_code 78 = .ok (.iconst 0, 1) := zo_3 (zd_b zq_prog_14_method_15_code_2 14 rfl rfl rfl)
theorem d_Mm_looseIn_79 : decode prog_14_method_15_code 79 = .ok (.iadd, 1) := zo_96 (zd_b zq_prog_14_method_15_code_2 15 rfl rfl rfl)
theorem d_Mm_looseIn_80 : decode prog_14_method_15_code 80 = .ok (.istore_n 3, 1) := zo_62 (zd_b zq_prog_14_method_15_code_2 16 rfl rfl rfl)
theorem d_Mm_looseIn_81 : decode prog_14_method_15_code 81 = .ok (.iinc 4 1, 3) := by decide +kernel
theorem d_Mm_looseIn_84 : decode prog_14_method_15_code 84 = .ok (.goto (-73), 3) := zo_167 (d := 255) (e := 183) (zd_b zq_prog_14_method_15_code_2 20 rfl rfl rfl) (zd_b zq_prog_14_method_15_code_2 21 rfl rfl rfl) (zd_b zq_prog_14_method_15_code_2 22 rfl rfl rfl) (by decide +kernel)
theorem d_Mm_looseIn_74 : decode prog_14_method_15_code 74 = .ok (.iconst 1, 1) := zo_4 (zd_b zq_prog_14_method_15_code_2 10 rfl rfl rfl)
theorem d_Mm_looseIn_75 : decode prog_14_method_15_code 75 = .ok (.goto 4, 3) := zo_167 (d := 0) (e := 4) (zd_b zq_prog_14_method_15_code_2 11 rfl rfl rfl) (zd_b zq_prog_14_method_15_code_2 12 rfl rfl rfl) (zd_b zq_prog_14_method_15_code_2 13 rfl rfl rfl) (by decide +kernel)
set_option maxHeartbeats 4000000 in
set_option maxRecDepth 100000 in
theorem L_Mm_looseInW_23 (g : zG) (m mp mf mh mn mt mz mc_ mq mgr ml mi mr mm mu mk mx : Nat) (th pt cl wa co_ fi bu ho lh mg wd fpi fal : Int32) (po de : Int64) (b : Nat) (f : Nat → Int32) (gp : Nat → Int32) (qn : Nat → Nat) (w0 : zW) (n : Nat) (nn z : Nat) (ls : Int32) (K : ∀ (bs : Int32), DV g M_Mm_looseIn (fun o cs1 => ∃ (v9 : Int32) (gp9 : Nat → Int32) (qn9 : Nat → Nat), o = .inl (some (.int v9)) ∧ cs1 = [(m, .inr (12, [.int th, .ref mp, .int pt, .ref mf, .ref mh, .ref mn, .ref mt, .ref mz, .ref mc_, .ref mq, .ref mgr, .int cl, .int wa, .int co_, .int fi, .int bu, .int ho, .ref ml, .ref mi, .ref mr, .int lh, .int mg, .int wd, .int fpi, .int fal, .ref mm, .ref mu, .ref mk, .ref mx, .long po, .long de])), (b, .inl (1, 108, .inl f)), (mgr, .inl (0, 108, .inl gp9)), (mq, .inl (0, 108, .inl (fun k => nI (qn9 k))))]) w0 n 67 [(5, .int bs), (4, .int (nI z)), (3, .int ls), (2, .int (nI nn)), (0, .ref m), (1, .ref b)] [] [(m, .inr (12, [.int th, .ref mp, .int pt, .ref mf, .ref mh, .ref mn, .ref mt, .ref mz, .ref mc_, .ref mq, .ref mgr, .int cl, .int wa, .int co_, .int fi, .int bu, .int ho, .ref ml, .ref mi, .ref mr, .int lh, .int mg, .int wd, .int fpi, .int fal, .ref mm, .ref mu, .ref mk, .ref mx, .long po, .long de])), (b, .inl (1, 108, .inl f)), (mgr, .inl (0, 108, .inl gp)), (mq, .inl (0, 108, .inl (fun k => nI (qn k))))] 0 0) : ∀ (d i : Nat) (bs : Int32), i ≤ 108 → 108 < i + d → DV g M_Mm_looseIn (fun o cs1 => ∃ (v9 : Int32) (gp9 : Nat → Int32) (qn9 : Nat → Nat), o = .inl (some (.int v9)) ∧ cs1 = [(m, .inr (12, [.int th, .ref mp, .int pt, .ref mf, .ref mh, .ref mn, .ref mt, .ref mz, .ref mc_, .ref mq, .ref mgr, .int cl, .int wa, .int co_, .int fi, .int bu, .int ho, .ref ml, .ref mi, .ref mr, .int lh, .int mg, .int wd, .int fpi, .int fal, .ref mm, .ref mu, .ref mk, .ref mx, .long po, .long de])), (b, .inl (1, 108, .inl f)), (mgr, .inl (0, 108, .inl gp9)), (mq, .inl (0, 108, .inl (fun k => nI (qn9 k))))]) w0 n 23 [(6, .int (nI i)), (5, .int bs), (4, .int (nI z)), (3, .int ls), (2, .int (nI nn)), (0, .ref m), (1, .ref b)] [] [(m, .inr (12, [.int th, .ref mp, .int pt, .ref mf, .ref mh, .ref mn, .ref mt, .ref mz, .ref mc_, .ref mq, .ref mgr, .int cl, .int wa, .int co_, .int fi, .int bu, .int ho, .ref ml, .ref mi, .ref mr, .int lh, .int mg, .int wd, .int fpi, .int fal, .ref mm, .ref mu, .ref mk, .ref mx, .long po, .long de])), (b, .inl (1, 108, .inl f)), (mgr, .inl (0, 108, .inl gp)), (mq, .inl (0, 108, .inl (fun k => nI (qn k))))] 0 0 := by
  intro d
  induction d with
  | zero => intro i bs h1 h2 ; exact absurd h2 (by omega)
  | succ d ih =>
    intro i bs h1 h2 
    refine r_iload d_Mm_looseIn_23 0 rfl ?_
    refine r_bipush d_Mm_looseIn_25 (v := 108) (by decide) ?_
    refine r_icmp_ge (tgt := 67) d_Mm_looseIn_27 (by decide) (fun c_27 => ?_) (fun c_27 => ?_)
    · have hn := z_le (a := 108) (by omega) (by decide) c_27
      obtain rfl : i = 108 := by omega
      refine r_lv (lv' := [(5, .int bs), (4, .int (nI z)), (3, .int ls), (2, .int (nI nn)), (0, .ref m), (1, .ref b)]) [1, 2, 3, 4, 5, 6] rfl ?_
      exact K _
    · have hn := z_nle (a := 108) (by omega) (by decide) c_27
      refine r_iload d_Mm_looseIn_30 1 rfl ?_
      refine r_aload_n d_Mm_looseIn_32 rfl 5 rfl ?_
      refine r_get fs_Mm_40 d_Mm_looseIn_33 (q0 := 0) rfl rfl ?_
      refine r_iload d_Mm_looseIn_36 0 rfl ?_
      refine r_iald d_Mm_looseIn_38 (q0 := 2) rfl (vp_in_nI (by omega) (by omega)) (v := gp i) (by rw [nI_clamp (by omega)]) ?_
      refine r_iload d_Mm_looseIn_39 2 rfl ?_
      refine r_icmp_ne (tgt := 57) d_Mm_looseIn_41 (by decide) (fun c_41 => ?_) (fun c_41 => ?_)
      · refine r_iconst d_Mm_looseIn_57 (v := 0) (by decide) ?_
        refine r_iadd d_Mm_looseIn_58 (v := bs + 0) rfl ?_
        refine r_istore (lv' := [(5, .int (bs + 0)), (6, .int (nI i)), (4, .int (nI z)), (3, .int ls), (2, .int (nI nn)), (0, .ref m), (1, .ref b)]) d_Mm_looseIn_59 (by decide) rfl ?_
        refine r_iinc (lv' := [(6, .int (nI (i + 1))), (5, .int (bs + 0)), (4, .int (nI z)), (3, .int ls), (2, .int (nI nn)), (0, .ref m), (1, .ref b)]) (v := nI (i + 1)) d_Mm_looseIn_61 (j := 1) rfl (nI_add _ _) (by decide) rfl ?_
        refine r_goto (tgt := 23) d_Mm_looseIn_64 (by decide) ?_
        exact ih (i + 1) _ (by omega) (by omega)
      · refine r_aload_n d_Mm_looseIn_44 rfl 6 rfl ?_
        refine r_iload d_Mm_looseIn_45 0 rfl ?_
        refine r_callS (As := [.ref b, .int (nI i)]) (rest := [.int bs]) (csC := [(b, .inl (1, 108, .inl f))]) (is := [1]) ln_Mm_127 w_st_Mm_isBesideSand ok_Mm_looseIn_Mm_isBesideSand d_Mm_looseIn_47 (C_Mm_isBesideSandW g b f i (by omega)) rfl rfl (Nat.le_of_ble_eq_true rfl) rfl (by decide) (by omega) (by omega) (fun E cs1 hx => ?_) (fun v cs1 hx => ?_)
        · obtain ⟨v9, -, e1, -⟩ := hx
          cases e1
        · obtain ⟨v9, -, e1, rfl⟩ := hx
          cases e1
          refine ⟨rfl, ?_⟩
          refine r_st (st2 := [.int v9, .int bs]) rfl ?_
          refine r_cs (cs2 := [(m, .inr (12, [.int th, .ref mp, .int pt, .ref mf, .ref mh, .ref mn, .ref mt, .ref mz, .ref mc_, .ref mq, .ref mgr, .int cl, .int wa, .int co_, .int fi, .int bu, .int ho, .ref ml, .ref mi, .ref mr, .int lh, .int mg, .int wd, .int fpi, .int fal, .ref mm, .ref mu, .ref mk, .ref mx, .long po, .long de])), (b, .inl (1, 108, .inl f)), (mgr, .inl (0, 108, .inl gp)), (mq, .inl (0, 108, .inl (fun k => nI (qn k))))]) rfl ?_
          refine r_if_eq (tgt := 57) d_Mm_looseIn_50 (by decide) (fun c_50 => ?_) (fun c_50 => ?_)
          · refine r_iconst d_Mm_looseIn_57 (v := 0) (by decide) ?_
            refine r_iadd d_Mm_looseIn_58 (v := bs + 0) rfl ?_
            refine r_istore (lv' := [(5, .int (bs + 0)), (6, .int (nI i)), (4, .int (nI z)), (3, .int ls), (2, .int (nI nn)), (0, .ref m), (1, .ref b)]) d_Mm_looseIn_59 (by decide) rfl ?_
            refine r_iinc (lv' := [(6, .int (nI (i + 1))), (5, .int (bs + 0)), (4, .int (nI z)), (3, .int ls), (2, .int (nI nn)), (0, .ref m), (1, .ref b)]) (v := nI (i + 1)) d_Mm_looseIn_61 (j := 1) rfl (nI_add _ _) (by decide) rfl ?_
            refine r_goto (tgt := 23) d_Mm_looseIn_64 (by decide) ?_
            exact ih (i + 1) _ (by omega) (by omega)
          · refine r_iconst d_Mm_looseIn_53 (v := 1) (by decide) ?_
            refine r_goto (tgt := 58) d_Mm_looseIn_54 (by decide) ?_
            refine r_iadd d_Mm_looseIn_58 (v := bs + 1) rfl ?_
            refine r_istore (lv' := [(5, .int (bs + 1)), (6, .int (nI i)), (4, .int (nI z)), (3, .int ls), (2, .int (nI nn)), (0, .ref m), (1, .ref b)]) d_Mm_looseIn_59 (by decide) rfl ?_
            refine r_iinc (lv' := [(6, .int (nI (i + 1))), (5, .int (bs + 1)), (4, .int (nI z)), (3, .int ls), (2, .int (nI nn)), (0, .ref m), (1, .ref b)]) (v := nI (i + 1)) d_Mm_looseIn_61 (j := 1) rfl (nI_add _ _) (by decide) rfl ?_
            refine r_goto (tgt := 23) d_Mm_looseIn_64 (by decide) ?_
            exact ih (i + 1) _ (by omega) (by omega)
set_option maxHeartbeats 4000000 in
set_option maxRecDepth 100000 in
theorem L_Mm_looseInW_11 (g : zG) (m mp mf mh mn mt mz mc_ mq mgr ml mi mr mm mu mk mx : Nat) (th pt cl wa co_ fi bu ho lh mg wd fpi fal : Int32) (po de : Int64) (b : Nat) (f : Nat → Int32) (gp : Nat → Int32) (qn : Nat → Nat) (w0 : zW) (n : Nat) (nn : Nat) (hnn : nn ≤ 108) : ∀ (d z : Nat) (ls : Int32) (gp : Nat → Int32) (qn : Nat → Nat), z ≤ nn → nn < z + d → DV g M_Mm_looseIn (fun o cs1 => ∃ (v9 : Int32) (gp9 : Nat → Int32) (qn9 : Nat → Nat), o = .inl (some (.int v9)) ∧ cs1 = [(m, .inr (12, [.int th, .ref mp, .int pt, .ref mf, .ref mh, .ref mn, .ref mt, .ref mz, .ref mc_, .ref mq, .ref mgr, .int cl, .int wa, .int co_, .int fi, .int bu, .int ho, .ref ml, .ref mi, .ref mr, .int lh, .int mg, .int wd, .int fpi, .int fal, .ref mm, .ref mu, .ref mk, .ref mx, .long po, .long de])), (b, .inl (1, 108, .inl f)), (mgr, .inl (0, 108, .inl gp9)), (mq, .inl (0, 108, .inl (fun k => nI (qn9 k))))]) w0 n 11 [(4, .int (nI z)), (3, .int ls), (2, .int (nI nn)), (0, .ref m), (1, .ref b)] [] [(m, .inr (12, [.int th, .ref mp, .int pt, .ref mf, .ref mh, .ref mn, .ref mt, .ref mz, .ref mc_, .ref mq, .ref mgr, .int cl, .int wa, .int co_, .int fi, .int bu, .int ho, .ref ml, .ref mi, .ref mr, .int lh, .int mg, .int wd, .int fpi, .int fal, .ref mm, .ref mu, .ref mk, .ref mx, .long po, .long de])), (b, .inl (1, 108, .inl f)), (mgr, .inl (0, 108, .inl gp)), (mq, .inl (0, 108, .inl (fun k => nI (qn k))))] 0 0 := by
  intro d
  induction d with
  | zero => intro z ls gp qn h1 h2 ; exact absurd h2 (by omega)
  | succ d ih =>
    intro z ls gp qn h1 h2 
    refine r_iload d_Mm_looseIn_11 0 rfl ?_
    refine r_iload_n d_Mm_looseIn_13 rfl 2 rfl ?_
    refine r_icmp_ge (tgt := 87) d_Mm_looseIn_14 (by decide) (fun c_14 => ?_) (fun c_14 => ?_)
    · refine r_iload_n d_Mm_looseIn_87 rfl 1 rfl ?_
      refine r_iret d_Mm_looseIn_88 rfl rfl ?_
      exact ⟨_, _, _, rfl, rfl⟩
    · have hn := z_nle (a := nn) (by omega) (by omega) c_14
      refine r_iconst d_Mm_looseIn_17 (v := 0) (by decide) ?_
      refine r_istore (lv' := [(5, .int 0), (4, .int (nI z)), (3, .int ls), (2, .int (nI nn)), (0, .ref m), (1, .ref b)]) d_Mm_looseIn_18 (by decide) rfl ?_
      refine r_iconst d_Mm_looseIn_20 (v := 0) (by decide) ?_
      refine r_istore (lv' := [(6, .int 0), (5, .int 0), (4, .int (nI z)), (3, .int ls), (2, .int (nI nn)), (0, .ref m), (1, .ref b)]) d_Mm_looseIn_21 (by decide) rfl ?_
      refine L_Mm_looseInW_23 g m mp mf mh mn mt mz mc_ mq mgr ml mi mr mm mu mk mx th pt cl wa co_ fi bu ho lh mg wd fpi fal po de b f gp qn w0 _ nn z ls (fun bs => ?_) (108 + 1) 0 _ (Nat.zero_le _) (by omega)
      refine r_iload_n d_Mm_looseIn_67 rfl 2 rfl ?_
      refine r_iload d_Mm_looseIn_68 0 rfl ?_
      refine r_iconst d_Mm_looseIn_70 (v := 2) (by decide) ?_
      refine r_icmp_ge (tgt := 78) d_Mm_looseIn_71 (by decide) (fun c_71 => ?_) (fun c_71 => ?_)
      · refine r_iconst d_Mm_looseIn_78 (v := 0) (by decide) ?_
        refine r_iadd d_Mm_looseIn_79 (v := ls + 0) rfl ?_
        refine r_istore_n (lv' := [(3, .int (ls + 0)), (5, .int bs), (4, .int (nI z)), (2, .int (nI nn)), (0, .ref m), (1, .ref b)]) d_Mm_looseIn_80 rfl (by decide) rfl ?_
        refine r_iinc (lv' := [(4, .int (nI (z + 1))), (3, .int (ls + 0)), (5, .int bs), (2, .int (nI nn)), (0, .ref m), (1, .ref b)]) (v := nI (z + 1)) d_Mm_looseIn_81 (j := 2) rfl (nI_add _ _) (by decide) rfl ?_
        refine r_goto (tgt := 11) d_Mm_looseIn_84 (by decide) ?_
        refine r_lv (lv' := [(4, .int (nI (z + 1))), (3, .int (ls + 0)), (2, .int (nI nn)), (0, .ref m), (1, .ref b)]) [0, 1, 3, 4, 5] rfl ?_
        exact ih (z + 1) _ _ _ (by omega) (by omega)
      · refine r_iconst d_Mm_looseIn_74 (v := 1) (by decide) ?_
        refine r_goto (tgt := 79) d_Mm_looseIn_75 (by decide) ?_
        refine r_iadd d_Mm_looseIn_79 (v := ls + 1) rfl ?_
        refine r_istore_n (lv' := [(3, .int (ls + 1)), (5, .int bs), (4, .int (nI z)), (2, .int (nI nn)), (0, .ref m), (1, .ref b)]) d_Mm_looseIn_80 rfl (by decide) rfl ?_
        refine r_iinc (lv' := [(4, .int (nI (z + 1))), (3, .int (ls + 1)), (5, .int bs), (2, .int (nI nn)), (0, .ref m), (1, .ref b)]) (v := nI (z + 1)) d_Mm_looseIn_81 (j := 2) rfl (nI_add _ _) (by decide) rfl ?_
        refine r_goto (tgt := 11) d_Mm_looseIn_84 (by decide) ?_
        refine r_lv (lv' := [(4, .int (nI (z + 1))), (3, .int (ls + 1)), (2, .int (nI nn)), (0, .ref m), (1, .ref b)]) [0, 1, 3, 4, 5] rfl ?_
        exact ih (z + 1) _ _ _ (by omega) (by omega)
set_option maxHeartbeats 4000000 in
set_option maxRecDepth 100000 in
theorem C_Mm_looseInW (g : zG) (m mp mf mh mn mt mz mc_ mq mgr ml mi mr mm mu mk mx : Nat) (th pt cl wa co_ fi bu ho lh mg wd fpi fal : Int32) (po de : Int64) (b : Nat) (f : Nat → Int32) (gp : Nat → Int32) (qn : Nat → Nat) : CT g M_Mm_looseIn [.ref m, .ref b] [(m, .inr (12, [.int th, .ref mp, .int pt, .ref mf, .ref mh, .ref mn, .ref mt, .ref mz, .ref mc_, .ref mq, .ref mgr, .int cl, .int wa, .int co_, .int fi, .int bu, .int ho, .ref ml, .ref mi, .ref mr, .int lh, .int mg, .int wd, .int fpi, .int fal, .ref mm, .ref mu, .ref mk, .ref mx, .long po, .long de])), (b, .inl (1, 108, .inl f)), (mgr, .inl (0, 108, .inl gp)), (mq, .inl (0, 108, .inl (fun k => nI (qn k))))] (fun o cs1 => ∃ (v9 : Int32) (gp9 : Nat → Int32) (qn9 : Nat → Nat), o = .inl (some (.int v9)) ∧ cs1 = [(m, .inr (12, [.int th, .ref mp, .int pt, .ref mf, .ref mh, .ref mn, .ref mt, .ref mz, .ref mc_, .ref mq, .ref mgr, .int cl, .int wa, .int co_, .int fi, .int bu, .int ho, .ref ml, .ref mi, .ref mr, .int lh, .int mg, .int wd, .int fpi, .int fal, .ref mm, .ref mu, .ref mk, .ref mx, .long po, .long de])), (b, .inl (1, 108, .inl f)), (mgr, .inl (0, 108, .inl gp9)), (mq, .inl (0, 108, .inl (fun k => nI (qn9 k))))]) 0 0 := by
  refine z_of (by decide) rfl (Nat.le_of_ble_eq_true rfl) (fun w0 => ?_)
  refine r_lvE (lv2 := [(0, .ref m), (1, .ref b)]) rfl ?_
  refine r_aload_n d_Mm_looseIn_0 rfl 0 rfl ?_
  refine r_aload_n d_Mm_looseIn_1 rfl 1 rfl ?_
  refine r_callV (As := [.ref b]) (rest := []) (csC := [(m, .inr (12, [.int th, .ref mp, .int pt, .ref mf, .ref mh, .ref mn, .ref mt, .ref mz, .ref mc_, .ref mq, .ref mgr, .int cl, .int wa, .int co_, .int fi, .int bu, .int ho, .ref ml, .ref mi, .ref mr, .int lh, .int mg, .int wd, .int fpi, .int fal, .ref mm, .ref mu, .ref mk, .ref mx, .long po, .long de])), (b, .inl (1, 108, .inl f)), (mgr, .inl (0, 108, .inl gp)), (mq, .inl (0, 108, .inl (fun k => nI (qn k))))]) (is := [0, 1, 2, 3]) (q0 := 0) rfl rfl ln_Mm_123 w_im_Mm_groupIn w_se_Mm_groupIn ok_Mm_looseIn_Mm_groupIn d_Mm_looseIn_2 (C_Mm_groupInW g m mp mf mh mn mt mz mc_ mq mgr ml mi mr mm mu mk mx th pt cl wa co_ fi bu ho lh mg wd fpi fal po de b f gp qn) rfl rfl (Nat.le_of_ble_eq_true rfl) rfl (by decide) (by omega) (by omega) (fun E cs1 hx => ?_) (fun v cs1 hx => ?_)
  · obtain ⟨nn9, gp9, qn9, -, e1, -⟩ := hx
    cases e1
  · obtain ⟨nn9, gp9, qn9, hnn9, e1, rfl⟩ := hx
    cases e1
    refine ⟨rfl, ?_⟩
    refine r_st (st2 := [.int (nI nn9)]) rfl ?_
    refine r_cs (cs2 := [(m, .inr (12, [.int th, .ref mp, .int pt, .ref mf, .ref mh, .ref mn, .ref mt, .ref mz, .ref mc_, .ref mq, .ref mgr, .int cl, .int wa, .int co_, .int fi, .int bu, .int ho, .ref ml, .ref mi, .ref mr, .int lh, .int mg, .int wd, .int fpi, .int fal, .ref mm, .ref mu, .ref mk, .ref mx, .long po, .long de])), (b, .inl (1, 108, .inl f)), (mgr, .inl (0, 108, .inl gp9)), (mq, .inl (0, 108, .inl (fun k => nI (qn9 k))))]) rfl ?_
    refine r_istore_n (lv' := [(2, .int (nI nn9)), (0, .ref m), (1, .ref b)]) d_Mm_looseIn_5 rfl (by decide) rfl ?_
    refine r_iconst d_Mm_looseIn_6 (v := 0) (by decide) ?_
    refine r_istore_n (lv' := [(3, .int 0), (2, .int (nI nn9)), (0, .ref m), (1, .ref b)]) d_Mm_looseIn_7 rfl (by decide) rfl ?_
    refine r_iconst d_Mm_looseIn_8 (v := 0) (by decide) ?_
    refine r_istore (lv' := [(4, .int 0), (3, .int 0), (2, .int (nI nn9)), (0, .ref m), (1, .ref b)]) d_Mm_looseIn_9 (by decide) rfl ?_
    exact L_Mm_looseInW_11 g m mp mf mh mn mt mz mc_ mq mgr ml mi mr mm mu mk mx th pt cl wa co_ fi bu ho lh mg wd fpi fal po de b f gp qn w0 _ nn9 hnn9 (nn9 + 1) 0 _ _ _ (Nat.zero_le _) (by omega)
set_option maxHeartbeats 4000000 in
set_option maxRecDepth 100000 in
theorem C_Mm_coresW (g : zG) (m mp mf mh mn mt mz mc_ mq mgr ml mi mr mm mu mk mx : Nat) (th pt cl wa co_ fi bu ho lh mg wd fpi fal : Int32) (po de : Int64) (f gp : Nat → Int32) (qn : Nat → Nat) : CT g M_Mm_cores [.ref m] [(m, .inr (12, [.int th, .ref mp, .int pt, .ref mf, .ref mh, .ref mn, .ref mt, .ref mz, .ref mc_, .ref mq, .ref mgr, .int cl, .int wa, .int co_, .int fi, .int bu, .int ho, .ref ml, .ref mi, .ref mr, .int lh, .int mg, .int wd, .int fpi, .int fal, .ref mm, .ref mu, .ref mk, .ref mx, .long po, .long de])), (mp, .inl (1, 108, .inl f)), (mgr, .inl (0, 108, .inl gp)), (mq, .inl (0, 108, .inl (fun k => nI (qn k))))] (fun o cs1 => ∃ (v9 : Int32) (gp9 : Nat → Int32) (qn9 : Nat → Nat), o = .inl (some (.int v9)) ∧ cs1 = [(m, .inr (12, [.int 0, .ref mp, .int pt, .ref mf, .ref mh, .ref mn, .ref mt, .ref mz, .ref mc_, .ref mq, .ref mgr, .int cl, .int wa, .int co_, .int fi, .int bu, .int ho, .ref ml, .ref mi, .ref mr, .int lh, .int mg, .int wd, .int fpi, .int fal, .ref mm, .ref mu, .ref mk, .ref mx, .long po, .long de])), (mp, .inl (1, 108, .inl f)), (mgr, .inl (0, 108, .inl gp9)), (mq, .inl (0, 108, .inl (fun k => nI (qn9 k))))]) 0 0 := by
  refine z_of (by decide) rfl (Nat.le_of_ble_eq_true rfl) (fun w0 => ?_)
  refine r_lvE (lv2 := [(0, .ref m)]) rfl ?_
  refine r_aload_n d_Mm_cores_0 rfl 0 rfl ?_
  refine r_iconst d_Mm_cores_1 (v := 0) (by decide) ?_
  refine r_put fp_Mm_84 d_Mm_cores_2 (fun h => nomatch h) rfl rfl (q0 := 0) rfl (Nat.le_of_ble_eq_true rfl) (cs' := [(m, .inr (12, [.int 0, .ref mp, .int pt, .ref mf, .ref mh, .ref mn, .ref mt, .ref mz, .ref mc_, .ref mq, .ref mgr, .int cl, .int wa, .int co_, .int fi, .int bu, .int ho, .ref ml, .ref mi, .ref mr, .int lh, .int mg, .int wd, .int fpi, .int fal, .ref mm, .ref mu, .ref mk, .ref mx, .long po, .long de])), (mp, .inl (1, 108, .inl f)), (mgr, .inl (0, 108, .inl gp)), (mq, .inl (0, 108, .inl (fun k => nI (qn k))))]) rfl ?_
  refine r_aload_n d_Mm_cores_5 rfl 0 rfl ?_
  refine r_aload_n d_Mm_cores_6 rfl 0 rfl ?_
  refine r_get fs_Mm_7 d_Mm_cores_7 (q0 := 0) rfl rfl ?_
  refine r_callV (As := [.ref mp]) (rest := []) (csC := [(m, .inr (12, [.int 0, .ref mp, .int pt, .ref mf, .ref mh, .ref mn, .ref mt, .ref mz, .ref mc_, .ref mq, .ref mgr, .int cl, .int wa, .int co_, .int fi, .int bu, .int ho, .ref ml, .ref mi, .ref mr, .int lh, .int mg, .int wd, .int fpi, .int fal, .ref mm, .ref mu, .ref mk, .ref mx, .long po, .long de])), (mp, .inl (1, 108, .inl f)), (mgr, .inl (0, 108, .inl gp)), (mq, .inl (0, 108, .inl (fun k => nI (qn k))))]) (is := [0, 1, 2, 3]) (q0 := 0) rfl rfl ln_Mm_123 w_im_Mm_groupIn w_se_Mm_groupIn ok_Mm_cores_Mm_groupIn d_Mm_cores_10 (C_Mm_groupInW g m mp mf mh mn mt mz mc_ mq mgr ml mi mr mm mu mk mx 0 pt cl wa co_ fi bu ho lh mg wd fpi fal po de mp f gp qn) rfl rfl (Nat.le_of_ble_eq_true rfl) rfl (by decide) (by omega) (by omega) (fun E cs1 hx => ?_) (fun v cs1 hx => ?_)
  · obtain ⟨nn9, gp9, qn9, -, e1, -⟩ := hx
    cases e1
  · obtain ⟨nn9, gp9, qn9, hnn9, e1, rfl⟩ := hx
    cases e1
    refine ⟨rfl, ?_⟩
    refine r_st (st2 := [.int (nI nn9)]) rfl ?_
    refine r_cs (cs2 := [(m, .inr (12, [.int 0, .ref mp, .int pt, .ref mf, .ref mh, .ref mn, .ref mt, .ref mz, .ref mc_, .ref mq, .ref mgr, .int cl, .int wa, .int co_, .int fi, .int bu, .int ho, .ref ml, .ref mi, .ref mr, .int lh, .int mg, .int wd, .int fpi, .int fal, .ref mm, .ref mu, .ref mk, .ref mx, .long po, .long de])), (mp, .inl (1, 108, .inl f)), (mgr, .inl (0, 108, .inl gp9)), (mq, .inl (0, 108, .inl (fun k => nI (qn9 k))))]) rfl ?_
    refine r_iret d_Mm_cores_13 rfl rfl ?_
    exact ⟨_, _, _, rfl, rfl⟩
set_option maxHeartbeats 4000000 in
set_option maxRecDepth 100000 in
theorem C_Mm_looseW (g : zG) (m mp mf mh mn mt mz mc_ mq mgr ml mi mr mm mu mk mx : Nat) (th pt cl wa co_ fi bu ho lh mg wd fpi fal : Int32) (po de : Int64) (f gp : Nat → Int32) (qn : Nat → Nat) : CT g M_Mm_loose [.ref m] [(m, .inr (12, [.int th, .ref mp, .int pt, .ref mf, .ref mh, .ref mn, .ref mt, .ref mz, .ref mc_, .ref mq, .ref mgr, .int cl, .int wa, .int co_, .int fi, .int bu, .int ho, .ref ml, .ref mi, .ref mr, .int lh, .int mg, .int wd, .int fpi, .int fal, .ref mm, .ref mu, .ref mk, .ref mx, .long po, .long de])), (mp, .inl (1, 108, .inl f)), (mgr, .inl (0, 108, .inl gp)), (mq, .inl (0, 108, .inl (fun k => nI (qn k))))] (fun o cs1 => ∃ (v9 : Int32) (gp9 : Nat → Int32) (qn9 : Nat → Nat), o = .inl (some (.int v9)) ∧ cs1 = [(m, .inr (12, [.int 0, .ref mp, .int pt, .ref mf, .ref mh, .ref mn, .ref mt, .ref mz, .ref mc_, .ref mq, .ref mgr, .int cl, .int wa, .int co_, .int fi, .int bu, .int ho, .ref ml, .ref mi, .ref mr, .int lh, .int mg, .int wd, .int fpi, .int fal, .ref mm, .ref mu, .ref mk, .ref mx, .long po, .long de])), (mp, .inl (1, 108, .inl f)), (mgr, .inl (0, 108, .inl gp9)), (mq, .inl (0, 108, .inl (fun k => nI (qn9 k))))]) 0 0 := by
  refine z_of (by decide) rfl (Nat.le_of_ble_eq_true rfl) (fun w0 => ?_)
  refine r_lvE (lv2 := [(0, .ref m)]) rfl ?_
  refine r_aload_n d_Mm_loose_0 rfl 0 rfl ?_
  refine r_iconst d_Mm_loose_1 (v := 0) (by decide) ?_
  refine r_put fp_Mm_84 d_Mm_loose_2 (fun h => nomatch h) rfl rfl (q0 := 0) rfl (Nat.le_of_ble_eq_true rfl) (cs' := [(m, .inr (12, [.int 0, .ref mp, .int pt, .ref mf, .ref mh, .ref mn, .ref mt, .ref mz, .ref mc_, .ref mq, .ref mgr, .int cl, .int wa, .int co_, .int fi, .int bu, .int ho, .ref ml, .ref mi, .ref mr, .int lh, .int mg, .int wd, .int fpi, .int fal, .ref mm, .ref mu, .ref mk, .ref mx, .long po, .long de])), (mp, .inl (1, 108, .inl f)), (mgr, .inl (0, 108, .inl gp)), (mq, .inl (0, 108, .inl (fun k => nI (qn k))))]) rfl ?_
  refine r_aload_n d_Mm_loose_5 rfl 0 rfl ?_
  refine r_aload_n d_Mm_loose_6 rfl 0 rfl ?_
  refine r_get fs_Mm_7 d_Mm_loose_7 (q0 := 0) rfl rfl ?_
  refine r_callV (As := [.ref mp]) (rest := []) (csC := [(m, .inr (12, [.int 0, .ref mp, .int pt, .ref mf, .ref mh, .ref mn, .ref mt, .ref mz, .ref mc_, .ref mq, .ref mgr, .int cl, .int wa, .int co_, .int fi, .int bu, .int ho, .ref ml, .ref mi, .ref mr, .int lh, .int mg, .int wd, .int fpi, .int fal, .ref mm, .ref mu, .ref mk, .ref mx, .long po, .long de])), (mp, .inl (1, 108, .inl f)), (mgr, .inl (0, 108, .inl gp)), (mq, .inl (0, 108, .inl (fun k => nI (qn k))))]) (is := [0, 1, 2, 3]) (q0 := 0) rfl rfl ln_Mm_131 w_im_Mm_looseIn w_se_Mm_looseIn ok_Mm_loose_Mm_looseIn d_Mm_loose_10 (C_Mm_looseInW g m mp mf mh mn mt mz mc_ mq mgr ml mi mr mm mu mk mx 0 pt cl wa co_ fi bu ho lh mg wd fpi fal po de mp f gp qn) rfl rfl (Nat.le_of_ble_eq_true rfl) rfl (by decide) (by omega) (by omega) (fun E cs1 hx => ?_) (fun v cs1 hx => ?_)
  · obtain ⟨v9, gp9, qn9, e1, -⟩ := hx
    cases e1
  · obtain ⟨v9, gp9, qn9, e1, rfl⟩ := hx
    cases e1
    refine ⟨rfl, ?_⟩
    refine r_st (st2 := [.int v9]) rfl ?_
    refine r_cs (cs2 := [(m, .inr (12, [.int 0, .ref mp, .int pt, .ref mf, .ref mh, .ref mn, .ref mt, .ref mz, .ref mc_, .ref mq, .ref mgr, .int cl, .int wa, .int co_, .int fi, .int bu, .int ho, .ref ml, .ref mi, .ref mr, .int lh, .int mg, .int wd, .int fpi, .int fal, .ref mm, .ref mu, .ref mk, .ref mx, .long po, .long de])), (mp, .inl (1, 108, .inl f)), (mgr, .inl (0, 108, .inl gp9)), (mq, .inl (0, 108, .inl (fun k => nI (qn9 k))))]) rfl ?_
    refine r_iret d_Mm_loose_13 rfl rfl ?_
    exact ⟨_, _, _, rfl, rfl⟩
set_option maxHeartbeats 4000000 in
set_option maxRecDepth 100000 in
theorem C_Mm_isFedW (g : zG) (m mp mf mh mn mt mz mc_ mq mgr ml mi mr mm mu mk mx : Nat) (th pt cl wa co_ fi bu ho lh mg wd fpi fal : Int32) (po de : Int64) (f fl he nx mtt fz ic : Nat → Int32) (qn : Nat → Nat) (x y : Nat) (hx0 : x < 12) (hy0 : y < 9) (h : Int32) (hh : 1200 ≤ h ∧ h ≤ 1500) : CT g M_Mm_isFed [.ref m, .int (nI x), .int (nI y), .int h] [(m, .inr (12, [.int th, .ref mp, .int pt, .ref mf, .ref mh, .ref mn, .ref mt, .ref mz, .ref mc_, .ref mq, .ref mgr, .int cl, .int wa, .int co_, .int fi, .int bu, .int ho, .ref ml, .ref mi, .ref mr, .int lh, .int mg, .int wd, .int fpi, .int fal, .ref mm, .ref mu, .ref mk, .ref mx, .long po, .long de])), (mp, .inl (1, 108, .inl f)), (mf, .inl (0, 108, .inl fl)), (mh, .inl (0, 108, .inl he)), (mt, .inl (0, 108, .inl mtt)), (mz, .inl (0, 108, .inl fz)), (mn, .inl (0, 108, .inl nx)), (mc_, .inl (2, 108, .inl ic)), (mq, .inl (0, 108, .inl (fun k => nI (qn k))))] (fun o cs1 => ∃ (v9 th9 : Int32) (fl9 he9 nx9 mt9 fz9 ic9 : Nat → Int32) (qn9 : Nat → Nat), (v9 = 0 ∨ v9 = 1) ∧ o = .inl (some (.int v9)) ∧ cs1 = [(m, .inr (12, [.int th9, .ref mp, .int pt, .ref mf, .ref mh, .ref mn, .ref mt, .ref mz, .ref mc_, .ref mq, .ref mgr, .int cl, .int wa, .int co_, .int fi, .int bu, .int ho, .ref ml, .ref mi, .ref mr, .int lh, .int mg, .int wd, .int fpi, .int fal, .ref mm, .ref mu, .ref mk, .ref mx, .long po, .long de])), (mp, .inl (1, 108, .inl f)), (mf, .inl (0, 108, .inl fl9)), (mh, .inl (0, 108, .inl he9)), (mt, .inl (0, 108, .inl mt9)), (mz, .inl (0, 108, .inl fz9)), (mn, .inl (0, 108, .inl nx9)), (mc_, .inl (2, 108, .inl ic9)), (mq, .inl (0, 108, .inl (fun k => nI (qn9 k))))]) 0 0 := by
  refine z_of (by decide) rfl (Nat.le_of_ble_eq_true rfl) (fun w0 => ?_)
  refine r_lvE (lv2 := [(0, .ref m), (1, .int (nI x)), (2, .int (nI y)), (3, .int h)]) rfl ?_
  refine r_aload_n d_Mm_isFed_0 rfl 0 rfl ?_
  refine r_iconst d_Mm_isFed_1 (v := 0) (by decide) ?_
  refine r_put fp_Mm_84 d_Mm_isFed_2 (fun h => nomatch h) rfl rfl (q0 := 0) rfl (Nat.le_of_ble_eq_true rfl) (cs' := [(m, .inr (12, [.int 0, .ref mp, .int pt, .ref mf, .ref mh, .ref mn, .ref mt, .ref mz, .ref mc_, .ref mq, .ref mgr, .int cl, .int wa, .int co_, .int fi, .int bu, .int ho, .ref ml, .ref mi, .ref mr, .int lh, .int mg, .int wd, .int fpi, .int fal, .ref mm, .ref mu, .ref mk, .ref mx, .long po, .long de])), (mp, .inl (1, 108, .inl f)), (mf, .inl (0, 108, .inl fl)), (mh, .inl (0, 108, .inl he)), (mt, .inl (0, 108, .inl mtt)), (mz, .inl (0, 108, .inl fz)), (mn, .inl (0, 108, .inl nx)), (mc_, .inl (2, 108, .inl ic)), (mq, .inl (0, 108, .inl (fun k => nI (qn k))))]) rfl ?_
  refine r_aload_n d_Mm_isFed_5 rfl 0 rfl ?_
  refine r_iload_n d_Mm_isFed_6 rfl 1 rfl ?_
  refine r_iload_n d_Mm_isFed_7 rfl 2 rfl ?_
  refine r_callS (As := [.int (nI x), .int (nI y)]) (rest := [.ref m]) (csC := []) (is := []) ln_Mm_91 w_st_Mm_isCell ok_Mm_isFed_Mm_isCell d_Mm_isFed_8 (C_Mm_isCell g (nI x) (nI y)) rfl rfl (Nat.le_of_ble_eq_true rfl) rfl (by decide) (by omega) (by omega) (fun E cs1 hx => ?_) (fun v cs1 hx => ?_)
  · exact absurd hx.1 (by simp)
  · obtain ⟨e1, rfl⟩ := hx
    rw [if_pos (z_cellN (by omega) (by omega))] at e1
    cases e1
    refine ⟨rfl, ?_⟩
    refine r_st (st2 := [.int 1, .ref m]) rfl ?_
    refine r_cs (cs2 := [(m, .inr (12, [.int 0, .ref mp, .int pt, .ref mf, .ref mh, .ref mn, .ref mt, .ref mz, .ref mc_, .ref mq, .ref mgr, .int cl, .int wa, .int co_, .int fi, .int bu, .int ho, .ref ml, .ref mi, .ref mr, .int lh, .int mg, .int wd, .int fpi, .int fal, .ref mm, .ref mu, .ref mk, .ref mx, .long po, .long de])), (mp, .inl (1, 108, .inl f)), (mf, .inl (0, 108, .inl fl)), (mh, .inl (0, 108, .inl he)), (mt, .inl (0, 108, .inl mtt)), (mz, .inl (0, 108, .inl fz)), (mn, .inl (0, 108, .inl nx)), (mc_, .inl (2, 108, .inl ic)), (mq, .inl (0, 108, .inl (fun k => nI (qn k))))]) rfl ?_
    refine r_if_ne (tgt := 18) d_Mm_isFed_11 (by decide) (fun c_11 => ?_) (fun c_11 => ?_)
    · refine r_iconst d_Mm_isFed_18 (v := 0) (by decide) ?_
      refine r_iconst d_Mm_isFed_19 (v := 1) (by decide) ?_
      refine r_callV (As := [.int 0, .int 1]) (rest := []) (csC := [(m, .inr (12, [.int 0, .ref mp, .int pt, .ref mf, .ref mh, .ref mn, .ref mt, .ref mz, .ref mc_, .ref mq, .ref mgr, .int cl, .int wa, .int co_, .int fi, .int bu, .int ho, .ref ml, .ref mi, .ref mr, .int lh, .int mg, .int wd, .int fpi, .int fal, .ref mm, .ref mu, .ref mk, .ref mx, .long po, .long de]))]) (is := [0]) (q0 := 0) rfl rfl ln_Mm_103 w_im_Mm_fails w_se_Mm_fails ok_Mm_isFed_Mm_fails d_Mm_isFed_20 (C_Mm_fails0 g m mp mf mh mn mt mz mc_ mq mgr ml mi mr mm mu mk mx th pt cl wa co_ fi bu ho lh mg wd fpi fal po de 1) rfl rfl (Nat.le_of_ble_eq_true rfl) rfl (by decide) (by omega) (by omega) (fun E cs1 hx => ?_) (fun v cs1 hx => ?_)
      · exact absurd hx.1 (by simp)
      · obtain ⟨e1, rfl⟩ := hx
        cases e1
        refine ⟨rfl, ?_⟩
        refine r_st (st2 := [.int 0]) rfl ?_
        refine r_cs (cs2 := [(m, .inr (12, [.int 0, .ref mp, .int pt, .ref mf, .ref mh, .ref mn, .ref mt, .ref mz, .ref mc_, .ref mq, .ref mgr, .int cl, .int wa, .int co_, .int fi, .int bu, .int ho, .ref ml, .ref mi, .ref mr, .int lh, .int mg, .int wd, .int fpi, .int fal, .ref mm, .ref mu, .ref mk, .ref mx, .long po, .long de])), (mp, .inl (1, 108, .inl f)), (mf, .inl (0, 108, .inl fl)), (mh, .inl (0, 108, .inl he)), (mt, .inl (0, 108, .inl mtt)), (mz, .inl (0, 108, .inl fz)), (mn, .inl (0, 108, .inl nx)), (mc_, .inl (2, 108, .inl ic)), (mq, .inl (0, 108, .inl (fun k => nI (qn k))))]) rfl ?_
        refine r_if_ne (tgt := 38) d_Mm_isFed_23 (by decide) (fun c_23 => ?_) (fun c_23 => ?_)
        · exact absurd c_23 (by decide)
        · refine r_aload_n d_Mm_isFed_26 rfl 0 rfl ?_
          refine r_iload_n d_Mm_isFed_27 rfl 3 rfl ?_
          refine r_callS (As := [.int h]) (rest := [.ref m]) (csC := []) (is := []) ln_Mm_163 w_st_Mm_noHeat ok_Mm_isFed_Mm_noHeat d_Mm_isFed_28 (C_Mm_noHeat0 g h hh) rfl rfl (Nat.le_of_ble_eq_true rfl) rfl (by decide) (by omega) (by omega) (fun E cs1 hx => ?_) (fun v cs1 hx => ?_)
          · exact absurd hx.1 (by simp)
          · obtain ⟨e1, rfl⟩ := hx
            cases e1
            refine ⟨rfl, ?_⟩
            refine r_st (st2 := [.int 0, .ref m]) rfl ?_
            refine r_cs (cs2 := [(m, .inr (12, [.int 0, .ref mp, .int pt, .ref mf, .ref mh, .ref mn, .ref mt, .ref mz, .ref mc_, .ref mq, .ref mgr, .int cl, .int wa, .int co_, .int fi, .int bu, .int ho, .ref ml, .ref mi, .ref mr, .int lh, .int mg, .int wd, .int fpi, .int fal, .ref mm, .ref mu, .ref mk, .ref mx, .long po, .long de])), (mp, .inl (1, 108, .inl f)), (mf, .inl (0, 108, .inl fl)), (mh, .inl (0, 108, .inl he)), (mt, .inl (0, 108, .inl mtt)), (mz, .inl (0, 108, .inl fz)), (mn, .inl (0, 108, .inl nx)), (mc_, .inl (2, 108, .inl ic)), (mq, .inl (0, 108, .inl (fun k => nI (qn k))))]) rfl ?_
            refine r_iconst d_Mm_isFed_31 (v := 2) (by decide) ?_
            refine r_callV (As := [.int 0, .int 2]) (rest := []) (csC := [(m, .inr (12, [.int 0, .ref mp, .int pt, .ref mf, .ref mh, .ref mn, .ref mt, .ref mz, .ref mc_, .ref mq, .ref mgr, .int cl, .int wa, .int co_, .int fi, .int bu, .int ho, .ref ml, .ref mi, .ref mr, .int lh, .int mg, .int wd, .int fpi, .int fal, .ref mm, .ref mu, .ref mk, .ref mx, .long po, .long de]))]) (is := [0]) (q0 := 0) rfl rfl ln_Mm_103 w_im_Mm_fails w_se_Mm_fails ok_Mm_isFed_Mm_fails d_Mm_isFed_32 (C_Mm_fails0 g m mp mf mh mn mt mz mc_ mq mgr ml mi mr mm mu mk mx th pt cl wa co_ fi bu ho lh mg wd fpi fal po de 2) rfl rfl (Nat.le_of_ble_eq_true rfl) rfl (by decide) (by omega) (by omega) (fun E cs1 hx => ?_) (fun v cs1 hx => ?_)
            · exact absurd hx.1 (by simp)
            · obtain ⟨e1, rfl⟩ := hx
              cases e1
              refine ⟨rfl, ?_⟩
              refine r_st (st2 := [.int 0]) rfl ?_
              refine r_cs (cs2 := [(m, .inr (12, [.int 0, .ref mp, .int pt, .ref mf, .ref mh, .ref mn, .ref mt, .ref mz, .ref mc_, .ref mq, .ref mgr, .int cl, .int wa, .int co_, .int fi, .int bu, .int ho, .ref ml, .ref mi, .ref mr, .int lh, .int mg, .int wd, .int fpi, .int fal, .ref mm, .ref mu, .ref mk, .ref mx, .long po, .long de])), (mp, .inl (1, 108, .inl f)), (mf, .inl (0, 108, .inl fl)), (mh, .inl (0, 108, .inl he)), (mt, .inl (0, 108, .inl mtt)), (mz, .inl (0, 108, .inl fz)), (mn, .inl (0, 108, .inl nx)), (mc_, .inl (2, 108, .inl ic)), (mq, .inl (0, 108, .inl (fun k => nI (qn k))))]) rfl ?_
              refine r_if_eq (tgt := 40) d_Mm_isFed_35 (by decide) (fun c_35 => ?_) (fun c_35 => ?_)
              · refine r_aload_n d_Mm_isFed_40 rfl 0 rfl ?_
                refine r_aload_n d_Mm_isFed_41 rfl 0 rfl ?_
                refine r_get fs_Mm_7 d_Mm_isFed_42 (q0 := 0) rfl rfl ?_
                refine r_iload_n d_Mm_isFed_45 rfl 3 rfl ?_
                refine r_callV (As := [.ref mp, .int h]) (rest := []) (csC := [(m, .inr (12, [.int 0, .ref mp, .int pt, .ref mf, .ref mh, .ref mn, .ref mt, .ref mz, .ref mc_, .ref mq, .ref mgr, .int cl, .int wa, .int co_, .int fi, .int bu, .int ho, .ref ml, .ref mi, .ref mr, .int lh, .int mg, .int wd, .int fpi, .int fal, .ref mm, .ref mu, .ref mk, .ref mx, .long po, .long de])), (mp, .inl (1, 108, .inl f)), (mf, .inl (0, 108, .inl fl)), (mh, .inl (0, 108, .inl he)), (mt, .inl (0, 108, .inl mtt)), (mz, .inl (0, 108, .inl fz)), (mn, .inl (0, 108, .inl nx)), (mc_, .inl (2, 108, .inl ic)), (mq, .inl (0, 108, .inl (fun k => nI (qn k))))]) (is := [0, 1, 2, 3, 4, 5, 6, 7, 8]) (q0 := 0) rfl rfl ln_Mm_170 w_im_Mm_feed w_se_Mm_feed ok_Mm_isFed_Mm_feed d_Mm_isFed_46 (C_Mm_feedW g m mp mf mh mn mt mz mc_ mq mgr ml mi mr mm mu mk mx 0 pt cl wa co_ fi bu ho lh mg wd fpi fal po de mp f fl he nx mtt fz ic qn h) rfl rfl (Nat.le_of_ble_eq_true rfl) rfl (by decide) (by omega) (by omega) (fun E cs1 hx => ?_) (fun v cs1 hx => ?_)
                · obtain ⟨fl9, he9, nx9, mt9, fz9, ic9, qn9, -, e1, -⟩ := hx
                  cases e1
                · obtain ⟨fl9, he9, nx9, mt9, fz9, ic9, qn9, hb9, e1, rfl⟩ := hx
                  cases e1
                  refine ⟨rfl, ?_⟩
                  refine r_st (st2 := []) rfl ?_
                  refine r_cs (cs2 := [(m, .inr (12, [.int 0, .ref mp, .int pt, .ref mf, .ref mh, .ref mn, .ref mt, .ref mz, .ref mc_, .ref mq, .ref mgr, .int cl, .int wa, .int co_, .int fi, .int bu, .int ho, .ref ml, .ref mi, .ref mr, .int lh, .int mg, .int wd, .int fpi, .int fal, .ref mm, .ref mu, .ref mk, .ref mx, .long po, .long de])), (mp, .inl (1, 108, .inl f)), (mf, .inl (0, 108, .inl fl9)), (mh, .inl (0, 108, .inl he9)), (mt, .inl (0, 108, .inl mt9)), (mz, .inl (0, 108, .inl fz9)), (mn, .inl (0, 108, .inl nx9)), (mc_, .inl (2, 108, .inl ic9)), (mq, .inl (0, 108, .inl (fun k => nI (qn9 k))))]) rfl ?_
                  refine r_aload_n d_Mm_isFed_49 rfl 0 rfl ?_
                  refine r_get fs_Mm_33 d_Mm_isFed_50 (q0 := 0) rfl rfl ?_
                  refine r_bipush d_Mm_isFed_53 (v := 12) (by decide) ?_
                  refine r_iload_n d_Mm_isFed_55 rfl 2 rfl ?_
                  refine r_imul d_Mm_isFed_56 (v := nI (12 * y)) (pk_mul _ _) ?_
                  refine r_iload_n d_Mm_isFed_57 rfl 1 rfl ?_
                  refine r_iadd d_Mm_isFed_58 (v := nI (12 * y + x)) (nI_add _ _) ?_
                  refine r_zald d_Mm_isFed_59 (q0 := 7) rfl (vp_in_nI (by omega) (by omega)) (v := ic9 (12 * y + x)) (by rw [nI_clamp (by omega)]) ?_
                  refine r_iret d_Mm_isFed_60 rfl (z_nar01 (hb9 _ (by omega))) ?_
                  exact ⟨_, _, _, _, _, _, _, _, _, hb9 _ (by omega), rfl, rfl⟩
              · exact absurd c_35 (by decide)
    · exact absurd c_11 (by decide)
end
section
theorem nI_z {a : Nat} (h : a < 2 ^ 31) (q : nI a = 0) : a = 0 := by
  by_cases e : a = 0
  · exact e
  · have h1 : nI 0 < nI a := (nI_ltI (by decide) h).mpr (by omega)
    rw [q] at h1
    exact absurd h1 (by decide)
theorem z_l0 {x : Int32} (h : ¬ x = 0) : ¬ x.toInt64 = 0 := fun q => h (by have := congrArg Int64.toInt32 q; simpa using this)
abbrev M_Mm_speedIn : zM := (⟨"IronpourModel", "speedIn", "([C)I"⟩, prog_14_method_25_code, 3, (Option.some FieldType.int), 2, 42, [])
theorem d_Mm_speedIn_4 : decode prog_14_method_25_code 4 = .ok (.iload_n 2, 1) := zo_28 (zd_b zq_prog_14_method_25_code_0 4 rfl rfl rfl)
theorem d_Mm_speedIn_5 : decode prog_14_method_25_code 5 = .ok (.bipush 108, 2) := zo_16 (d := 108) (zd_b zq_prog_14_method_25_code_0 5 rfl rfl rfl) (zd_b zq_prog_14_method_25_code_0 6 rfl rfl rfl) (by decide +kernel)
theorem d_Mm_speedIn_7 : decode prog_14_method_25_code 7 = .ok (.if_icmp .ge 28, 3) := zo_162 (d := 0) (e := 28) (zd_b zq_prog_14_method_25_code_0 7 rfl rfl rfl) (zd_b zq_prog_14_method_25_code_0 8 rfl rfl rfl) (zd_b zq_prog_14_method_25_code_0 9 rfl rfl rfl) (by decide +kernel)
theorem d_Mm_speedIn_35 : decode prog_14_method_25_code 35 = .ok (.bipush 60, 2) := zo_16 (d := 60) (zd_b zq_prog_14_method_25_code_1 3 rfl rfl rfl) (zd_b zq_prog_14_method_25_code_1 4 rfl rfl rfl) (by decide +kernel)
theorem d_Mm_speedIn_37 : decode prog_14_method_25_code 37 = .ok (.iload_n 1, 1) := zo_27 (zd_b zq_prog_14_method_25_code_1 5 rfl rfl rfl)
theorem d_Mm_speedIn_38 : decode prog_14_method_25_code 38 = .ok (.imul, 1) := zo_104 (zd_b zq_prog_14_method_25_code_1 6 rfl rfl rfl)
theorem d_Mm_speedIn_39 : decode prog_14_method_25_code 39 = .ok (.aload_n 0, 1) := zo_42 (zd_b zq_prog_14_method_25_code_1 7 rfl rfl rfl)
theorem d_Mm_speedIn_40 : decode prog_14_method_25_code 40 = .ok (.invokestatic 137, 3) := zo_184 (d := 0) (e := 137) (zd_b zq_prog_14_method_25_code_1 8 rfl rfl rfl) (zd_b zq_prog_14_method_25_code_1 9 rfl rfl rfl) (zd_b zq_prog_14_method_25_code_1 10 rfl rfl rfl)
theorem ok_Mm_speedIn_Mm_gates : z_ok M_Mm_speedIn M_Mm_gates 1 := ⟨z_mj8 (i := 18) rfl (by decide +kernel), rfl, ⟨by decide +kernel, by decide +kernel, by decide +kernel⟩, ⟨by decide, by decide⟩, z_mj1 (i := 14) rfl (by decide +kernel), rfl⟩
theorem d_Mm_speedIn_43 : decode prog_14_method_25_code 43 = .ok (.idiv, 1) := zo_108 (zd_b zq_prog_14_method_25_code_1 11 rfl rfl rfl)
theorem d_Mm_speedIn_44 : decode prog_14_method_25_code 44 = .ok (.ireturn, 1) := zo_172 (zd_b zq_prog_14_method_25_code_1 12 rfl rfl rfl)
theorem d_Mm_speedIn_10 : decode prog_14_method_25_code 10 = .ok (.aload_n 0, 1) := zo_42 (zd_b zq_prog_14_method_25_code_0 10 rfl rfl rfl)
theorem d_Mm_speedIn_11 : decode prog_14_method_25_code 11 = .ok (.iload_n 2, 1) := zo_28 (zd_b zq_prog_14_method_25_code_0 11 rfl rfl rfl)
theorem d_Mm_speedIn_12 : decode prog_14_method_25_code 12 = .ok (.caload, 1) := zo_52 (zd_b zq_prog_14_method_25_code_0 12 rfl rfl rfl)
theorem d_Mm_speedIn_13 : decode prog_14_method_25_code 13 = .ok (.bipush 103, 2) := zo_16 (d := 103) (zd_b zq_prog_14_method_25_code_0 13 rfl rfl rfl) (zd_b zq_prog_14_method_25_code_0 14 rfl rfl rfl) (by decide +kernel)
theorem d_Mm_speedIn_15 : decode prog_14_method_25_code 15 = .ok (.if_icmp .ne 12, 3) := zo_160 (d := 0) (e := 12) (zd_b zq_prog_14_method_25_code_0 15 rfl rfl rfl) (zd_b zq_prog_14_method_25_code_0 16 rfl rfl rfl) (zd_b zq_prog_14_method_25_code_0 17 rfl rfl rfl) (by decide +kernel)
theorem d_Mm_speedIn_27 : decode prog_14_method_25_code 27 = .ok (.iload_n 1, 1) := zo_27 (zd_b zq_prog_14_method_25_code_0 27 rfl rfl rfl)
theorem d_Mm_speedIn_28 : decode prog_14_method_25_code 28 = .ok (.istore_n 1, 1) := zo_60 (zd_b zq_prog_14_method_25_code_0 28 rfl rfl rfl)
theorem d_Mm_speedIn_29 : decode prog_14_method_25_code 29 = .ok (.iinc 2 1, 3) := by decide +kernel
theorem d_Mm_speedIn_32 : decode prog_14_method_25_code 32 = .ok (.goto (-28), 3) := zo_167 (d := 255) (e := 228) (zd_b zq_prog_14_method_25_code_1 0 rfl rfl rfl) (zd_b zq_prog_14_method_25_code_1 1 rfl rfl rfl) (zd_b zq_prog_14_method_25_code_1 2 rfl rfl rfl) (by decide +kernel)
theorem d_Mm_speedIn_18 : decode prog_14_method_25_code 18 = .ok (.iload_n 2, 1) := zo_28 (zd_b zq_prog_14_method_25_code_0 18 rfl rfl rfl)
theorem d_Mm_speedIn_19 : decode prog_14_method_25_code 19 = .ok (.bipush 12, 2) := zo_16 (d := 12) (zd_b zq_prog_14_method_25_code_0 19 rfl rfl rfl) (zd_b zq_prog_14_method_25_code_0 20 rfl rfl rfl) (by decide +kernel)
theorem d_Mm_speedIn_21 : decode prog_14_method_25_code 21 = .ok (.idiv, 1) := zo_108 (zd_b zq_prog_14_method_25_code_0 21 rfl rfl rfl)
theorem d_Mm_speedIn_22 : decode prog_14_method_25_code 22 = .ok (.iconst 1, 1) := zo_4 (zd_b zq_prog_14_method_25_code_0 22 rfl rfl rfl)
theorem d_Mm_speedIn_23 : decode prog_14_method_25_code 23 = .ok (.iadd, 1) := zo_96 (zd_b zq_prog_14_method_25_code_0 23 rfl rfl rfl)
theorem d_Mm_speedIn_24 : decode prog_14_method_25_code 24 = .ok (.goto 4, 3) := zo_167 (d := 0) (e := 4) (zd_b zq_prog_14_method_25_code_0 24 rfl rfl rfl) (zd_b zq_prog_14_method_25_code_0 25 rfl rfl rfl) (zd_b zq_prog_14_method_25_code_0 26 rfl rfl rfl) (by decide +kernel)
theorem d_Mm_speedIn_0 : decode prog_14_method_25_code 0 = .ok (.iconst 0, 1) := zo_3 (zd_b zq_prog_14_method_25_code_0 0 rfl rfl rfl)
theorem d_Mm_speedIn_1 : decode prog_14_method_25_code 1 = .ok (.istore_n 1, 1) := zo_60 (zd_b zq_prog_14_method_25_code_0 1 rfl rfl rfl)
theorem d_Mm_speedIn_2 : decode prog_14_method_25_code 2 = .ok (.iconst 0, 1) := zo_3 (zd_b zq_prog_14_method_25_code_0 2 rfl rfl rfl)
theorem d_Mm_speedIn_3 : decode prog_14_method_25_code 3 = .ok (.istore_n 2, 1) := zo_61 (zd_b zq_prog_14_method_25_code_0 3 rfl rfl rfl)
set_option maxHeartbeats 4000000 in
set_option maxRecDepth 100000 in
theorem L_Mm_speedInW_4 (g : zG) (b : Nat) (f : Nat → Int32) (hG : ¬ fa_cnt (fun k => decide (f k = 103)) 12 = 0) (w0 : zW) (n : Nat) : ∀ (d i : Nat) (lo : Int32), i ≤ 108 → 108 < i + d → DV g M_Mm_speedIn (fun o cs1 => ∃ v9 : Int32, o = .inl (some (.int v9)) ∧ cs1 = [(b, .inl (1, 108, .inl f))]) w0 n 4 [(2, .int (nI i)), (1, .int lo), (0, .ref b)] [] [(b, .inl (1, 108, .inl f))] 0 0 := by
  intro d
  induction d with
  | zero => intro i lo h1 h2 ; exact absurd h2 (by omega)
  | succ d ih =>
    intro i lo h1 h2 
    refine r_iload_n d_Mm_speedIn_4 rfl 0 rfl ?_
    refine r_bipush d_Mm_speedIn_5 (v := 108) (by decide) ?_
    refine r_icmp_ge (tgt := 35) d_Mm_speedIn_7 (by decide) (fun c_7 => ?_) (fun c_7 => ?_)
    · have hn := z_le (a := 108) (by omega) (by decide) c_7
      obtain rfl : i = 108 := by omega
      refine r_bipush d_Mm_speedIn_35 (v := 60) (by decide) ?_
      refine r_iload_n d_Mm_speedIn_37 rfl 1 rfl ?_
      refine r_imul d_Mm_speedIn_38 (v := 60 * lo) rfl ?_
      refine r_aload_n d_Mm_speedIn_39 rfl 2 rfl ?_
      refine r_callS (As := [.ref b]) (rest := [.int (60 * lo)]) (csC := [(b, .inl (1, 108, .inl f))]) (is := [0]) ln_Mm_137 w_st_Mm_gates ok_Mm_speedIn_Mm_gates d_Mm_speedIn_40 (C_Mm_gates g b f) rfl rfl (Nat.le_of_ble_eq_true rfl) rfl (by decide) (by omega) (by omega) (fun E cs1 hx => ?_) (fun v cs1 hx => ?_)
      · exact absurd hx.1 (by simp)
      · obtain ⟨e1, rfl⟩ := hx
        cases e1
        refine ⟨rfl, ?_⟩
        refine r_st (st2 := [.int (nI (fa_cnt (fun k => decide (f k = 103)) 12)), .int (60 * lo)]) rfl ?_
        refine r_cs (cs2 := [(b, .inl (1, 108, .inl f))]) rfl ?_
        refine r_idiv d_Mm_speedIn_43 (v := (60 * lo) / (nI (fa_cnt (fun k => decide (f k = 103)) 12))) (fun q => hG (nI_z (Nat.lt_of_le_of_lt (fa_cnt_le _ 12) (by decide)) q)) rfl ?_
        refine r_iret d_Mm_speedIn_44 rfl rfl ?_
        exact ⟨_, rfl, rfl⟩
    · have hn := z_nle (a := 108) (by omega) (by decide) c_7
      refine r_aload_n d_Mm_speedIn_10 rfl 2 rfl ?_
      refine r_iload_n d_Mm_speedIn_11 rfl 0 rfl ?_
      refine r_cald d_Mm_speedIn_12 (q0 := 0) rfl (vp_in_nI (by omega) (by omega)) (v := f i) (by rw [nI_clamp (by omega)]) ?_
      refine r_bipush d_Mm_speedIn_13 (v := 103) (by decide) ?_
      refine r_icmp_ne (tgt := 27) d_Mm_speedIn_15 (by decide) (fun c_15 => ?_) (fun c_15 => ?_)
      · refine r_iload_n d_Mm_speedIn_27 rfl 1 rfl ?_
        refine r_istore_n (lv' := [(1, .int lo), (2, .int (nI i)), (0, .ref b)]) d_Mm_speedIn_28 rfl (by decide) rfl ?_
        refine r_iinc (lv' := [(2, .int (nI (i + 1))), (1, .int lo), (0, .ref b)]) (v := nI (i + 1)) d_Mm_speedIn_29 (j := 1) rfl (nI_add _ _) (by decide) rfl ?_
        refine r_goto (tgt := 4) d_Mm_speedIn_32 (by decide) ?_
        exact ih (i + 1) _ (by omega) (by omega)
      · refine r_iload_n d_Mm_speedIn_18 rfl 0 rfl ?_
        refine r_bipush d_Mm_speedIn_19 (v := 12) (by decide) ?_
        refine r_idiv d_Mm_speedIn_21 (v := (nI i) / 12) (by decide) rfl ?_
        refine r_iconst d_Mm_speedIn_22 (v := 1) (by decide) ?_
        refine r_iadd d_Mm_speedIn_23 (v := ((nI i) / 12) + 1) rfl ?_
        refine r_goto (tgt := 28) d_Mm_speedIn_24 (by decide) ?_
        refine r_istore_n (lv' := [(1, .int (((nI i) / 12) + 1)), (2, .int (nI i)), (0, .ref b)]) d_Mm_speedIn_28 rfl (by decide) rfl ?_
        refine r_iinc (lv' := [(2, .int (nI (i + 1))), (1, .int (((nI i) / 12) + 1)), (0, .ref b)]) (v := nI (i + 1)) d_Mm_speedIn_29 (j := 1) rfl (nI_add _ _) (by decide) rfl ?_
        refine r_goto (tgt := 4) d_Mm_speedIn_32 (by decide) ?_
        exact ih (i + 1) _ (by omega) (by omega)
set_option maxHeartbeats 4000000 in
set_option maxRecDepth 100000 in
theorem C_Mm_speedInW (g : zG) (b : Nat) (f : Nat → Int32) (hG : ¬ fa_cnt (fun k => decide (f k = 103)) 12 = 0) : CT g M_Mm_speedIn [.ref b] [(b, .inl (1, 108, .inl f))] (fun o cs1 => ∃ v9 : Int32, o = .inl (some (.int v9)) ∧ cs1 = [(b, .inl (1, 108, .inl f))]) 0 0 := by
  refine z_of (by decide) rfl (Nat.le_of_ble_eq_true rfl) (fun w0 => ?_)
  refine r_lvE (lv2 := [(0, .ref b)]) rfl ?_
  refine r_iconst d_Mm_speedIn_0 (v := 0) (by decide) ?_
  refine r_istore_n (lv' := [(1, .int 0), (0, .ref b)]) d_Mm_speedIn_1 rfl (by decide) rfl ?_
  refine r_iconst d_Mm_speedIn_2 (v := 0) (by decide) ?_
  refine r_istore_n (lv' := [(2, .int 0), (1, .int 0), (0, .ref b)]) d_Mm_speedIn_3 rfl (by decide) rfl ?_
  exact L_Mm_speedInW_4 g b f hG w0 _  (108 + 1) 0 _ (Nat.zero_le _) (by omega)
theorem d_Mm_speed_20 : decode prog_14_method_26_code 20 = .ok (.iconst 0, 1) := zo_3 (zd_b zq_prog_14_method_26_code_0 20 rfl rfl rfl)
theorem d_Mm_speed_32 : decode prog_14_method_26_code 32 = .ok (.aload_n 0, 1) := zo_42 (zd_b zq_prog_14_method_26_code_1 0 rfl rfl rfl)
theorem d_Mm_speed_33 : decode prog_14_method_26_code 33 = .ok (.getfield 7, 3) := zo_180 (d := 0) (e := 7) (zd_b zq_prog_14_method_26_code_1 1 rfl rfl rfl) (zd_b zq_prog_14_method_26_code_1 2 rfl rfl rfl) (zd_b zq_prog_14_method_26_code_1 3 rfl rfl rfl)
theorem d_Mm_speed_36 : decode prog_14_method_26_code 36 = .ok (.invokestatic 147, 3) := zo_184 (d := 0) (e := 147) (zd_b zq_prog_14_method_26_code_1 4 rfl rfl rfl) (zd_b zq_prog_14_method_26_code_1 5 rfl rfl rfl) (zd_b zq_prog_14_method_26_code_1 6 rfl rfl rfl)
theorem ok_Mm_speed_Mm_speedIn : z_ok M_Mm_speed M_Mm_speedIn 1 := ⟨z_mj8 (i := 29) rfl (by decide +kernel), rfl, ⟨by decide +kernel, by decide +kernel, by decide +kernel⟩, ⟨by decide, by decide⟩, z_mj1 (i := 14) rfl (by decide +kernel), rfl⟩
theorem ln_Mm_147 : Cond.methodLink "IronpourModel" 147 M_Mm_speedIn.1 ∈ z_gw := z_mj8 (i := 27) rfl (by decide +kernel)
theorem w_st_Mm_speedIn : Cond.static M_Mm_speedIn.1 ∈ z_gw := z_mj8 (i := 28) rfl (by decide +kernel)
set_option maxHeartbeats 4000000 in
set_option maxRecDepth 100000 in
theorem C_Mm_speedW (g : zG) (m mp mf mh mn mt mz mc_ mq mgr ml mi mr mm mu mk mx : Nat) (th pt cl wa co_ fi bu ho lh mg wd fpi fal : Int32) (po de : Int64) (f : Nat → Int32) : CT g M_Mm_speed [.ref m] [(m, .inr (12, [.int th, .ref mp, .int pt, .ref mf, .ref mh, .ref mn, .ref mt, .ref mz, .ref mc_, .ref mq, .ref mgr, .int cl, .int wa, .int co_, .int fi, .int bu, .int ho, .ref ml, .ref mi, .ref mr, .int lh, .int mg, .int wd, .int fpi, .int fal, .ref mm, .ref mu, .ref mk, .ref mx, .long po, .long de])), (mp, .inl (1, 108, .inl f))] (fun o cs1 => ∃ v9 th9 : Int32, o = .inl (some (.int v9)) ∧ cs1 = [(m, .inr (12, [.int th9, .ref mp, .int pt, .ref mf, .ref mh, .ref mn, .ref mt, .ref mz, .ref mc_, .ref mq, .ref mgr, .int cl, .int wa, .int co_, .int fi, .int bu, .int ho, .ref ml, .ref mi, .ref mr, .int lh, .int mg, .int wd, .int fpi, .int fal, .ref mm, .ref mu, .ref mk, .ref mx, .long po, .long de])), (mp, .inl (1, 108, .inl f))]) 0 0 := by
  refine z_of (by decide) rfl (Nat.le_of_ble_eq_true rfl) (fun w0 => ?_)
  refine r_lvE (lv2 := [(0, .ref m)]) rfl ?_
  refine r_aload_n d_Mm_speed_0 rfl 0 rfl ?_
  refine r_iconst d_Mm_speed_1 (v := 0) (by decide) ?_
  refine r_put fp_Mm_84 d_Mm_speed_2 (fun h => nomatch h) rfl rfl (q0 := 0) rfl (Nat.le_of_ble_eq_true rfl) (cs' := [(m, .inr (12, [.int 0, .ref mp, .int pt, .ref mf, .ref mh, .ref mn, .ref mt, .ref mz, .ref mc_, .ref mq, .ref mgr, .int cl, .int wa, .int co_, .int fi, .int bu, .int ho, .ref ml, .ref mi, .ref mr, .int lh, .int mg, .int wd, .int fpi, .int fal, .ref mm, .ref mu, .ref mk, .ref mx, .long po, .long de])), (mp, .inl (1, 108, .inl f))]) rfl ?_
  refine r_aload_n d_Mm_speed_5 rfl 0 rfl ?_
  refine r_aload_n d_Mm_speed_6 rfl 0 rfl ?_
  refine r_get fs_Mm_7 d_Mm_speed_7 (q0 := 0) rfl rfl ?_
  refine r_callS (As := [.ref mp]) (rest := [.ref m]) (csC := [(mp, .inl (1, 108, .inl f))]) (is := [1]) ln_Mm_137 w_st_Mm_gates ok_Mm_speed_Mm_gates d_Mm_speed_10 (C_Mm_gates g mp f) rfl rfl (Nat.le_of_ble_eq_true rfl) rfl (by decide) (by omega) (by omega) (fun E cs1 hx => ?_) (fun v cs1 hx => ?_)
  · exact absurd hx.1 (by simp)
  · obtain ⟨e1, rfl⟩ := hx
    cases e1
    refine ⟨rfl, ?_⟩
    refine r_st (st2 := [.int (nI (fa_cnt (fun k => decide (f k = 103)) 12)), .ref m]) rfl ?_
    refine r_cs (cs2 := [(m, .inr (12, [.int 0, .ref mp, .int pt, .ref mf, .ref mh, .ref mn, .ref mt, .ref mz, .ref mc_, .ref mq, .ref mgr, .int cl, .int wa, .int co_, .int fi, .int bu, .int ho, .ref ml, .ref mi, .ref mr, .int lh, .int mg, .int wd, .int fpi, .int fal, .ref mm, .ref mu, .ref mk, .ref mx, .long po, .long de])), (mp, .inl (1, 108, .inl f))]) rfl ?_
    refine r_if_ne (tgt := 20) d_Mm_speed_13 (by decide) (fun c_13 => ?_) (fun c_13 => ?_)
    · refine r_iconst d_Mm_speed_20 (v := 0) (by decide) ?_
      refine r_iconst d_Mm_speed_21 (v := 1) (by decide) ?_
      refine r_callV (As := [.int 0, .int 1]) (rest := []) (csC := [(m, .inr (12, [.int 0, .ref mp, .int pt, .ref mf, .ref mh, .ref mn, .ref mt, .ref mz, .ref mc_, .ref mq, .ref mgr, .int cl, .int wa, .int co_, .int fi, .int bu, .int ho, .ref ml, .ref mi, .ref mr, .int lh, .int mg, .int wd, .int fpi, .int fal, .ref mm, .ref mu, .ref mk, .ref mx, .long po, .long de]))]) (is := [0]) (q0 := 0) rfl rfl ln_Mm_103 w_im_Mm_fails w_se_Mm_fails ok_Mm_speed_Mm_fails d_Mm_speed_22 (C_Mm_fails0 g m mp mf mh mn mt mz mc_ mq mgr ml mi mr mm mu mk mx th pt cl wa co_ fi bu ho lh mg wd fpi fal po de 1) rfl rfl (Nat.le_of_ble_eq_true rfl) rfl (by decide) (by omega) (by omega) (fun E cs1 hx => ?_) (fun v cs1 hx => ?_)
      · exact absurd hx.1 (by simp)
      · obtain ⟨e1, rfl⟩ := hx
        cases e1
        refine ⟨rfl, ?_⟩
        refine r_st (st2 := [.int 0]) rfl ?_
        refine r_cs (cs2 := [(m, .inr (12, [.int 0, .ref mp, .int pt, .ref mf, .ref mh, .ref mn, .ref mt, .ref mz, .ref mc_, .ref mq, .ref mgr, .int cl, .int wa, .int co_, .int fi, .int bu, .int ho, .ref ml, .ref mi, .ref mr, .int lh, .int mg, .int wd, .int fpi, .int fal, .ref mm, .ref mu, .ref mk, .ref mx, .long po, .long de])), (mp, .inl (1, 108, .inl f))]) rfl ?_
        refine r_if_eq (tgt := 32) d_Mm_speed_25 (by decide) (fun c_25 => ?_) (fun c_25 => ?_)
        · refine r_aload_n d_Mm_speed_32 rfl 0 rfl ?_
          refine r_get fs_Mm_7 d_Mm_speed_33 (q0 := 0) rfl rfl ?_
          refine r_callS (As := [.ref mp]) (rest := []) (csC := [(mp, .inl (1, 108, .inl f))]) (is := [1]) ln_Mm_147 w_st_Mm_speedIn ok_Mm_speed_Mm_speedIn d_Mm_speed_36 (C_Mm_speedInW g mp f (fun e => c_13 (by rw [e]; rfl))) rfl rfl (Nat.le_of_ble_eq_true rfl) rfl (by decide) (by omega) (by omega) (fun E cs1 hx => ?_) (fun v cs1 hx => ?_)
          · obtain ⟨v9, e1, -⟩ := hx
            cases e1
          · obtain ⟨v9, e1, rfl⟩ := hx
            cases e1
            refine ⟨rfl, ?_⟩
            refine r_st (st2 := [.int v9]) rfl ?_
            refine r_cs (cs2 := [(m, .inr (12, [.int 0, .ref mp, .int pt, .ref mf, .ref mh, .ref mn, .ref mt, .ref mz, .ref mc_, .ref mq, .ref mgr, .int cl, .int wa, .int co_, .int fi, .int bu, .int ho, .ref ml, .ref mi, .ref mr, .int lh, .int mg, .int wd, .int fpi, .int fal, .ref mm, .ref mu, .ref mk, .ref mx, .long po, .long de])), (mp, .inl (1, 108, .inl f))]) rfl ?_
            refine r_iret d_Mm_speed_39 rfl rfl ?_
            exact ⟨_, _, rfl, rfl⟩
        · exact absurd c_25 (by decide)
    · refine r_iconst d_Mm_speed_16 (v := 1) (by decide) ?_
      refine r_goto (tgt := 21) d_Mm_speed_17 (by decide) ?_
      refine r_iconst d_Mm_speed_21 (v := 1) (by decide) ?_
      refine r_callV (As := [.int 1, .int 1]) (rest := []) (csC := [(m, .inr (12, [.int 0, .ref mp, .int pt, .ref mf, .ref mh, .ref mn, .ref mt, .ref mz, .ref mc_, .ref mq, .ref mgr, .int cl, .int wa, .int co_, .int fi, .int bu, .int ho, .ref ml, .ref mi, .ref mr, .int lh, .int mg, .int wd, .int fpi, .int fal, .ref mm, .ref mu, .ref mk, .ref mx, .long po, .long de]))]) (is := [0]) (q0 := 0) rfl rfl ln_Mm_103 w_im_Mm_fails w_se_Mm_fails ok_Mm_speed_Mm_fails d_Mm_speed_22 (C_Mm_fails1 g m mp mf mh mn mt mz mc_ mq mgr ml mi mr mm mu mk mx th pt cl wa co_ fi bu ho lh mg wd fpi fal po de) rfl rfl (Nat.le_of_ble_eq_true rfl) rfl (by decide) (by omega) (by omega) (fun E cs1 hx => ?_) (fun v cs1 hx => ?_)
      · exact absurd hx.1 (by simp)
      · obtain ⟨e1, rfl⟩ := hx
        cases e1
        refine ⟨rfl, ?_⟩
        refine r_st (st2 := [.int 1]) rfl ?_
        refine r_cs (cs2 := [(m, .inr (12, [.int 1, .ref mp, .int pt, .ref mf, .ref mh, .ref mn, .ref mt, .ref mz, .ref mc_, .ref mq, .ref mgr, .int cl, .int wa, .int co_, .int fi, .int bu, .int ho, .ref ml, .ref mi, .ref mr, .int lh, .int mg, .int wd, .int fpi, .int fal, .ref mm, .ref mu, .ref mk, .ref mx, .long po, .long de])), (mp, .inl (1, 108, .inl f))]) rfl ?_
        refine r_if_eq (tgt := 32) d_Mm_speed_25 (by decide) (fun c_25 => ?_) (fun c_25 => ?_)
        · exact absurd c_25 (by decide)
        · refine r_iconst d_Mm_speed_28 (v := 0) (by decide) ?_
          refine r_goto (tgt := 39) d_Mm_speed_29 (by decide) ?_
          refine r_iret d_Mm_speed_39 rfl rfl ?_
          exact ⟨_, _, rfl, rfl⟩
abbrev M_Mm_move : zM := (⟨"IronpourModel", "move", "(III)V"⟩, prog_14_method_57_code, 8, (Option.none : Option FieldType), 1, 20, [])
theorem d_Mm_move_11 : decode prog_14_method_57_code 11 = .ok (.iload 5, 2) := zo_21 (d := 5) (zd_b zq_prog_14_method_57_code_0 11 rfl rfl rfl) (zd_b zq_prog_14_method_57_code_0 12 rfl rfl rfl)
theorem d_Mm_move_13 : decode prog_14_method_57_code 13 = .ok (.iconst 4, 1) := zo_7 (zd_b zq_prog_14_method_57_code_0 13 rfl rfl rfl)
theorem d_Mm_move_14 : decode prog_14_method_57_code 14 = .ok (.if_icmp .ge 61, 3) := zo_162 (d := 0) (e := 61) (zd_b zq_prog_14_method_57_code_0 14 rfl rfl rfl) (zd_b zq_prog_14_method_57_code_0 15 rfl rfl rfl) (zd_b zq_prog_14_method_57_code_0 16 rfl rfl rfl) (by decide +kernel)
theorem d_Mm_move_75 : decode prog_14_method_57_code 75 = .ok (.aload_n 0, 1) := zo_42 (zd_b zq_prog_14_method_57_code_2 11 rfl rfl rfl)
theorem d_Mm_move_76 : decode prog_14_method_57_code 76 = .ok (.getfield 62, 3) := zo_180 (d := 0) (e := 62) (zd_b zq_prog_14_method_57_code_2 12 rfl rfl rfl) (zd_b zq_prog_14_method_57_code_2 13 rfl rfl rfl) (zd_b zq_prog_14_method_57_code_2 14 rfl rfl rfl)
theorem d_Mm_move_79 : decode prog_14_method_57_code 79 = .ok (.iload_n 1, 1) := zo_27 (zd_b zq_prog_14_method_57_code_2 15 rfl rfl rfl)
theorem d_Mm_move_80 : decode prog_14_method_57_code 80 = .ok (.dup2, 1) := zo_92 (zd_b zq_prog_14_method_57_code_2 16 rfl rfl rfl)
theorem d_Mm_move_81 : decode prog_14_method_57_code 81 = .ok (.iaload, 1) := zo_46 (zd_b zq_prog_14_method_57_code_2 17 rfl rfl rfl)
theorem d_Mm_move_82 : decode prog_14_method_57_code 82 = .ok (.iload_n 3, 1) := zo_29 (zd_b zq_prog_14_method_57_code_2 18 rfl rfl rfl)
theorem d_Mm_move_83 : decode prog_14_method_57_code 83 = .ok (.isub, 1) := zo_100 (zd_b zq_prog_14_method_57_code_2 19 rfl rfl rfl)
theorem d_Mm_move_84 : decode prog_14_method_57_code 84 = .ok (.iastore, 1) := zo_79 (zd_b zq_prog_14_method_57_code_2 20 rfl rfl rfl)
theorem d_Mm_move_85 : decode prog_14_method_57_code 85 = .ok (.aload_n 0, 1) := zo_42 (zd_b zq_prog_14_method_57_code_2 21 rfl rfl rfl)
theorem d_Mm_move_86 : decode prog_14_method_57_code 86 = .ok (.getfield 62, 3) := zo_180 (d := 0) (e := 62) (zd_b zq_prog_14_method_57_code_2 22 rfl rfl rfl) (zd_b zq_prog_14_method_57_code_2 23 rfl rfl rfl) (zd_b zq_prog_14_method_57_code_2 24 rfl rfl rfl)
theorem d_Mm_move_89 : decode prog_14_method_57_code 89 = .ok (.iload_n 2, 1) := zo_28 (zd_b zq_prog_14_method_57_code_2 25 rfl rfl rfl)
theorem d_Mm_move_90 : decode prog_14_method_57_code 90 = .ok (.dup2, 1) := zo_92 (zd_b zq_prog_14_method_57_code_2 26 rfl rfl rfl)
theorem d_Mm_move_91 : decode prog_14_method_57_code 91 = .ok (.iaload, 1) := zo_46 (zd_b zq_prog_14_method_57_code_2 27 rfl rfl rfl)
theorem d_Mm_move_92 : decode prog_14_method_57_code 92 = .ok (.iload_n 3, 1) := zo_29 (zd_b zq_prog_14_method_57_code_2 28 rfl rfl rfl)
theorem d_Mm_move_93 : decode prog_14_method_57_code 93 = .ok (.iadd, 1) := zo_96 (zd_b zq_prog_14_method_57_code_2 29 rfl rfl rfl)
theorem d_Mm_move_94 : decode prog_14_method_57_code 94 = .ok (.iastore, 1) := zo_79 (zd_b zq_prog_14_method_57_code_2 30 rfl rfl rfl)
theorem d_Mm_move_95 : decode prog_14_method_57_code 95 = .ok (.return_, 1) := zo_177 (zd_b zq_prog_14_method_57_code_2 31 rfl rfl rfl)
theorem d_Mm_move_17 : decode prog_14_method_57_code 17 = .ok (.aload_n 0, 1) := zo_42 (zd_b zq_prog_14_method_57_code_0 17 rfl rfl rfl)
theorem d_Mm_move_18 : decode prog_14_method_57_code 18 = .ok (.getfield 65, 3) := zo_180 (d := 0) (e := 65) (zd_b zq_prog_14_method_57_code_0 18 rfl rfl rfl) (zd_b zq_prog_14_method_57_code_0 19 rfl rfl rfl) (zd_b zq_prog_14_method_57_code_0 20 rfl rfl rfl)
theorem d_Mm_move_21 : decode prog_14_method_57_code 21 = .ok (.iconst 4, 1) := zo_7 (zd_b zq_prog_14_method_57_code_0 21 rfl rfl rfl)
theorem d_Mm_move_22 : decode prog_14_method_57_code 22 = .ok (.iload_n 1, 1) := zo_27 (zd_b zq_prog_14_method_57_code_0 22 rfl rfl rfl)
theorem d_Mm_move_23 : decode prog_14_method_57_code 23 = .ok (.imul, 1) := zo_104 (zd_b zq_prog_14_method_57_code_0 23 rfl rfl rfl)
theorem d_Mm_move_24 : decode prog_14_method_57_code 24 = .ok (.iload 5, 2) := zo_21 (d := 5) (zd_b zq_prog_14_method_57_code_0 24 rfl rfl rfl) (zd_b zq_prog_14_method_57_code_0 25 rfl rfl rfl)
theorem d_Mm_move_26 : decode prog_14_method_57_code 26 = .ok (.iadd, 1) := zo_96 (zd_b zq_prog_14_method_57_code_0 26 rfl rfl rfl)
theorem d_Mm_move_27 : decode prog_14_method_57_code 27 = .ok (.laload, 1) := zo_47 (zd_b zq_prog_14_method_57_code_0 27 rfl rfl rfl)
theorem d_Mm_move_28 : decode prog_14_method_57_code 28 = .ok (.iload_n 3, 1) := zo_29 (zd_b zq_prog_14_method_57_code_0 28 rfl rfl rfl)
theorem d_Mm_move_29 : decode prog_14_method_57_code 29 = .ok (.i2l, 1) := zo_133 (zd_b zq_prog_14_method_57_code_0 29 rfl rfl rfl)
theorem d_Mm_move_30 : decode prog_14_method_57_code 30 = .ok (.lmul, 1) := zo_105 (zd_b zq_prog_14_method_57_code_0 30 rfl rfl rfl)
theorem d_Mm_move_31 : decode prog_14_method_57_code 31 = .ok (.iload 4, 2) := zo_21 (d := 4) (zd_b zq_prog_14_method_57_code_0 31 rfl rfl rfl) (zd_b zq_prog_14_method_57_code_1 0 rfl rfl rfl)
theorem d_Mm_move_33 : decode prog_14_method_57_code 33 = .ok (.i2l, 1) := zo_133 (zd_b zq_prog_14_method_57_code_1 1 rfl rfl rfl)
theorem d_Mm_move_34 : decode prog_14_method_57_code 34 = .ok (.ldiv, 1) := zo_109 (zd_b zq_prog_14_method_57_code_1 2 rfl rfl rfl)
theorem d_Mm_move_35 : decode prog_14_method_57_code 35 = .ok (.lstore 6, 2) := zo_55 (d := 6) (zd_b zq_prog_14_method_57_code_1 3 rfl rfl rfl) (zd_b zq_prog_14_method_57_code_1 4 rfl rfl rfl)
theorem d_Mm_move_37 : decode prog_14_method_57_code 37 = .ok (.aload_n 0, 1) := zo_42 (zd_b zq_prog_14_method_57_code_1 5 rfl rfl rfl)
theorem d_Mm_move_38 : decode prog_14_method_57_code 38 = .ok (.getfield 65, 3) := zo_180 (d := 0) (e := 65) (zd_b zq_prog_14_method_57_code_1 6 rfl rfl rfl) (zd_b zq_prog_14_method_57_code_1 7 rfl rfl rfl) (zd_b zq_prog_14_method_57_code_1 8 rfl rfl rfl)
theorem d_Mm_move_41 : decode prog_14_method_57_code 41 = .ok (.iconst 4, 1) := zo_7 (zd_b zq_prog_14_method_57_code_1 9 rfl rfl rfl)
theorem d_Mm_move_42 : decode prog_14_method_57_code 42 = .ok (.iload_n 1, 1) := zo_27 (zd_b zq_prog_14_method_57_code_1 10 rfl rfl rfl)
theorem d_Mm_move_43 : decode prog_14_method_57_code 43 = .ok (.imul, 1) := zo_104 (zd_b zq_prog_14_method_57_code_1 11 rfl rfl rfl)
theorem d_Mm_move_44 : decode prog_14_method_57_code 44 = .ok (.iload 5, 2) := zo_21 (d := 5) (zd_b zq_prog_14_method_57_code_1 12 rfl rfl rfl) (zd_b zq_prog_14_method_57_code_1 13 rfl rfl rfl)
theorem d_Mm_move_46 : decode prog_14_method_57_code 46 = .ok (.iadd, 1) := zo_96 (zd_b zq_prog_14_method_57_code_1 14 rfl rfl rfl)
theorem d_Mm_move_47 : decode prog_14_method_57_code 47 = .ok (.dup2, 1) := zo_92 (zd_b zq_prog_14_method_57_code_1 15 rfl rfl rfl)
theorem d_Mm_move_48 : decode prog_14_method_57_code 48 = .ok (.laload, 1) := zo_47 (zd_b zq_prog_14_method_57_code_1 16 rfl rfl rfl)
theorem d_Mm_move_49 : decode prog_14_method_57_code 49 = .ok (.lload 6, 2) := zo_22 (d := 6) (zd_b zq_prog_14_method_57_code_1 17 rfl rfl rfl) (zd_b zq_prog_14_method_57_code_1 18 rfl rfl rfl)
theorem d_Mm_move_51 : decode prog_14_method_57_code 51 = .ok (.lsub, 1) := zo_101 (zd_b zq_prog_14_method_57_code_1 19 rfl rfl rfl)
theorem d_Mm_move_52 : decode prog_14_method_57_code 52 = .ok (.lastore, 1) := zo_80 (zd_b zq_prog_14_method_57_code_1 20 rfl rfl rfl)
theorem d_Mm_move_53 : decode prog_14_method_57_code 53 = .ok (.aload_n 0, 1) := zo_42 (zd_b zq_prog_14_method_57_code_1 21 rfl rfl rfl)
theorem d_Mm_move_54 : decode prog_14_method_57_code 54 = .ok (.getfield 65, 3) := zo_180 (d := 0) (e := 65) (zd_b zq_prog_14_method_57_code_1 22 rfl rfl rfl) (zd_b zq_prog_14_method_57_code_1 23 rfl rfl rfl) (zd_b zq_prog_14_method_57_code_1 24 rfl rfl rfl)
theorem d_Mm_move_57 : decode prog_14_method_57_code 57 = .ok (.iconst 4, 1) := zo_7 (zd_b zq_prog_14_method_57_code_1 25 rfl rfl rfl)
theorem d_Mm_move_58 : decode prog_14_method_57_code 58 = .ok (.iload_n 2, 1) := zo_28 (zd_b zq_prog_14_method_57_code_1 26 rfl rfl rfl)
theorem d_Mm_move_59 : decode prog_14_method_57_code 59 = .ok (.imul, 1) := zo_104 (zd_b zq_prog_14_method_57_code_1 27 rfl rfl rfl)
theorem d_Mm_move_60 : decode prog_14_method_57_code 60 = .ok (.iload 5, 2) := zo_21 (d := 5) (zd_b zq_prog_14_method_57_code_1 28 rfl rfl rfl) (zd_b zq_prog_14_method_57_code_1 29 rfl rfl rfl)
theorem d_Mm_move_62 : decode prog_14_method_57_code 62 = .ok (.iadd, 1) := zo_96 (zd_b zq_prog_14_method_57_code_1 30 rfl rfl rfl)
theorem d_Mm_move_63 : decode prog_14_method_57_code 63 = .ok (.dup2, 1) := zo_92 (zd_b zq_prog_14_method_57_code_1 31 rfl rfl rfl)
theorem d_Mm_move_64 : decode prog_14_method_57_code 64 = .ok (.laload, 1) := zo_47 (zd_b zq_prog_14_method_57_code_2 0 rfl rfl rfl)
theorem d_Mm_move_65 : decode prog_14_method_57_code 65 = .ok (.lload 6, 2) := zo_22 (d := 6) (zd_b zq_prog_14_method_57_code_2 1 rfl rfl rfl) (zd_b zq_prog_14_method_57_code_2 2 rfl rfl rfl)
theorem d_Mm_move_67 : decode prog_14_method_57_code 67 = .ok (.ladd, 1) := zo_97 (zd_b zq_prog_14_method_57_code_2 3 rfl rfl rfl)
theorem d_Mm_move_68 : decode prog_14_method_57_code 68 = .ok (.lastore, 1) := zo_80 (zd_b zq_prog_14_method_57_code_2 4 rfl rfl rfl)
theorem d_Mm_move_69 : decode prog_14_method_57_code 69 = .ok (.iinc 5 1, 3) := by decide +kernel
theorem d_Mm_move_72 : decode prog_14_method_57_code 72 = .ok (.goto (-61), 3) := zo_167 (d := 255) (e := 195) (zd_b zq_prog_14_method_57_code_2 8 rfl rfl rfl) (zd_b zq_prog_14_method_57_code_2 9 rfl rfl rfl) (zd_b zq_prog_14_method_57_code_2 10 rfl rfl rfl) (by decide +kernel)
theorem d_Mm_move_0 : decode prog_14_method_57_code 0 = .ok (.aload_n 0, 1) := zo_42 (zd_b zq_prog_14_method_57_code_0 0 rfl rfl rfl)
theorem d_Mm_move_1 : decode prog_14_method_57_code 1 = .ok (.getfield 62, 3) := zo_180 (d := 0) (e := 62) (zd_b zq_prog_14_method_57_code_0 1 rfl rfl rfl) (zd_b zq_prog_14_method_57_code_0 2 rfl rfl rfl) (zd_b zq_prog_14_method_57_code_0 3 rfl rfl rfl)
theorem d_Mm_move_4 : decode prog_14_method_57_code 4 = .ok (.iload_n 1, 1) := zo_27 (zd_b zq_prog_14_method_57_code_0 4 rfl rfl rfl)
theorem d_Mm_move_5 : decode prog_14_method_57_code 5 = .ok (.iaload, 1) := zo_46 (zd_b zq_prog_14_method_57_code_0 5 rfl rfl rfl)
theorem d_Mm_move_6 : decode prog_14_method_57_code 6 = .ok (.istore 4, 2) := zo_54 (d := 4) (zd_b zq_prog_14_method_57_code_0 6 rfl rfl rfl) (zd_b zq_prog_14_method_57_code_0 7 rfl rfl rfl)
theorem d_Mm_move_8 : decode prog_14_method_57_code 8 = .ok (.iconst 0, 1) := zo_3 (zd_b zq_prog_14_method_57_code_0 8 rfl rfl rfl)
theorem d_Mm_move_9 : decode prog_14_method_57_code 9 = .ok (.istore 5, 2) := zo_54 (d := 5) (zd_b zq_prog_14_method_57_code_0 9 rfl rfl rfl) (zd_b zq_prog_14_method_57_code_0 10 rfl rfl rfl)
theorem d_Mm_tap_66 : decode prog_14_method_62_code 66 = .ok (.iconst 0, 1) := zo_3 (zd_b zq_prog_14_method_62_code_2 2 rfl rfl rfl)
theorem d_Mm_tap_76 : decode prog_14_method_62_code 76 = .ok (.aload_n 0, 1) := zo_42 (zd_b zq_prog_14_method_62_code_2 12 rfl rfl rfl)
theorem d_Mm_tap_77 : decode prog_14_method_62_code 77 = .ok (.iconst 0, 1) := zo_3 (zd_b zq_prog_14_method_62_code_2 13 rfl rfl rfl)
theorem d_Mm_tap_78 : decode prog_14_method_62_code 78 = .ok (.iconst 1, 1) := zo_4 (zd_b zq_prog_14_method_62_code_2 14 rfl rfl rfl)
theorem d_Mm_tap_79 : decode prog_14_method_62_code 79 = .ok (.iload_n 1, 1) := zo_27 (zd_b zq_prog_14_method_62_code_2 15 rfl rfl rfl)
theorem d_Mm_tap_80 : decode prog_14_method_62_code 80 = .ok (.invokevirtual 236, 3) := zo_182 (d := 0) (e := 236) (zd_b zq_prog_14_method_62_code_2 16 rfl rfl rfl) (zd_b zq_prog_14_method_62_code_2 17 rfl rfl rfl) (zd_b zq_prog_14_method_62_code_2 18 rfl rfl rfl)
theorem ok_Mm_tap_Mm_move : z_ok M_Mm_tap M_Mm_move 3 := ⟨z_mj8 (i := 153) rfl (by decide +kernel), rfl, ⟨by decide +kernel, by decide +kernel, by decide +kernel⟩, ⟨by decide, by decide⟩, z_mj1 (i := 14) rfl (by decide +kernel), rfl⟩
theorem ln_Mm_236 : Cond.methodLink "IronpourModel" 236 M_Mm_move.1 ∈ z_gw := z_mj8 (i := 150) rfl (by decide +kernel)
theorem w_im_Mm_move : Cond.instanceMethod M_Mm_move.1 ∈ z_gw := z_mj8 (i := 152) rfl (by decide +kernel)
theorem w_se_Mm_move : Cond.selects M_Mm_move.1.cls M_Mm_move.1 M_Mm_move.1 ∈ z_gw := z_mem (i := 48) (by decide +kernel) (by decide +kernel)
theorem d_Mm_tap_83 : decode prog_14_method_62_code 83 = .ok (.aload_n 0, 1) := zo_42 (zd_b zq_prog_14_method_62_code_2 19 rfl rfl rfl)
theorem d_Mm_tap_84 : decode prog_14_method_62_code 84 = .ok (.sipush 1450, 3) := zo_17 (d := 5) (e := 170) (zd_b zq_prog_14_method_62_code_2 20 rfl rfl rfl) (zd_b zq_prog_14_method_62_code_2 21 rfl rfl rfl) (zd_b zq_prog_14_method_62_code_2 22 rfl rfl rfl) (by decide +kernel)
theorem d_Mm_tap_87 : decode prog_14_method_62_code 87 = .ok (.putfield 257, 3) := zo_181 (d := 1) (e := 1) (zd_b zq_prog_14_method_62_code_2 23 rfl rfl rfl) (zd_b zq_prog_14_method_62_code_2 24 rfl rfl rfl) (zd_b zq_prog_14_method_62_code_2 25 rfl rfl rfl)
theorem fp_Mm_257 : z_fp "IronpourModel" 257 12 20 false .int := ⟨R_Mm, "IronpourModel", F_Mm, 31, t_Mm, rfl, u_Mm, by decide, t_Mm_ok, n_Mm, rfl, rfl, Or.inl ⟨z_mj7 (i := 103) rfl (by decide +kernel), Or.inl rfl, fun h => nomatch h⟩⟩
theorem d_Mm_tap_90 : decode prog_14_method_62_code 90 = .ok (.aload_n 0, 1) := zo_42 (zd_b zq_prog_14_method_62_code_2 26 rfl rfl rfl)
theorem d_Mm_tap_91 : decode prog_14_method_62_code 91 = .ok (.iconst 0, 1) := zo_3 (zd_b zq_prog_14_method_62_code_2 27 rfl rfl rfl)
theorem d_Mm_tap_92 : decode prog_14_method_62_code 92 = .ok (.putfield 260, 3) := zo_181 (d := 1) (e := 4) (zd_b zq_prog_14_method_62_code_2 28 rfl rfl rfl) (zd_b zq_prog_14_method_62_code_2 29 rfl rfl rfl) (zd_b zq_prog_14_method_62_code_2 30 rfl rfl rfl)
theorem fp_Mm_260 : z_fp "IronpourModel" 260 12 21 false .int := ⟨R_Mm, "IronpourModel", F_Mm, 31, t_Mm, rfl, u_Mm, by decide, t_Mm_ok, n_Mm, rfl, rfl, Or.inl ⟨z_mj7 (i := 104) rfl (by decide +kernel), Or.inl rfl, fun h => nomatch h⟩⟩
theorem d_Mm_tap_95 : decode prog_14_method_62_code 95 = .ok (.aload_n 0, 1) := zo_42 (zd_b zq_prog_14_method_62_code_2 31 rfl rfl rfl)
theorem d_Mm_tap_96 : decode prog_14_method_62_code 96 = .ok (.iconst 0, 1) := zo_3 (zd_b zq_prog_14_method_62_code_3 0 rfl rfl rfl)
theorem d_Mm_tap_97 : decode prog_14_method_62_code 97 = .ok (.putfield 263, 3) := zo_181 (d := 1) (e := 7) (zd_b zq_prog_14_method_62_code_3 1 rfl rfl rfl) (zd_b zq_prog_14_method_62_code_3 2 rfl rfl rfl) (zd_b zq_prog_14_method_62_code_3 3 rfl rfl rfl)
theorem fp_Mm_263 : z_fp "IronpourModel" 263 12 22 false .boolean := ⟨R_Mm, "IronpourModel", F_Mm, 31, t_Mm, rfl, u_Mm, by decide, t_Mm_ok, n_Mm, rfl, rfl, Or.inl ⟨z_mj7 (i := 105) rfl (by decide +kernel), Or.inl rfl, fun h => nomatch h⟩⟩
theorem d_Mm_tap_100 : decode prog_14_method_62_code 100 = .ok (.aload_n 0, 1) := zo_42 (zd_b zq_prog_14_method_62_code_3 4 rfl rfl rfl)
theorem d_Mm_tap_101 : decode prog_14_method_62_code 101 = .ok (.getfield 62, 3) := zo_180 (d := 0) (e := 62) (zd_b zq_prog_14_method_62_code_3 5 rfl rfl rfl) (zd_b zq_prog_14_method_62_code_3 6 rfl rfl rfl) (zd_b zq_prog_14_method_62_code_3 7 rfl rfl rfl)
theorem d_Mm_tap_104 : decode prog_14_method_62_code 104 = .ok (.iconst 0, 1) := zo_3 (zd_b zq_prog_14_method_62_code_3 8 rfl rfl rfl)
theorem d_Mm_tap_105 : decode prog_14_method_62_code 105 = .ok (.iaload, 1) := zo_46 (zd_b zq_prog_14_method_62_code_3 9 rfl rfl rfl)
theorem d_Mm_tap_106 : decode prog_14_method_62_code 106 = .ok (.ireturn, 1) := zo_172 (zd_b zq_prog_14_method_62_code_3 10 rfl rfl rfl)
theorem d_Mm_tap_39 : decode prog_14_method_62_code 39 = .ok (.iconst 1, 1) := zo_4 (zd_b zq_prog_14_method_62_code_1 7 rfl rfl rfl)
theorem d_Mm_tap_40 : decode prog_14_method_62_code 40 = .ok (.goto 4, 3) := zo_167 (d := 0) (e := 4) (zd_b zq_prog_14_method_62_code_1 8 rfl rfl rfl) (zd_b zq_prog_14_method_62_code_1 9 rfl rfl rfl) (zd_b zq_prog_14_method_62_code_1 10 rfl rfl rfl) (by decide +kernel)
theorem d_Mm_pig_19 : decode prog_14_method_66_code 19 = .ok (.iconst 0, 1) := zo_3 (zd_b zq_prog_14_method_66_code_0 19 rfl rfl rfl)
theorem d_Mm_pig_29 : decode prog_14_method_66_code 29 = .ok (.aload_n 0, 1) := zo_42 (zd_b zq_prog_14_method_66_code_0 29 rfl rfl rfl)
theorem d_Mm_pig_30 : decode prog_14_method_66_code 30 = .ok (.getfield 62, 3) := zo_180 (d := 0) (e := 62) (zd_b zq_prog_14_method_66_code_0 30 rfl rfl rfl) (zd_b zq_prog_14_method_66_code_0 31 rfl rfl rfl) (zd_b zq_prog_14_method_66_code_1 0 rfl rfl rfl)
theorem d_Mm_pig_33 : decode prog_14_method_66_code 33 = .ok (.iconst 1, 1) := zo_4 (zd_b zq_prog_14_method_66_code_1 1 rfl rfl rfl)
theorem d_Mm_pig_34 : decode prog_14_method_66_code 34 = .ok (.iaload, 1) := zo_46 (zd_b zq_prog_14_method_66_code_1 2 rfl rfl rfl)
theorem d_Mm_pig_35 : decode prog_14_method_66_code 35 = .ok (.istore_n 1, 1) := zo_60 (zd_b zq_prog_14_method_66_code_1 3 rfl rfl rfl)
theorem d_Mm_pig_36 : decode prog_14_method_66_code 36 = .ok (.aload_n 0, 1) := zo_42 (zd_b zq_prog_14_method_66_code_1 4 rfl rfl rfl)
theorem d_Mm_pig_37 : decode prog_14_method_66_code 37 = .ok (.iconst 1, 1) := zo_4 (zd_b zq_prog_14_method_66_code_1 5 rfl rfl rfl)
theorem d_Mm_pig_38 : decode prog_14_method_66_code 38 = .ok (.aload_n 0, 1) := zo_42 (zd_b zq_prog_14_method_66_code_1 6 rfl rfl rfl)
theorem d_Mm_pig_39 : decode prog_14_method_66_code 39 = .ok (.getfield 263, 3) := zo_180 (d := 1) (e := 7) (zd_b zq_prog_14_method_66_code_1 7 rfl rfl rfl) (zd_b zq_prog_14_method_66_code_1 8 rfl rfl rfl) (zd_b zq_prog_14_method_66_code_1 9 rfl rfl rfl)
theorem fs_Mm_263 : z_fs "IronpourModel" 263 12 22 := ⟨R_Mm, "IronpourModel", F_Mm, 31, rfl, u_Mm, by decide, Or.inl ⟨z_mj7 (i := 105) rfl (by decide +kernel), Or.inl rfl⟩⟩
theorem d_Mm_pig_42 : decode prog_14_method_66_code 42 = .ok (.ifCond .eq 7, 3) := zo_153 (d := 0) (e := 7) (zd_b zq_prog_14_method_66_code_1 10 rfl rfl rfl) (zd_b zq_prog_14_method_66_code_1 11 rfl rfl rfl) (zd_b zq_prog_14_method_66_code_1 12 rfl rfl rfl) (by decide +kernel)
theorem d_Mm_pig_49 : decode prog_14_method_66_code 49 = .ok (.iconst 2, 1) := zo_5 (zd_b zq_prog_14_method_66_code_1 17 rfl rfl rfl)
theorem d_Mm_pig_50 : decode prog_14_method_66_code 50 = .ok (.iload_n 1, 1) := zo_27 (zd_b zq_prog_14_method_66_code_1 18 rfl rfl rfl)
theorem d_Mm_pig_51 : decode prog_14_method_66_code 51 = .ok (.invokevirtual 236, 3) := zo_182 (d := 0) (e := 236) (zd_b zq_prog_14_method_66_code_1 19 rfl rfl rfl) (zd_b zq_prog_14_method_66_code_1 20 rfl rfl rfl) (zd_b zq_prog_14_method_66_code_1 21 rfl rfl rfl)
theorem ok_Mm_pig_Mm_move : z_ok M_Mm_pig M_Mm_move 3 := ⟨z_mj8 (i := 153) rfl (by decide +kernel), rfl, ⟨by decide +kernel, by decide +kernel, by decide +kernel⟩, ⟨by decide, by decide⟩, z_mj1 (i := 14) rfl (by decide +kernel), rfl⟩
theorem d_Mm_pig_54 : decode prog_14_method_66_code 54 = .ok (.iload_n 1, 1) := zo_27 (zd_b zq_prog_14_method_66_code_1 22 rfl rfl rfl)
theorem d_Mm_pig_55 : decode prog_14_method_66_code 55 = .ok (.ireturn, 1) := zo_172 (zd_b zq_prog_14_method_66_code_1 23 rfl rfl rfl)
theorem d_Mm_pig_45 : decode prog_14_method_66_code 45 = .ok (.iconst 3, 1) := zo_6 (zd_b zq_prog_14_method_66_code_1 13 rfl rfl rfl)
theorem d_Mm_pig_46 : decode prog_14_method_66_code 46 = .ok (.goto 4, 3) := zo_167 (d := 0) (e := 4) (zd_b zq_prog_14_method_66_code_1 14 rfl rfl rfl) (zd_b zq_prog_14_method_66_code_1 15 rfl rfl rfl) (zd_b zq_prog_14_method_66_code_1 16 rfl rfl rfl) (by decide +kernel)
end
section
theorem d_Mm_treat_42 : decode prog_14_method_63_code 42 = .ok (.iconst 0, 1) := zo_3 (zd_b zq_prog_14_method_63_code_1 10 rfl rfl rfl)
theorem d_Mm_treat_50 : decode prog_14_method_63_code 50 = .ok (.aload_n 0, 1) := zo_42 (zd_b zq_prog_14_method_63_code_1 18 rfl rfl rfl)
theorem d_Mm_treat_51 : decode prog_14_method_63_code 51 = .ok (.aload_n 0, 1) := zo_42 (zd_b zq_prog_14_method_63_code_1 19 rfl rfl rfl)
theorem d_Mm_treat_52 : decode prog_14_method_63_code 52 = .ok (.getfield 260, 3) := zo_180 (d := 1) (e := 4) (zd_b zq_prog_14_method_63_code_1 20 rfl rfl rfl) (zd_b zq_prog_14_method_63_code_1 21 rfl rfl rfl) (zd_b zq_prog_14_method_63_code_1 22 rfl rfl rfl)
theorem fs_Mm_260 : z_fs "IronpourModel" 260 12 21 := ⟨R_Mm, "IronpourModel", F_Mm, 31, rfl, u_Mm, by decide, Or.inl ⟨z_mj7 (i := 104) rfl (by decide +kernel), Or.inl rfl⟩⟩
theorem d_Mm_treat_55 : decode prog_14_method_63_code 55 = .ok (.iload_n 1, 1) := zo_27 (zd_b zq_prog_14_method_63_code_1 23 rfl rfl rfl)
theorem d_Mm_treat_56 : decode prog_14_method_63_code 56 = .ok (.iadd, 1) := zo_96 (zd_b zq_prog_14_method_63_code_1 24 rfl rfl rfl)
theorem d_Mm_treat_57 : decode prog_14_method_63_code 57 = .ok (.bipush 100, 2) := zo_16 (d := 100) (zd_b zq_prog_14_method_63_code_1 25 rfl rfl rfl) (zd_b zq_prog_14_method_63_code_1 26 rfl rfl rfl) (by decide +kernel)
theorem d_Mm_treat_59 : decode prog_14_method_63_code 59 = .ok (.if_icmp .le 7, 3) := zo_164 (d := 0) (e := 7) (zd_b zq_prog_14_method_63_code_1 27 rfl rfl rfl) (zd_b zq_prog_14_method_63_code_1 28 rfl rfl rfl) (zd_b zq_prog_14_method_63_code_1 29 rfl rfl rfl) (by decide +kernel)
theorem d_Mm_treat_66 : decode prog_14_method_63_code 66 = .ok (.iconst 0, 1) := zo_3 (zd_b zq_prog_14_method_63_code_2 2 rfl rfl rfl)
theorem d_Mm_treat_67 : decode prog_14_method_63_code 67 = .ok (.iconst 3, 1) := zo_6 (zd_b zq_prog_14_method_63_code_2 3 rfl rfl rfl)
theorem d_Mm_treat_68 : decode prog_14_method_63_code 68 = .ok (.invokevirtual 103, 3) := zo_182 (d := 0) (e := 103) (zd_b zq_prog_14_method_63_code_2 4 rfl rfl rfl) (zd_b zq_prog_14_method_63_code_2 5 rfl rfl rfl) (zd_b zq_prog_14_method_63_code_2 6 rfl rfl rfl)
theorem d_Mm_treat_71 : decode prog_14_method_63_code 71 = .ok (.ifCond .eq 5, 3) := zo_153 (d := 0) (e := 5) (zd_b zq_prog_14_method_63_code_2 7 rfl rfl rfl) (zd_b zq_prog_14_method_63_code_2 8 rfl rfl rfl) (zd_b zq_prog_14_method_63_code_2 9 rfl rfl rfl) (by decide +kernel)
theorem d_Mm_treat_76 : decode prog_14_method_63_code 76 = .ok (.aload_n 0, 1) := zo_42 (zd_b zq_prog_14_method_63_code_2 12 rfl rfl rfl)
theorem d_Mm_treat_77 : decode prog_14_method_63_code 77 = .ok (.dup, 1) := zo_89 (zd_b zq_prog_14_method_63_code_2 13 rfl rfl rfl)
theorem d_Mm_treat_78 : decode prog_14_method_63_code 78 = .ok (.getfield 260, 3) := zo_180 (d := 1) (e := 4) (zd_b zq_prog_14_method_63_code_2 14 rfl rfl rfl) (zd_b zq_prog_14_method_63_code_2 15 rfl rfl rfl) (zd_b zq_prog_14_method_63_code_2 16 rfl rfl rfl)
theorem d_Mm_treat_81 : decode prog_14_method_63_code 81 = .ok (.iload_n 1, 1) := zo_27 (zd_b zq_prog_14_method_63_code_2 17 rfl rfl rfl)
theorem d_Mm_treat_82 : decode prog_14_method_63_code 82 = .ok (.iadd, 1) := zo_96 (zd_b zq_prog_14_method_63_code_2 18 rfl rfl rfl)
theorem d_Mm_treat_83 : decode prog_14_method_63_code 83 = .ok (.putfield 260, 3) := zo_181 (d := 1) (e := 4) (zd_b zq_prog_14_method_63_code_2 19 rfl rfl rfl) (zd_b zq_prog_14_method_63_code_2 20 rfl rfl rfl) (zd_b zq_prog_14_method_63_code_2 21 rfl rfl rfl)
theorem d_Mm_treat_86 : decode prog_14_method_63_code 86 = .ok (.aload_n 0, 1) := zo_42 (zd_b zq_prog_14_method_63_code_2 22 rfl rfl rfl)
theorem d_Mm_treat_87 : decode prog_14_method_63_code 87 = .ok (.aload_n 0, 1) := zo_42 (zd_b zq_prog_14_method_63_code_2 23 rfl rfl rfl)
theorem d_Mm_treat_88 : decode prog_14_method_63_code 88 = .ok (.getfield 263, 3) := zo_180 (d := 1) (e := 7) (zd_b zq_prog_14_method_63_code_2 24 rfl rfl rfl) (zd_b zq_prog_14_method_63_code_2 25 rfl rfl rfl) (zd_b zq_prog_14_method_63_code_2 26 rfl rfl rfl)
theorem d_Mm_treat_91 : decode prog_14_method_63_code 91 = .ok (.ifCond .ne 12, 3) := zo_154 (d := 0) (e := 12) (zd_b zq_prog_14_method_63_code_2 27 rfl rfl rfl) (zd_b zq_prog_14_method_63_code_2 28 rfl rfl rfl) (zd_b zq_prog_14_method_63_code_2 29 rfl rfl rfl) (by decide +kernel)
theorem d_Mm_treat_103 : decode prog_14_method_63_code 103 = .ok (.iconst 1, 1) := zo_4 (zd_b zq_prog_14_method_63_code_3 7 rfl rfl rfl)
theorem d_Mm_treat_104 : decode prog_14_method_63_code 104 = .ok (.goto 4, 3) := zo_167 (d := 0) (e := 4) (zd_b zq_prog_14_method_63_code_3 8 rfl rfl rfl) (zd_b zq_prog_14_method_63_code_3 9 rfl rfl rfl) (zd_b zq_prog_14_method_63_code_3 10 rfl rfl rfl) (by decide +kernel)
theorem d_Mm_treat_108 : decode prog_14_method_63_code 108 = .ok (.putfield 263, 3) := zo_181 (d := 1) (e := 7) (zd_b zq_prog_14_method_63_code_3 12 rfl rfl rfl) (zd_b zq_prog_14_method_63_code_3 13 rfl rfl rfl) (zd_b zq_prog_14_method_63_code_3 14 rfl rfl rfl)
theorem d_Mm_treat_111 : decode prog_14_method_63_code 111 = .ok (.aload_n 0, 1) := zo_42 (zd_b zq_prog_14_method_63_code_3 15 rfl rfl rfl)
theorem d_Mm_treat_112 : decode prog_14_method_63_code 112 = .ok (.getfield 260, 3) := zo_180 (d := 1) (e := 4) (zd_b zq_prog_14_method_63_code_3 16 rfl rfl rfl) (zd_b zq_prog_14_method_63_code_3 17 rfl rfl rfl) (zd_b zq_prog_14_method_63_code_3 18 rfl rfl rfl)
theorem d_Mm_treat_115 : decode prog_14_method_63_code 115 = .ok (.ireturn, 1) := zo_172 (zd_b zq_prog_14_method_63_code_3 19 rfl rfl rfl)
theorem d_Mm_treat_94 : decode prog_14_method_63_code 94 = .ok (.aload_n 0, 1) := zo_42 (zd_b zq_prog_14_method_63_code_2 30 rfl rfl rfl)
theorem d_Mm_treat_95 : decode prog_14_method_63_code 95 = .ok (.getfield 260, 3) := zo_180 (d := 1) (e := 4) (zd_b zq_prog_14_method_63_code_2 31 rfl rfl rfl) (zd_b zq_prog_14_method_63_code_3 0 rfl rfl rfl) (zd_b zq_prog_14_method_63_code_3 1 rfl rfl rfl)
theorem d_Mm_treat_98 : decode prog_14_method_63_code 98 = .ok (.bipush 20, 2) := zo_16 (d := 20) (zd_b zq_prog_14_method_63_code_3 2 rfl rfl rfl) (zd_b zq_prog_14_method_63_code_3 3 rfl rfl rfl) (by decide +kernel)
theorem d_Mm_treat_100 : decode prog_14_method_63_code 100 = .ok (.if_icmp .lt 7, 3) := zo_161 (d := 0) (e := 7) (zd_b zq_prog_14_method_63_code_3 4 rfl rfl rfl) (zd_b zq_prog_14_method_63_code_3 5 rfl rfl rfl) (zd_b zq_prog_14_method_63_code_3 6 rfl rfl rfl) (by decide +kernel)
theorem d_Mm_treat_107 : decode prog_14_method_63_code 107 = .ok (.iconst 0, 1) := zo_3 (zd_b zq_prog_14_method_63_code_3 11 rfl rfl rfl)
theorem d_Mm_treat_62 : decode prog_14_method_63_code 62 = .ok (.iconst 1, 1) := zo_4 (zd_b zq_prog_14_method_63_code_1 30 rfl rfl rfl)
theorem d_Mm_treat_63 : decode prog_14_method_63_code 63 = .ok (.goto 4, 3) := zo_167 (d := 0) (e := 4) (zd_b zq_prog_14_method_63_code_1 31 rfl rfl rfl) (zd_b zq_prog_14_method_63_code_2 0 rfl rfl rfl) (zd_b zq_prog_14_method_63_code_2 1 rfl rfl rfl) (by decide +kernel)
abbrev M_Mm_percent : zM := (⟨"IronpourModel", "percent", "(II)I"⟩, prog_14_method_59_code, 3, (Option.some FieldType.int), 1, 20, [])
theorem d_Mm_percent_0 : decode prog_14_method_59_code 0 = .ok (.aload_n 0, 1) := zo_42 (zd_b zq_prog_14_method_59_code_0 0 rfl rfl rfl)
theorem d_Mm_percent_1 : decode prog_14_method_59_code 1 = .ok (.getfield 65, 3) := zo_180 (d := 0) (e := 65) (zd_b zq_prog_14_method_59_code_0 1 rfl rfl rfl) (zd_b zq_prog_14_method_59_code_0 2 rfl rfl rfl) (zd_b zq_prog_14_method_59_code_0 3 rfl rfl rfl)
theorem d_Mm_percent_4 : decode prog_14_method_59_code 4 = .ok (.iconst 4, 1) := zo_7 (zd_b zq_prog_14_method_59_code_0 4 rfl rfl rfl)
theorem d_Mm_percent_5 : decode prog_14_method_59_code 5 = .ok (.iload_n 1, 1) := zo_27 (zd_b zq_prog_14_method_59_code_0 5 rfl rfl rfl)
theorem d_Mm_percent_6 : decode prog_14_method_59_code 6 = .ok (.imul, 1) := zo_104 (zd_b zq_prog_14_method_59_code_0 6 rfl rfl rfl)
theorem d_Mm_percent_7 : decode prog_14_method_59_code 7 = .ok (.iload_n 2, 1) := zo_28 (zd_b zq_prog_14_method_59_code_0 7 rfl rfl rfl)
theorem d_Mm_percent_8 : decode prog_14_method_59_code 8 = .ok (.iadd, 1) := zo_96 (zd_b zq_prog_14_method_59_code_0 8 rfl rfl rfl)
theorem d_Mm_percent_9 : decode prog_14_method_59_code 9 = .ok (.laload, 1) := zo_47 (zd_b zq_prog_14_method_59_code_0 9 rfl rfl rfl)
theorem d_Mm_percent_10 : decode prog_14_method_59_code 10 = .ok (.ldc2_w 244, 3) := zo_20 (d := 0) (e := 244) (zd_b zq_prog_14_method_59_code_0 10 rfl rfl rfl) (zd_b zq_prog_14_method_59_code_0 11 rfl rfl rfl) (zd_b zq_prog_14_method_59_code_0 12 rfl rfl rfl)
theorem d_Mm_percent_13 : decode prog_14_method_59_code 13 = .ok (.lmul, 1) := zo_105 (zd_b zq_prog_14_method_59_code_0 13 rfl rfl rfl)
theorem d_Mm_percent_14 : decode prog_14_method_59_code 14 = .ok (.aload_n 0, 1) := zo_42 (zd_b zq_prog_14_method_59_code_0 14 rfl rfl rfl)
theorem d_Mm_percent_15 : decode prog_14_method_59_code 15 = .ok (.getfield 62, 3) := zo_180 (d := 0) (e := 62) (zd_b zq_prog_14_method_59_code_0 15 rfl rfl rfl) (zd_b zq_prog_14_method_59_code_0 16 rfl rfl rfl) (zd_b zq_prog_14_method_59_code_0 17 rfl rfl rfl)
theorem d_Mm_percent_18 : decode prog_14_method_59_code 18 = .ok (.iload_n 1, 1) := zo_27 (zd_b zq_prog_14_method_59_code_0 18 rfl rfl rfl)
theorem d_Mm_percent_19 : decode prog_14_method_59_code 19 = .ok (.iaload, 1) := zo_46 (zd_b zq_prog_14_method_59_code_0 19 rfl rfl rfl)
theorem d_Mm_percent_20 : decode prog_14_method_59_code 20 = .ok (.i2l, 1) := zo_133 (zd_b zq_prog_14_method_59_code_0 20 rfl rfl rfl)
theorem d_Mm_percent_21 : decode prog_14_method_59_code 21 = .ok (.ldiv, 1) := zo_109 (zd_b zq_prog_14_method_59_code_0 21 rfl rfl rfl)
theorem d_Mm_percent_22 : decode prog_14_method_59_code 22 = .ok (.l2i, 1) := zo_136 (zd_b zq_prog_14_method_59_code_0 22 rfl rfl rfl)
theorem d_Mm_percent_23 : decode prog_14_method_59_code 23 = .ok (.ireturn, 1) := zo_172 (zd_b zq_prog_14_method_59_code_0 23 rfl rfl rfl)
theorem d_Mm_furnace_39 : decode prog_14_method_60_code 39 = .ok (.iconst 0, 1) := zo_3 (zd_b zq_prog_14_method_60_code_1 7 rfl rfl rfl)
theorem d_Mm_furnace_51 : decode prog_14_method_60_code 51 = .ok (.aload_n 0, 1) := zo_42 (zd_b zq_prog_14_method_60_code_1 19 rfl rfl rfl)
theorem d_Mm_furnace_52 : decode prog_14_method_60_code 52 = .ok (.iconst 0, 1) := zo_3 (zd_b zq_prog_14_method_60_code_1 20 rfl rfl rfl)
theorem d_Mm_furnace_53 : decode prog_14_method_60_code 53 = .ok (.iload_n 1, 1) := zo_27 (zd_b zq_prog_14_method_60_code_1 21 rfl rfl rfl)
theorem d_Mm_furnace_54 : decode prog_14_method_60_code 54 = .ok (.invokestatic 246, 3) := zo_184 (d := 0) (e := 246) (zd_b zq_prog_14_method_60_code_1 22 rfl rfl rfl) (zd_b zq_prog_14_method_60_code_1 23 rfl rfl rfl) (zd_b zq_prog_14_method_60_code_1 24 rfl rfl rfl)
theorem d_Mm_furnace_57 : decode prog_14_method_60_code 57 = .ok (.invokevirtual 250, 3) := zo_182 (d := 0) (e := 250) (zd_b zq_prog_14_method_60_code_1 25 rfl rfl rfl) (zd_b zq_prog_14_method_60_code_1 26 rfl rfl rfl) (zd_b zq_prog_14_method_60_code_1 27 rfl rfl rfl)
theorem ok_Mm_furnace_Mm_percent : z_ok M_Mm_furnace M_Mm_percent 2 := ⟨z_mj8 (i := 169) rfl (by decide +kernel), rfl, ⟨by decide +kernel, by decide +kernel, by decide +kernel⟩, ⟨by decide, by decide⟩, z_mj1 (i := 14) rfl (by decide +kernel), rfl⟩
theorem ln_Mm_250 : Cond.methodLink "IronpourModel" 250 M_Mm_percent.1 ∈ z_gw := z_mj8 (i := 166) rfl (by decide +kernel)
theorem w_im_Mm_percent : Cond.instanceMethod M_Mm_percent.1 ∈ z_gw := z_mj8 (i := 168) rfl (by decide +kernel)
theorem w_se_Mm_percent : Cond.selects M_Mm_percent.1.cls M_Mm_percent.1 M_Mm_percent.1 ∈ z_gw := z_mem (i := 49) (by decide +kernel) (by decide +kernel)
theorem d_Mm_poolHas_50 : decode prog_14_method_69_code 50 = .ok (.iconst 0, 1) := zo_3 (zd_b zq_prog_14_method_69_code_1 18 rfl rfl rfl)
theorem d_Mm_poolHas_60 : decode prog_14_method_69_code 60 = .ok (.aload_n 0, 1) := zo_42 (zd_b zq_prog_14_method_69_code_1 28 rfl rfl rfl)
theorem d_Mm_poolHas_61 : decode prog_14_method_69_code 61 = .ok (.iload_n 1, 1) := zo_27 (zd_b zq_prog_14_method_69_code_1 29 rfl rfl rfl)
theorem d_Mm_poolHas_62 : decode prog_14_method_69_code 62 = .ok (.invokestatic 269, 3) := zo_184 (d := 1) (e := 13) (zd_b zq_prog_14_method_69_code_1 30 rfl rfl rfl) (zd_b zq_prog_14_method_69_code_1 31 rfl rfl rfl) (zd_b zq_prog_14_method_69_code_2 0 rfl rfl rfl)
theorem d_Mm_poolHas_65 : decode prog_14_method_69_code 65 = .ok (.iload_n 2, 1) := zo_28 (zd_b zq_prog_14_method_69_code_2 1 rfl rfl rfl)
theorem d_Mm_poolHas_66 : decode prog_14_method_69_code 66 = .ok (.invokestatic 246, 3) := zo_184 (d := 0) (e := 246) (zd_b zq_prog_14_method_69_code_2 2 rfl rfl rfl) (zd_b zq_prog_14_method_69_code_2 3 rfl rfl rfl) (zd_b zq_prog_14_method_69_code_2 4 rfl rfl rfl)
theorem d_Mm_poolHas_69 : decode prog_14_method_69_code 69 = .ok (.invokevirtual 250, 3) := zo_182 (d := 0) (e := 250) (zd_b zq_prog_14_method_69_code_2 5 rfl rfl rfl) (zd_b zq_prog_14_method_69_code_2 6 rfl rfl rfl) (zd_b zq_prog_14_method_69_code_2 7 rfl rfl rfl)
theorem ok_Mm_poolHas_Mm_percent : z_ok M_Mm_poolHas M_Mm_percent 2 := ⟨z_mj8 (i := 169) rfl (by decide +kernel), rfl, ⟨by decide +kernel, by decide +kernel, by decide +kernel⟩, ⟨by decide, by decide⟩, z_mj1 (i := 14) rfl (by decide +kernel), rfl⟩
theorem d_Mm_poolHas_72 : decode prog_14_method_69_code 72 = .ok (.ireturn, 1) := zo_172 (zd_b zq_prog_14_method_69_code_2 8 rfl rfl rfl)
theorem d_Mm_ladle_43 : decode prog_14_method_65_code 43 = .ok (.iload_n 1, 1) := zo_27 (zd_b zq_prog_14_method_65_code_1 11 rfl rfl rfl)
theorem d_Mm_ladle_44 : decode prog_14_method_65_code 44 = .ok (.bipush 119, 2) := zo_16 (d := 119) (zd_b zq_prog_14_method_65_code_1 12 rfl rfl rfl) (zd_b zq_prog_14_method_65_code_1 13 rfl rfl rfl) (by decide +kernel)
theorem d_Mm_ladle_46 : decode prog_14_method_65_code 46 = .ok (.if_icmp .ne 12, 3) := zo_160 (d := 0) (e := 12) (zd_b zq_prog_14_method_65_code_1 14 rfl rfl rfl) (zd_b zq_prog_14_method_65_code_1 15 rfl rfl rfl) (zd_b zq_prog_14_method_65_code_1 16 rfl rfl rfl) (by decide +kernel)
theorem d_Mm_ladle_58 : decode prog_14_method_65_code 58 = .ok (.iload_n 1, 1) := zo_27 (zd_b zq_prog_14_method_65_code_1 26 rfl rfl rfl)
theorem d_Mm_ladle_59 : decode prog_14_method_65_code 59 = .ok (.bipush 104, 2) := zo_16 (d := 104) (zd_b zq_prog_14_method_65_code_1 27 rfl rfl rfl) (zd_b zq_prog_14_method_65_code_1 28 rfl rfl rfl) (by decide +kernel)
theorem d_Mm_ladle_61 : decode prog_14_method_65_code 61 = .ok (.if_icmp .ne 10, 3) := zo_160 (d := 0) (e := 10) (zd_b zq_prog_14_method_65_code_1 29 rfl rfl rfl) (zd_b zq_prog_14_method_65_code_1 30 rfl rfl rfl) (zd_b zq_prog_14_method_65_code_1 31 rfl rfl rfl) (by decide +kernel)
theorem d_Mm_ladle_71 : decode prog_14_method_65_code 71 = .ok (.aload_n 0, 1) := zo_42 (zd_b zq_prog_14_method_65_code_2 7 rfl rfl rfl)
theorem d_Mm_ladle_72 : decode prog_14_method_65_code 72 = .ok (.getfield 260, 3) := zo_180 (d := 1) (e := 4) (zd_b zq_prog_14_method_65_code_2 8 rfl rfl rfl) (zd_b zq_prog_14_method_65_code_2 9 rfl rfl rfl) (zd_b zq_prog_14_method_65_code_2 10 rfl rfl rfl)
theorem d_Mm_ladle_64 : decode prog_14_method_65_code 64 = .ok (.aload_n 0, 1) := zo_42 (zd_b zq_prog_14_method_65_code_2 0 rfl rfl rfl)
theorem d_Mm_ladle_65 : decode prog_14_method_65_code 65 = .ok (.getfield 257, 3) := zo_180 (d := 1) (e := 1) (zd_b zq_prog_14_method_65_code_2 1 rfl rfl rfl) (zd_b zq_prog_14_method_65_code_2 2 rfl rfl rfl) (zd_b zq_prog_14_method_65_code_2 3 rfl rfl rfl)
theorem fs_Mm_257 : z_fs "IronpourModel" 257 12 20 := ⟨R_Mm, "IronpourModel", F_Mm, 31, rfl, u_Mm, by decide, Or.inl ⟨z_mj7 (i := 103) rfl (by decide +kernel), Or.inl rfl⟩⟩
theorem d_Mm_ladle_68 : decode prog_14_method_65_code 68 = .ok (.goto 7, 3) := zo_167 (d := 0) (e := 7) (zd_b zq_prog_14_method_65_code_2 4 rfl rfl rfl) (zd_b zq_prog_14_method_65_code_2 5 rfl rfl rfl) (zd_b zq_prog_14_method_65_code_2 6 rfl rfl rfl) (by decide +kernel)
theorem d_Mm_ladle_49 : decode prog_14_method_65_code 49 = .ok (.aload_n 0, 1) := zo_42 (zd_b zq_prog_14_method_65_code_1 17 rfl rfl rfl)
theorem d_Mm_ladle_50 : decode prog_14_method_65_code 50 = .ok (.getfield 62, 3) := zo_180 (d := 0) (e := 62) (zd_b zq_prog_14_method_65_code_1 18 rfl rfl rfl) (zd_b zq_prog_14_method_65_code_1 19 rfl rfl rfl) (zd_b zq_prog_14_method_65_code_1 20 rfl rfl rfl)
theorem d_Mm_ladle_53 : decode prog_14_method_65_code 53 = .ok (.iconst 1, 1) := zo_4 (zd_b zq_prog_14_method_65_code_1 21 rfl rfl rfl)
theorem d_Mm_ladle_54 : decode prog_14_method_65_code 54 = .ok (.iaload, 1) := zo_46 (zd_b zq_prog_14_method_65_code_1 22 rfl rfl rfl)
theorem d_Mm_ladle_55 : decode prog_14_method_65_code 55 = .ok (.goto 20, 3) := zo_167 (d := 0) (e := 20) (zd_b zq_prog_14_method_65_code_1 23 rfl rfl rfl) (zd_b zq_prog_14_method_65_code_1 24 rfl rfl rfl) (zd_b zq_prog_14_method_65_code_1 25 rfl rfl rfl) (by decide +kernel)
theorem d_Mm_cheapest_41 : decode prog_14_method_72_code 41 = .ok (.iconst 0, 1) := zo_3 (zd_b zq_prog_14_method_72_code_1 9 rfl rfl rfl)
theorem d_Mm_cheapest_51 : decode prog_14_method_72_code 51 = .ok (.iload_n 1, 1) := zo_27 (zd_b zq_prog_14_method_72_code_1 19 rfl rfl rfl)
theorem d_Mm_cheapest_52 : decode prog_14_method_72_code 52 = .ok (.bipush 112, 2) := zo_16 (d := 112) (zd_b zq_prog_14_method_72_code_1 20 rfl rfl rfl) (zd_b zq_prog_14_method_72_code_1 21 rfl rfl rfl) (by decide +kernel)
theorem d_Mm_cheapest_54 : decode prog_14_method_72_code 54 = .ok (.if_icmp .ne 10, 3) := zo_160 (d := 0) (e := 10) (zd_b zq_prog_14_method_72_code_1 22 rfl rfl rfl) (zd_b zq_prog_14_method_72_code_1 23 rfl rfl rfl) (zd_b zq_prog_14_method_72_code_1 24 rfl rfl rfl) (by decide +kernel)
theorem d_Mm_cheapest_64 : decode prog_14_method_72_code 64 = .ok (.iload_n 1, 1) := zo_27 (zd_b zq_prog_14_method_72_code_2 0 rfl rfl rfl)
theorem d_Mm_cheapest_65 : decode prog_14_method_72_code 65 = .ok (.bipush 102, 2) := zo_16 (d := 102) (zd_b zq_prog_14_method_72_code_2 1 rfl rfl rfl) (zd_b zq_prog_14_method_72_code_2 2 rfl rfl rfl) (by decide +kernel)
theorem d_Mm_cheapest_67 : decode prog_14_method_72_code 67 = .ok (.if_icmp .ne 10, 3) := zo_160 (d := 0) (e := 10) (zd_b zq_prog_14_method_72_code_2 3 rfl rfl rfl) (zd_b zq_prog_14_method_72_code_2 4 rfl rfl rfl) (zd_b zq_prog_14_method_72_code_2 5 rfl rfl rfl) (by decide +kernel)
theorem d_Mm_cheapest_77 : decode prog_14_method_72_code 77 = .ok (.bipush 100, 2) := zo_16 (d := 100) (zd_b zq_prog_14_method_72_code_2 13 rfl rfl rfl) (zd_b zq_prog_14_method_72_code_2 14 rfl rfl rfl) (by decide +kernel)
theorem d_Mm_cheapest_79 : decode prog_14_method_72_code 79 = .ok (.aload_n 0, 1) := zo_42 (zd_b zq_prog_14_method_72_code_2 15 rfl rfl rfl)
theorem d_Mm_cheapest_80 : decode prog_14_method_72_code 80 = .ok (.getfield 69, 3) := zo_180 (d := 0) (e := 69) (zd_b zq_prog_14_method_72_code_2 16 rfl rfl rfl) (zd_b zq_prog_14_method_72_code_2 17 rfl rfl rfl) (zd_b zq_prog_14_method_72_code_2 18 rfl rfl rfl)
theorem d_Mm_cheapest_83 : decode prog_14_method_72_code 83 = .ok (.isub, 1) := zo_100 (zd_b zq_prog_14_method_72_code_2 19 rfl rfl rfl)
theorem d_Mm_cheapest_84 : decode prog_14_method_72_code 84 = .ok (.aload_n 0, 1) := zo_42 (zd_b zq_prog_14_method_72_code_2 20 rfl rfl rfl)
theorem d_Mm_cheapest_85 : decode prog_14_method_72_code 85 = .ok (.getfield 276, 3) := zo_180 (d := 1) (e := 20) (zd_b zq_prog_14_method_72_code_2 21 rfl rfl rfl) (zd_b zq_prog_14_method_72_code_2 22 rfl rfl rfl) (zd_b zq_prog_14_method_72_code_2 23 rfl rfl rfl)
theorem fs_Mm_276 : z_fs "IronpourModel" 276 12 24 := ⟨R_Mm, "IronpourModel", F_Mm, 31, rfl, u_Mm, by decide, Or.inl ⟨z_mj7 (i := 107) rfl (by decide +kernel), Or.inl rfl⟩⟩
theorem d_Mm_cheapest_88 : decode prog_14_method_72_code 88 = .ok (.isub, 1) := zo_100 (zd_b zq_prog_14_method_72_code_2 24 rfl rfl rfl)
theorem d_Mm_cheapest_89 : decode prog_14_method_72_code 89 = .ok (.ireturn, 1) := zo_172 (zd_b zq_prog_14_method_72_code_2 25 rfl rfl rfl)
theorem d_Mm_cheapest_70 : decode prog_14_method_72_code 70 = .ok (.aload_n 0, 1) := zo_42 (zd_b zq_prog_14_method_72_code_2 6 rfl rfl rfl)
theorem d_Mm_cheapest_71 : decode prog_14_method_72_code 71 = .ok (.getfield 276, 3) := zo_180 (d := 1) (e := 20) (zd_b zq_prog_14_method_72_code_2 7 rfl rfl rfl) (zd_b zq_prog_14_method_72_code_2 8 rfl rfl rfl) (zd_b zq_prog_14_method_72_code_2 9 rfl rfl rfl)
theorem d_Mm_cheapest_74 : decode prog_14_method_72_code 74 = .ok (.goto 15, 3) := zo_167 (d := 0) (e := 15) (zd_b zq_prog_14_method_72_code_2 10 rfl rfl rfl) (zd_b zq_prog_14_method_72_code_2 11 rfl rfl rfl) (zd_b zq_prog_14_method_72_code_2 12 rfl rfl rfl) (by decide +kernel)
theorem d_Mm_cheapest_57 : decode prog_14_method_72_code 57 = .ok (.aload_n 0, 1) := zo_42 (zd_b zq_prog_14_method_72_code_1 25 rfl rfl rfl)
theorem d_Mm_cheapest_58 : decode prog_14_method_72_code 58 = .ok (.getfield 69, 3) := zo_180 (d := 0) (e := 69) (zd_b zq_prog_14_method_72_code_1 26 rfl rfl rfl) (zd_b zq_prog_14_method_72_code_1 27 rfl rfl rfl) (zd_b zq_prog_14_method_72_code_1 28 rfl rfl rfl)
theorem d_Mm_cheapest_61 : decode prog_14_method_72_code 61 = .ok (.goto 28, 3) := zo_167 (d := 0) (e := 28) (zd_b zq_prog_14_method_72_code_1 29 rfl rfl rfl) (zd_b zq_prog_14_method_72_code_1 30 rfl rfl rfl) (zd_b zq_prog_14_method_72_code_1 31 rfl rfl rfl) (by decide +kernel)
set_option maxHeartbeats 4000000 in
set_option maxRecDepth 100000 in
theorem C_Mm_cheapestW (g : zG) (m mp mf mh mn mt mz mc_ mq mgr ml mi mr mm mu mk mx : Nat) (th pt cl wa co_ fi bu ho lh mg wd fpi fal : Int32) (po de : Int64) (w : Int32) (hw : ¬ z_ix 4 w < 0) : CT g M_Mm_cheapest [.ref m, .int w] [(m, .inr (12, [.int th, .ref mp, .int pt, .ref mf, .ref mh, .ref mn, .ref mt, .ref mz, .ref mc_, .ref mq, .ref mgr, .int cl, .int wa, .int co_, .int fi, .int bu, .int ho, .ref ml, .ref mi, .ref mr, .int lh, .int mg, .int wd, .int fpi, .int fal, .ref mm, .ref mu, .ref mk, .ref mx, .long po, .long de]))] (fun o cs1 => ∃ v9 th9 : Int32, o = .inl (some (.int v9)) ∧ cs1 = [(m, .inr (12, [.int th9, .ref mp, .int pt, .ref mf, .ref mh, .ref mn, .ref mt, .ref mz, .ref mc_, .ref mq, .ref mgr, .int cl, .int wa, .int co_, .int fi, .int bu, .int ho, .ref ml, .ref mi, .ref mr, .int lh, .int mg, .int wd, .int fpi, .int fal, .ref mm, .ref mu, .ref mk, .ref mx, .long po, .long de]))]) 0 0 := by
  refine z_of (by decide) rfl (Nat.le_of_ble_eq_true rfl) (fun w0 => ?_)
  refine r_lvE (lv2 := [(0, .ref m), (1, .int w)]) rfl ?_
  refine r_aload_n d_Mm_cheapest_0 rfl 0 rfl ?_
  refine r_iconst d_Mm_cheapest_1 (v := 0) (by decide) ?_
  refine r_put fp_Mm_84 d_Mm_cheapest_2 (fun h => nomatch h) rfl rfl (q0 := 0) rfl (Nat.le_of_ble_eq_true rfl) (cs' := [(m, .inr (12, [.int 0, .ref mp, .int pt, .ref mf, .ref mh, .ref mn, .ref mt, .ref mz, .ref mc_, .ref mq, .ref mgr, .int cl, .int wa, .int co_, .int fi, .int bu, .int ho, .ref ml, .ref mi, .ref mr, .int lh, .int mg, .int wd, .int fpi, .int fal, .ref mm, .ref mu, .ref mk, .ref mx, .long po, .long de]))]) rfl ?_
  refine r_aload_n d_Mm_cheapest_5 rfl 0 rfl ?_
  refine r_ldcWS (own := "IronpourModel") (i := 4) (by decide) d_Mm_cheapest_6 ?_
  refine r_iload_n d_Mm_cheapest_9 rfl 1 rfl ?_
  refine r_callVS (As := [.int w]) (rest := [.ref m]) (csC := []) (is := []) (i := 4) (by first | assumption | decide) rfl ln_Mm_97 w_im_String_indexOf_0 w_se_String_indexOf_0 ok_Mm_cheapest_String_indexOf_0 d_Mm_cheapest_10 (C_St_indexOf g 4 (by decide) w) rfl rfl (Nat.le_of_ble_eq_true rfl) rfl (by decide) (by omega) (by omega) (fun E cs1 hx => ?_) (fun v cs1 hx => ?_)
  · exact absurd hx.1 (by simp)
  · obtain ⟨e1, rfl⟩ := hx
    cases e1
    refine ⟨rfl, ?_⟩
    refine r_st (st2 := [.int (z_ix 4 w), .ref m]) rfl ?_
    refine r_cs (cs2 := [(m, .inr (12, [.int 0, .ref mp, .int pt, .ref mf, .ref mh, .ref mn, .ref mt, .ref mz, .ref mc_, .ref mq, .ref mgr, .int cl, .int wa, .int co_, .int fi, .int bu, .int ho, .ref ml, .ref mi, .ref mr, .int lh, .int mg, .int wd, .int fpi, .int fal, .ref mm, .ref mu, .ref mk, .ref mx, .long po, .long de]))]) rfl ?_
    refine r_if_ge (tgt := 20) d_Mm_cheapest_13 (by decide) (fun c_13 => ?_) (fun c_13 => ?_)
    · refine r_iconst d_Mm_cheapest_20 (v := 0) (by decide) ?_
      refine r_iconst d_Mm_cheapest_21 (v := 1) (by decide) ?_
      refine r_callV (As := [.int 0, .int 1]) (rest := []) (csC := [(m, .inr (12, [.int 0, .ref mp, .int pt, .ref mf, .ref mh, .ref mn, .ref mt, .ref mz, .ref mc_, .ref mq, .ref mgr, .int cl, .int wa, .int co_, .int fi, .int bu, .int ho, .ref ml, .ref mi, .ref mr, .int lh, .int mg, .int wd, .int fpi, .int fal, .ref mm, .ref mu, .ref mk, .ref mx, .long po, .long de]))]) (is := [0]) (q0 := 0) rfl rfl ln_Mm_103 w_im_Mm_fails w_se_Mm_fails ok_Mm_cheapest_Mm_fails d_Mm_cheapest_22 (C_Mm_fails0 g m mp mf mh mn mt mz mc_ mq mgr ml mi mr mm mu mk mx th pt cl wa co_ fi bu ho lh mg wd fpi fal po de 1) rfl rfl (Nat.le_of_ble_eq_true rfl) rfl (by decide) (by omega) (by omega) (fun E cs1 hx => ?_) (fun v cs1 hx => ?_)
      · exact absurd hx.1 (by simp)
      · obtain ⟨e1, rfl⟩ := hx
        cases e1
        refine ⟨rfl, ?_⟩
        refine r_st (st2 := [.int 0]) rfl ?_
        refine r_cs (cs2 := [(m, .inr (12, [.int 0, .ref mp, .int pt, .ref mf, .ref mh, .ref mn, .ref mt, .ref mz, .ref mc_, .ref mq, .ref mgr, .int cl, .int wa, .int co_, .int fi, .int bu, .int ho, .ref ml, .ref mi, .ref mr, .int lh, .int mg, .int wd, .int fpi, .int fal, .ref mm, .ref mu, .ref mk, .ref mx, .long po, .long de]))]) rfl ?_
        refine r_if_ne (tgt := 49) d_Mm_cheapest_25 (by decide) (fun c_25 => ?_) (fun c_25 => ?_)
        · exact absurd c_25 (by decide)
        · refine r_aload_n d_Mm_cheapest_28 rfl 0 rfl ?_
          refine r_aload_n d_Mm_cheapest_29 rfl 0 rfl ?_
          refine r_get fs_Mm_69 d_Mm_cheapest_30 (q0 := 0) rfl rfl ?_
          refine r_iconst d_Mm_cheapest_33 (v := (-1)) (by decide) ?_
          refine r_icmp_ne (tgt := 41) d_Mm_cheapest_34 (by decide) (fun c_34 => ?_) (fun c_34 => ?_)
          · refine r_iconst d_Mm_cheapest_41 (v := 0) (by decide) ?_
            refine r_iconst d_Mm_cheapest_42 (v := 2) (by decide) ?_
            refine r_callV (As := [.int 0, .int 2]) (rest := []) (csC := [(m, .inr (12, [.int 0, .ref mp, .int pt, .ref mf, .ref mh, .ref mn, .ref mt, .ref mz, .ref mc_, .ref mq, .ref mgr, .int cl, .int wa, .int co_, .int fi, .int bu, .int ho, .ref ml, .ref mi, .ref mr, .int lh, .int mg, .int wd, .int fpi, .int fal, .ref mm, .ref mu, .ref mk, .ref mx, .long po, .long de]))]) (is := [0]) (q0 := 0) rfl rfl ln_Mm_103 w_im_Mm_fails w_se_Mm_fails ok_Mm_cheapest_Mm_fails d_Mm_cheapest_43 (C_Mm_fails0 g m mp mf mh mn mt mz mc_ mq mgr ml mi mr mm mu mk mx th pt cl wa co_ fi bu ho lh mg wd fpi fal po de 2) rfl rfl (Nat.le_of_ble_eq_true rfl) rfl (by decide) (by omega) (by omega) (fun E cs1 hx => ?_) (fun v cs1 hx => ?_)
            · exact absurd hx.1 (by simp)
            · obtain ⟨e1, rfl⟩ := hx
              cases e1
              refine ⟨rfl, ?_⟩
              refine r_st (st2 := [.int 0]) rfl ?_
              refine r_cs (cs2 := [(m, .inr (12, [.int 0, .ref mp, .int pt, .ref mf, .ref mh, .ref mn, .ref mt, .ref mz, .ref mc_, .ref mq, .ref mgr, .int cl, .int wa, .int co_, .int fi, .int bu, .int ho, .ref ml, .ref mi, .ref mr, .int lh, .int mg, .int wd, .int fpi, .int fal, .ref mm, .ref mu, .ref mk, .ref mx, .long po, .long de]))]) rfl ?_
              refine r_if_eq (tgt := 51) d_Mm_cheapest_46 (by decide) (fun c_46 => ?_) (fun c_46 => ?_)
              · refine r_iload_n d_Mm_cheapest_51 rfl 1 rfl ?_
                refine r_bipush d_Mm_cheapest_52 (v := 112) (by decide) ?_
                refine r_icmp_ne (tgt := 64) d_Mm_cheapest_54 (by decide) (fun c_54 => ?_) (fun c_54 => ?_)
                · refine r_iload_n d_Mm_cheapest_64 rfl 1 rfl ?_
                  refine r_bipush d_Mm_cheapest_65 (v := 102) (by decide) ?_
                  refine r_icmp_ne (tgt := 77) d_Mm_cheapest_67 (by decide) (fun c_67 => ?_) (fun c_67 => ?_)
                  · refine r_bipush d_Mm_cheapest_77 (v := 100) (by decide) ?_
                    refine r_aload_n d_Mm_cheapest_79 rfl 0 rfl ?_
                    refine r_get fs_Mm_69 d_Mm_cheapest_80 (q0 := 0) rfl rfl ?_
                    refine r_isub d_Mm_cheapest_83 (v := 100 - fpi) rfl ?_
                    refine r_aload_n d_Mm_cheapest_84 rfl 0 rfl ?_
                    refine r_get fs_Mm_276 d_Mm_cheapest_85 (q0 := 0) rfl rfl ?_
                    refine r_isub d_Mm_cheapest_88 (v := (100 - fpi) - fal) rfl ?_
                    refine r_iret d_Mm_cheapest_89 rfl rfl ?_
                    exact ⟨_, _, rfl, rfl⟩
                  · refine r_aload_n d_Mm_cheapest_70 rfl 0 rfl ?_
                    refine r_get fs_Mm_276 d_Mm_cheapest_71 (q0 := 0) rfl rfl ?_
                    refine r_goto (tgt := 89) d_Mm_cheapest_74 (by decide) ?_
                    refine r_iret d_Mm_cheapest_89 rfl rfl ?_
                    exact ⟨_, _, rfl, rfl⟩
                · refine r_aload_n d_Mm_cheapest_57 rfl 0 rfl ?_
                  refine r_get fs_Mm_69 d_Mm_cheapest_58 (q0 := 0) rfl rfl ?_
                  refine r_goto (tgt := 89) d_Mm_cheapest_61 (by decide) ?_
                  refine r_iret d_Mm_cheapest_89 rfl rfl ?_
                  exact ⟨_, _, rfl, rfl⟩
              · exact absurd c_46 (by decide)
          · refine r_iconst d_Mm_cheapest_37 (v := 1) (by decide) ?_
            refine r_goto (tgt := 42) d_Mm_cheapest_38 (by decide) ?_
            refine r_iconst d_Mm_cheapest_42 (v := 2) (by decide) ?_
            refine r_callV (As := [.int 1, .int 2]) (rest := []) (csC := [(m, .inr (12, [.int 0, .ref mp, .int pt, .ref mf, .ref mh, .ref mn, .ref mt, .ref mz, .ref mc_, .ref mq, .ref mgr, .int cl, .int wa, .int co_, .int fi, .int bu, .int ho, .ref ml, .ref mi, .ref mr, .int lh, .int mg, .int wd, .int fpi, .int fal, .ref mm, .ref mu, .ref mk, .ref mx, .long po, .long de]))]) (is := [0]) (q0 := 0) rfl rfl ln_Mm_103 w_im_Mm_fails w_se_Mm_fails ok_Mm_cheapest_Mm_fails d_Mm_cheapest_43 (C_Mm_fails2 g m mp mf mh mn mt mz mc_ mq mgr ml mi mr mm mu mk mx th pt cl wa co_ fi bu ho lh mg wd fpi fal po de) rfl rfl (Nat.le_of_ble_eq_true rfl) rfl (by decide) (by omega) (by omega) (fun E cs1 hx => ?_) (fun v cs1 hx => ?_)
            · exact absurd hx.1 (by simp)
            · obtain ⟨e1, rfl⟩ := hx
              cases e1
              refine ⟨rfl, ?_⟩
              refine r_st (st2 := [.int 1]) rfl ?_
              refine r_cs (cs2 := [(m, .inr (12, [.int 2, .ref mp, .int pt, .ref mf, .ref mh, .ref mn, .ref mt, .ref mz, .ref mc_, .ref mq, .ref mgr, .int cl, .int wa, .int co_, .int fi, .int bu, .int ho, .ref ml, .ref mi, .ref mr, .int lh, .int mg, .int wd, .int fpi, .int fal, .ref mm, .ref mu, .ref mk, .ref mx, .long po, .long de]))]) rfl ?_
              refine r_if_eq (tgt := 51) d_Mm_cheapest_46 (by decide) (fun c_46 => ?_) (fun c_46 => ?_)
              · exact absurd c_46 (by decide)
              · refine r_iconst d_Mm_cheapest_49 (v := 0) (by decide) ?_
                refine r_iret d_Mm_cheapest_50 rfl rfl ?_
                exact ⟨_, _, rfl, rfl⟩
    · exact absurd (Int32.not_le.mp c_13) hw
end
section
theorem d_Mm_charge_130 : decode prog_14_method_58_code 130 = .ok (.aload_n 0, 1) := zo_42 (zd_b zq_prog_14_method_58_code_4 2 rfl rfl rfl)
theorem d_Mm_charge_131 : decode prog_14_method_58_code 131 = .ok (.iload_n 3, 1) := zo_29 (zd_b zq_prog_14_method_58_code_4 3 rfl rfl rfl)
theorem d_Mm_charge_132 : decode prog_14_method_58_code 132 = .ok (.iconst 0, 1) := zo_3 (zd_b zq_prog_14_method_58_code_4 4 rfl rfl rfl)
theorem d_Mm_charge_133 : decode prog_14_method_58_code 133 = .ok (.iload_n 2, 1) := zo_28 (zd_b zq_prog_14_method_58_code_4 5 rfl rfl rfl)
theorem d_Mm_charge_134 : decode prog_14_method_58_code 134 = .ok (.invokevirtual 236, 3) := zo_182 (d := 0) (e := 236) (zd_b zq_prog_14_method_58_code_4 6 rfl rfl rfl) (zd_b zq_prog_14_method_58_code_4 7 rfl rfl rfl) (zd_b zq_prog_14_method_58_code_4 8 rfl rfl rfl)
theorem ok_Mm_charge_Mm_move : z_ok M_Mm_charge M_Mm_move 3 := ⟨z_mj8 (i := 153) rfl (by decide +kernel), rfl, ⟨by decide +kernel, by decide +kernel, by decide +kernel⟩, ⟨by decide, by decide⟩, z_mj1 (i := 14) rfl (by decide +kernel), rfl⟩
theorem d_Mm_charge_137 : decode prog_14_method_58_code 137 = .ok (.goto 62, 3) := zo_167 (d := 0) (e := 62) (zd_b zq_prog_14_method_58_code_4 9 rfl rfl rfl) (zd_b zq_prog_14_method_58_code_4 10 rfl rfl rfl) (zd_b zq_prog_14_method_58_code_4 11 rfl rfl rfl) (by decide +kernel)
theorem d_Mm_charge_111 : decode prog_14_method_58_code 111 = .ok (.iconst 1, 1) := zo_4 (zd_b zq_prog_14_method_58_code_3 15 rfl rfl rfl)
theorem d_Mm_charge_112 : decode prog_14_method_58_code 112 = .ok (.goto 4, 3) := zo_167 (d := 0) (e := 4) (zd_b zq_prog_14_method_58_code_3 16 rfl rfl rfl) (zd_b zq_prog_14_method_58_code_3 17 rfl rfl rfl) (zd_b zq_prog_14_method_58_code_3 18 rfl rfl rfl) (by decide +kernel)
theorem d_Mm_charge_123 : decode prog_14_method_58_code 123 = .ok (.iconst 0, 1) := zo_3 (zd_b zq_prog_14_method_58_code_3 27 rfl rfl rfl)
theorem d_Mm_charge_124 : decode prog_14_method_58_code 124 = .ok (.ireturn, 1) := zo_172 (zd_b zq_prog_14_method_58_code_3 28 rfl rfl rfl)
end
section
theorem nI_nek {k N : Nat} (h : k < N) (hN : N < 2 ^ 31) : ¬ nI k = nI N := fun q => by
  have h1 := (nI_ltI (by omega) hN).mpr h
  rw [q] at h1
  exact Int32.lt_irrefl h1
set_option maxHeartbeats 4000000 in
set_option maxRecDepth 100000 in
theorem C_AL_addAR (g : zG) (a v dd N k : Nat) (md : Int32) (f : Nat → Option Nat) (ek : zE) (ho : z_ob ek) (hk : k < N) (hN : N < 2 ^ 31) : CT g M_AL_add_1 [.ref a, .ref v, .ref dd, .int (nI k)] [(a, .inr (13, [.int md, .ref dd, .int (nI k)])), (v, ek), (dd, .inl (5, N, .inr (.inr (.inr (.inr f)))))] (fun o cs1 => o = .inl none ∧ cs1 = [(a, .inr (13, [.int md, .ref dd, .int (nI (k + 1))])), (v, ek), (dd, .inl (5, N, .inr (.inr (.inr (.inr (va_up f k (some v)))))))]) 0 0 := by
  refine z_of (by decide) rfl (Nat.le_of_ble_eq_true rfl) (fun w0 => ?_)
  refine r_lvE (lv2 := [(0, .ref a), (1, .ref v), (2, .ref dd), (3, .int (nI k))]) rfl ?_
  refine r_iload_n d_AL_add_1_0 rfl 3 rfl ?_
  refine r_aload_n d_AL_add_1_1 rfl 2 rfl ?_
  refine r_alen d_AL_add_1_2 (q0 := 2) rfl rfl (v := nI N) rfl ?_
  refine r_icmp_ne (tgt := 11) d_AL_add_1_3 (by decide) (fun c_3 => ?_) (fun c_3 => ?_)
  · refine r_aload_n d_AL_add_1_11 rfl 2 rfl ?_
    refine r_iload_n d_AL_add_1_12 rfl 3 rfl ?_
    refine r_aload_n d_AL_add_1_13 rfl 1 rfl ?_
    refine r_aast d_AL_add_1_14 (q0 := 2) (qk := 1) rfl rfl ho (vp_in_nI (by omega) (by omega)) (f' := va_up f k (some v)) (by rw [nI_clamp (by omega)]) (cs' := [(a, .inr (13, [.int md, .ref dd, .int (nI k)])), (v, ek), (dd, .inl (5, N, .inr (.inr (.inr (.inr (va_up f k (some v)))))))]) rfl ?_
    refine r_aload_n d_AL_add_1_15 rfl 0 rfl ?_
    refine r_iload_n d_AL_add_1_16 rfl 3 rfl ?_
    refine r_iconst d_AL_add_1_17 (v := 1) (by decide) ?_
    refine r_iadd d_AL_add_1_18 (v := nI (k + 1)) (nI_add _ _) ?_
    refine r_put fp_AL_48 d_AL_add_1_19 (fun h => nomatch h) rfl rfl (q0 := 0) rfl (Nat.le_of_ble_eq_true rfl) (cs' := [(a, .inr (13, [.int md, .ref dd, .int (nI (k + 1))])), (v, ek), (dd, .inl (5, N, .inr (.inr (.inr (.inr (va_up f k (some v)))))))]) rfl ?_
    refine r_vret d_AL_add_1_22 rfl ?_
    exact ⟨rfl, rfl⟩
  · exact absurd c_3 (nI_nek hk hN)
set_option maxHeartbeats 4000000 in
set_option maxRecDepth 100000 in
theorem C_AL_addR (g : zG) (a v dd N k : Nat) (md : Int32) (f : Nat → Option Nat) (ek : zE) (ho : z_ob ek) (hk : k < N) (hN : N < 2 ^ 31) : CT g M_AL_add_0 [.ref a, .ref v] [(a, .inr (13, [.int md, .ref dd, .int (nI k)])), (v, ek), (dd, .inl (5, N, .inr (.inr (.inr (.inr f)))))] (fun o cs1 => o = .inl (some (.int 1)) ∧ cs1 = [(a, .inr (13, [.int (md + 1), .ref dd, .int (nI (k + 1))])), (v, ek), (dd, .inl (5, N, .inr (.inr (.inr (.inr (va_up f k (some v)))))))]) 0 0 := by
  refine z_of (by decide) rfl (Nat.le_of_ble_eq_true rfl) (fun w0 => ?_)
  refine r_lvE (lv2 := [(0, .ref a), (1, .ref v)]) rfl ?_
  refine r_aload_n d_AL_add_0_0 rfl 0 rfl ?_
  refine r_dup d_AL_add_0_1 rfl ?_
  refine r_get fs_AL_63 d_AL_add_0_2 (q0 := 0) rfl rfl ?_
  refine r_iconst d_AL_add_0_5 (v := 1) (by decide) ?_
  refine r_iadd d_AL_add_0_6 (v := md + 1) rfl ?_
  refine r_put fp_AL_63 d_AL_add_0_7 (fun h => nomatch h) rfl rfl (q0 := 0) rfl (Nat.le_of_ble_eq_true rfl) (cs' := [(a, .inr (13, [.int (md + 1), .ref dd, .int (nI k)])), (v, ek), (dd, .inl (5, N, .inr (.inr (.inr (.inr f)))))]) rfl ?_
  refine r_aload_n d_AL_add_0_10 rfl 0 rfl ?_
  refine r_aload_n d_AL_add_0_11 rfl 1 rfl ?_
  refine r_aload_n d_AL_add_0_12 rfl 0 rfl ?_
  refine r_get fs_AL_9 d_AL_add_0_13 (q0 := 0) rfl rfl ?_
  refine r_aload_n d_AL_add_0_16 rfl 0 rfl ?_
  refine r_get fs_AL_48 d_AL_add_0_17 (q0 := 0) rfl rfl ?_
  refine r_callV (As := [.ref v, .ref dd, .int (nI k)]) (rest := []) (csC := [(a, .inr (13, [.int (md + 1), .ref dd, .int (nI k)])), (v, ek), (dd, .inl (5, N, .inr (.inr (.inr (.inr f)))))]) (is := [0, 1, 2]) (q0 := 0) rfl rfl ln_AL_131 w_im_AL_add_1 w_se_AL_add_1 ok_AL_add_0_AL_add_1 d_AL_add_0_20 (C_AL_addAR g a v dd N k (md + 1) f ek ho hk hN) rfl rfl (Nat.le_of_ble_eq_true rfl) rfl (by decide) (by omega) (by omega) (fun E cs1 hx => ?_) (fun v cs1 hx => ?_)
  · exact absurd hx.1 (by simp)
  · obtain ⟨e1, rfl⟩ := hx
    cases e1
    refine ⟨rfl, ?_⟩
    refine r_st (st2 := []) rfl ?_
    refine r_cs (cs2 := [(a, .inr (13, [.int (md + 1), .ref dd, .int (nI (k + 1))])), (v, ek), (dd, .inl (5, N, .inr (.inr (.inr (.inr (va_up f k (some v)))))))]) rfl ?_
    refine r_iconst d_AL_add_0_23 (v := 1) (by decide) ?_
    refine r_iret d_AL_add_0_24 rfl rfl ?_
    exact ⟨rfl, rfl⟩
end
section
set_option maxHeartbeats 4000000 in
set_option maxRecDepth 100000 in
theorem L_Mm_speedIn_4 (g : zG) (b : Nat) (f : Nat → Int32) (hG : ¬ fa_cnt (fun k => decide (f k = 103)) 12 = 0) (w0 : zW) (n : Nat) : ∀ (d i : Nat), i ≤ 108 → 108 < i + d → DV g M_Mm_speedIn (fun o cs1 => o = .inl (some (.int (rsR f))) ∧ cs1 = [(b, .inl (1, 108, .inl f))]) w0 n 4 [(2, .int (nI i)), (1, .int (nI (rsS f i))), (0, .ref b)] [] [(b, .inl (1, 108, .inl f))] 0 0 := by
  intro d
  induction d with
  | zero => intro i h1 h2 ; exact absurd h2 (by omega)
  | succ d ih =>
    intro i h1 h2 
    refine r_iload_n d_Mm_speedIn_4 rfl 0 rfl ?_
    refine r_bipush d_Mm_speedIn_5 (v := 108) (by decide) ?_
    refine r_icmp_ge (tgt := 35) d_Mm_speedIn_7 (by decide) (fun c_7 => ?_) (fun c_7 => ?_)
    · have hn := z_le (a := 108) (by omega) (by decide) c_7
      obtain rfl : i = 108 := by omega
      refine r_bipush d_Mm_speedIn_35 (v := 60) (by decide) ?_
      refine r_iload_n d_Mm_speedIn_37 rfl 1 rfl ?_
      refine r_imul d_Mm_speedIn_38 (v := nI (60 * (rsS f 108))) (pk_mul _ _) ?_
      refine r_aload_n d_Mm_speedIn_39 rfl 2 rfl ?_
      refine r_callS (As := [.ref b]) (rest := [.int (nI (60 * (rsS f 108)))]) (csC := [(b, .inl (1, 108, .inl f))]) (is := [0]) ln_Mm_137 w_st_Mm_gates ok_Mm_speedIn_Mm_gates d_Mm_speedIn_40 (C_Mm_gates g b f) rfl rfl (Nat.le_of_ble_eq_true rfl) rfl (by decide) (by omega) (by omega) (fun E cs1 hx => ?_) (fun v cs1 hx => ?_)
      · exact absurd hx.1 (by simp)
      · obtain ⟨e1, rfl⟩ := hx
        cases e1
        refine ⟨rfl, ?_⟩
        refine r_st (st2 := [.int (nI (fa_cnt (fun k => decide (f k = 103)) 12)), .int (nI (60 * (rsS f 108)))]) rfl ?_
        refine r_cs (cs2 := [(b, .inl (1, 108, .inl f))]) rfl ?_
        refine r_idiv d_Mm_speedIn_43 (v := nI (60 * rsS f 108) / nI (fa_cnt (fun k => decide (f k = 103)) 12)) (fun q => hG (nI_z (Nat.lt_of_le_of_lt (fa_cnt_le _ 12) (by decide)) q)) rfl ?_
        refine r_iret d_Mm_speedIn_44 rfl rfl ?_
        exact ⟨by rw [rsR, if_neg hG], rfl⟩
    · have hn := z_nle (a := 108) (by omega) (by decide) c_7
      refine r_aload_n d_Mm_speedIn_10 rfl 2 rfl ?_
      refine r_iload_n d_Mm_speedIn_11 rfl 0 rfl ?_
      refine r_cald d_Mm_speedIn_12 (q0 := 0) rfl (vp_in_nI (by omega) (by omega)) (v := f i) (by rw [nI_clamp (by omega)]) ?_
      refine r_bipush d_Mm_speedIn_13 (v := 103) (by decide) ?_
      refine r_icmp_ne (tgt := 27) d_Mm_speedIn_15 (by decide) (fun c_15 => ?_) (fun c_15 => ?_)
      · refine r_iload_n d_Mm_speedIn_27 rfl 1 rfl ?_
        refine r_istore_n (lv' := [(1, .int (nI (rsS f i))), (2, .int (nI i)), (0, .ref b)]) d_Mm_speedIn_28 rfl (by decide) rfl ?_
        refine r_iinc (lv' := [(2, .int (nI (i + 1))), (1, .int (nI (rsS f i))), (0, .ref b)]) (v := nI (i + 1)) d_Mm_speedIn_29 (j := 1) rfl (nI_add _ _) (by decide) rfl ?_
        refine r_goto (tgt := 4) d_Mm_speedIn_32 (by decide) ?_
        refine r_lvE (lv2 := [(2, .int (nI (i + 1))), (1, .int (nI (rsS f (i + 1)))), (0, .ref b)]) (by first | (rw [show rsS f (i + 1) = i / 12 + 1 from if_pos c_15] <;> rfl) | (rw [show rsS f (i + 1) = rsS f i from if_neg c_15] <;> rfl)) ?_
        refine r_cs (cs2 := [(b, .inl (1, 108, .inl f))]) (rfl) ?_
        exact ih (i + 1) (by omega) (by omega)
      · refine r_iload_n d_Mm_speedIn_18 rfl 0 rfl ?_
        refine r_bipush d_Mm_speedIn_19 (v := 12) (by decide) ?_
        refine r_idiv d_Mm_speedIn_21 (v := nI (i / 12)) (by decide) (nI_div12 (by omega)) ?_
        refine r_iconst d_Mm_speedIn_22 (v := 1) (by decide) ?_
        refine r_iadd d_Mm_speedIn_23 (v := nI ((i / 12) + 1)) (nI_add _ _) ?_
        refine r_goto (tgt := 28) d_Mm_speedIn_24 (by decide) ?_
        refine r_istore_n (lv' := [(1, .int (nI ((i / 12) + 1))), (2, .int (nI i)), (0, .ref b)]) d_Mm_speedIn_28 rfl (by decide) rfl ?_
        refine r_iinc (lv' := [(2, .int (nI (i + 1))), (1, .int (nI ((i / 12) + 1))), (0, .ref b)]) (v := nI (i + 1)) d_Mm_speedIn_29 (j := 1) rfl (nI_add _ _) (by decide) rfl ?_
        refine r_goto (tgt := 4) d_Mm_speedIn_32 (by decide) ?_
        refine r_lvE (lv2 := [(2, .int (nI (i + 1))), (1, .int (nI (rsS f (i + 1)))), (0, .ref b)]) (by first | (rw [show rsS f (i + 1) = i / 12 + 1 from if_pos c_15] <;> rfl) | (rw [show rsS f (i + 1) = rsS f i from if_neg c_15] <;> rfl)) ?_
        refine r_cs (cs2 := [(b, .inl (1, 108, .inl f))]) (rfl) ?_
        exact ih (i + 1) (by omega) (by omega)
set_option maxHeartbeats 4000000 in
set_option maxRecDepth 100000 in
theorem C_Mm_speedIn (g : zG) (b : Nat) (f : Nat → Int32) (hG : ¬ fa_cnt (fun k => decide (f k = 103)) 12 = 0) : CT g M_Mm_speedIn [.ref b] [(b, .inl (1, 108, .inl f))] (fun o cs1 => o = .inl (some (.int (rsR f))) ∧ cs1 = [(b, .inl (1, 108, .inl f))]) 0 0 := by
  refine z_of (by decide) rfl (Nat.le_of_ble_eq_true rfl) (fun w0 => ?_)
  refine r_lvE (lv2 := [(0, .ref b)]) rfl ?_
  refine r_iconst d_Mm_speedIn_0 (v := 0) (by decide) ?_
  refine r_istore_n (lv' := [(1, .int 0), (0, .ref b)]) d_Mm_speedIn_1 rfl (by decide) rfl ?_
  refine r_iconst d_Mm_speedIn_2 (v := 0) (by decide) ?_
  refine r_istore_n (lv' := [(2, .int 0), (1, .int 0), (0, .ref b)]) d_Mm_speedIn_3 rfl (by decide) rfl ?_
  refine r_lvE (lv2 := [(2, .int (nI 0)), (1, .int (nI (rsS f 0))), (0, .ref b)]) (rfl) ?_
  refine r_cs (cs2 := [(b, .inl (1, 108, .inl f))]) (rfl) ?_
  exact L_Mm_speedIn_4 g b f hG w0 _  (108 + 1) 0 (Nat.zero_le _) (by omega)
end
section
def rJ (s0 t0 s t : zR) : Prop := (s = s0 ∧ t = t0) ∨ (s = t ∧ ¬ s.1 < 0 ∧ ¬ s.2.1 = -1 ∧ s.2.2.2 = 1)
theorem rJ.e {s0 t0 s t : zR} (h0 : s0.1 = t0.1) (h : rJ s0 t0 s t) : s.1 = t.1 := by
  rcases h with ⟨rfl, rfl⟩ | ⟨rfl, -⟩
  · exact h0
  · rfl
theorem rcI_J {le mo si pp ps pa : Int32} {P A : Nat} {s0 t0 s t : zR} (hp : 0 ≤ prS pp ps pa P A) (hP : P ≤ 100) (h0 : s0.1 = t0.1) (h : rJ s0 t0 s t) : rJ s0 t0 (rcI le mo si pp ps pa P A s) (rcI le mo si pp ps pa P A t) := by
  have e1 := h.e h0
  by_cases hc : rcC le mo si P A ∧ (s.1 < 0 ∨ ¬ s.1 ≤ prS pp ps pa P A)
  · rw [rcI_t hc, rcI_t (s := t) (by rw [← e1]; exact hc)]
    exact Or.inr ⟨rfl, Int32.not_lt.mpr hp, nI_nm1 (Nat.lt_of_le_of_lt hP (by decide)), rfl⟩
  · rw [rcI_f hc, rcI_f (s := t) (by rw [← e1]; exact hc)]
    exact h
theorem rcR_J {le mo si pp ps pa : Int32} {P : Nat} {s0 t0 s t : zR} (hp : ∀ P A, P + A ≤ 100 → 0 ≤ prS pp ps pa P A) (h0 : s0.1 = t0.1) (h : rJ s0 t0 s t) : ∀ A, A ≤ nA P → P ≤ 100 → P ≤ 90 ∨ P = 100 → rJ s0 t0 (rcR le mo si pp ps pa P s A) (rcR le mo si pp ps pa P t A)
  | 0, _, _, _ => h
  | A + 1, h1, h2, h3 => by
    refine rcI_J (hp P A ?_) h2 h0 (rcR_J hp h0 h A (by omega) h2 h3)
    rcases nA_c P with ⟨q1, q2⟩ | ⟨q1, q2⟩ <;> omega
theorem rcO_J {le mo si pp ps pa : Int32} {s t : zR} (hp : ∀ P A, P + A ≤ 100 → 0 ≤ prS pp ps pa P A) (h0 : s.1 = t.1) : ∀ k, k ≤ 11 → rJ s t (rcO le mo si pp ps pa s k) (rcO le mo si pp ps pa t k)
  | 0, _ => Or.inl ⟨rfl, rfl⟩
  | k + 1, hk => rcR_J hp h0 (rcO_J hp h0 k (by omega)) _ (Nat.le_refl _) (by omega) (by omega)
def RCR (r : Nat → Int32) : Prop := (r 2 = 0 ∧ r 3 = -1) ∨ (¬ r 2 = 0 ∧ r 0 = r 3 ∧ r 1 = r 4 ∧ ¬ r 3 = -1)
theorem RCR.pos {r : Nat → Int32} {s t : zR} (hj : rJ (-1, r 0, r 1, r 2) (-1, -1, 0, 0) s t) (hs : ¬ t.1 < 0) : RCR (fun k => if k = 3 then t.2.1 else if k = 4 then t.2.2.1 else if k = 0 then s.2.1 else if k = 1 then s.2.2.1 else if k = 2 then s.2.2.2 else r k) := by
  rcases hj with ⟨rfl, rfl⟩ | ⟨rfl, h1, h2, h3⟩
  · exact absurd (show ((-1 : Int32), (-1 : Int32), (0 : Int32), (0 : Int32)).1 < 0 by decide) hs
  · exact Or.inr ⟨by show ¬ s.2.2.2 = 0; rw [h3]; decide, rfl, rfl, h2⟩
end
section
def bsdS (f : Nat → Int32) (c : Nat) : Nat → Int32
  | 0 => 0
  | s + 1 => (bs c s).elim 1 (fun o => if f o = 46 then 1 else bsdS f c s)
theorem bsdS_n {f : Nat → Int32} {c s : Nat} (h : bs c s = none) : bsdS f c (s + 1) = 1 := by rw [bsdS, h]; rfl
theorem bsdS_o {f : Nat → Int32} {c s o : Nat} (h : bs c s = some o) : bsdS f c (s + 1) = if f o = 46 then 1 else bsdS f c s := by rw [bsdS, h]; rfl
theorem bsdS_01 (f : Nat → Int32) (c : Nat) : ∀ s, bsdS f c s = 0 ∨ bsdS f c s = 1
  | 0 => Or.inl rfl
  | s + 1 => by
    have ih := bsdS_01 f c s
    cases e : bs c s with
    | none => exact Or.inr (bsdS_n e)
    | some o =>
      rw [bsdS_o e]
      split
      · exact Or.inr rfl
      · exact ih
theorem bsdS_1 {f : Nat → Int32} {c s : Nat} (h : ¬ bsdS f c s = 0) : bsdS f c (s + 1) = 1 := by
  have h1 := (bsdS_01 f c s).resolve_left h
  cases e : bs c s with
  | none => exact bsdS_n e
  | some o =>
    rw [bsdS_o e]
    split
    · rfl
    · exact h1
theorem bwH_2 (f : Nat → Int32) (here : Nat) (Q : zQ) : ∀ s, (bwH f here Q s).2 = bsdS f here s
  | 0 => rfl
  | s + 1 => by
    have ih := bwH_2 f here Q s
    show (bwI f here s (bwH f here Q s)).2 = _
    cases e : bs here s with
    | none => rw [bwI_n e, bsdS_n e]
    | some o =>
      rw [bwI_s e, bsdS_o e]
      by_cases q : f o = 46
      · rw [bwJ_0 q, if_pos q]
      · rw [if_neg q]
        by_cases q2 : f o = 111 ∧ (bwH f here Q s).1.2.1 o = 0 ∧ (bwH f here Q s).1.1 < 108
        · rw [bwJ_1 q q2]; exact ih
        · rw [bwJ_2 q q2]; exact ih
theorem bwI_nn {f : Nat → Int32} {here s : Nat} {P : zP} (h : bs here s = none) : (bwI f here s P).1 = P.1 := by rw [bwI_n h]
theorem bwI_no {f : Nat → Int32} {here s o : Nat} {P : zP} (h : bs here s = some o) (h1 : ¬ f o = 111) : (bwI f here s P).1 = P.1 := by
  rw [bwI_s h]
  by_cases q : f o = 46
  · rw [bwJ_0 q]
  · rw [bwJ_2 q (fun q2 => h1 q2.1)]
theorem bwI_ns {f : Nat → Int32} {here s o : Nat} {P : zP} (h : bs here s = some o) (h1 : ¬ P.1.2.1 o = 0) : (bwI f here s P).1 = P.1 := by
  rw [bwI_s h]
  by_cases q : f o = 46
  · rw [bwJ_0 q]
  · rw [bwJ_2 q (fun q2 => h1 q2.2.1)]
theorem bwI_y {f : Nat → Int32} {here s o : Nat} {P : zP} (h : bs here s = some o) (h1 : f o = 111) (h2 : P.1.2.1 o = 0) (h3 : P.1.1 < 108) : (bwI f here s P).1 = (P.1.1 + 1, upd P.1.2.1 o 1, updN P.1.2.2 P.1.1 o) := by
  rw [bwI_s h, bwJ_1 (by rw [h1]; decide) ⟨h1, h2, h3⟩]
def bsP (f : Nat → Int32) (c : Nat) : Bool := decide (¬ bsdS f c 4 = 0)
def nwP (f sn se : Nat → Int32) (k : Nat) : Bool := decide (¬ se k = 0) && (decide (sn k = 0) && bsP f k)
theorem cnt_at {p p' : Nat → Bool} {o : Nat} (h : ∀ k, ¬ k = o → p' k = p k) (h0 : p o = false) : ∀ n, (n ≤ o → fa_cnt p' n = fa_cnt p n) ∧ (o < n → fa_cnt p' n = fa_cnt p n + (p' o).toNat)
  | 0 => ⟨fun _ => rfl, fun q => absurd q (Nat.not_lt_zero _)⟩
  | n + 1 => by
    have ih := cnt_at h h0 n
    refine ⟨fun q => ?_, fun q => ?_⟩
    · rw [fa_cnt, fa_cnt, ih.1 (by omega), h n (by omega)]
    · by_cases hn : n = o
      · subst hn
        rw [fa_cnt_no (p := p) h0]
        cases e : p' n with
        | true => rw [fa_cnt_yes (p := p') e, ih.1 (Nat.le_refl _)]; rfl
        | false => rw [fa_cnt_no (p := p') e, ih.1 (Nat.le_refl _)]; rfl
      · rw [fa_cnt, fa_cnt, ih.2 (by omega), h n hn, Nat.add_right_comm]
theorem upd_eq {f : Nat → Int32} {o : Nat} {v : Int32} : upd f o v o = v := if_pos rfl
theorem upd_ne {f : Nat → Int32} {o k : Nat} {v : Int32} (h : ¬ k = o) : upd f o v k = f k := if_neg h
theorem updN_eq {q : Nat → Nat} {t v : Nat} : updN q t v t = v := by unfold updN; rw [if_pos rfl]
theorem updN_ne {q : Nat → Nat} {t v k : Nat} (h : ¬ k = t) : updN q t v k = q k := by unfold updN; rw [if_neg h]
def bI (f sn : Nat → Int32) (P : zQ) : Prop := (∀ k, ¬ sn k = 0 → ¬ P.2.1 k = 0) ∧ P.1 ≤ ctM P.2.1 ∧ fa_cnt (nwP f sn P.2.1) 108 = fa_cnt (fun j => bsP f (P.2.2 j)) P.1
theorem bI_up {f sn : Nat → Int32} {P : zQ} {o : Nat} (h : bI f sn P) (ho : o < 108) (h0 : P.2.1 o = 0) : bI f sn (P.1 + 1, upd P.2.1 o 1, updN P.2.2 P.1 o) := by
  have hs : sn o = 0 := Classical.byContradiction (fun q => h.1 o q h0)
  refine ⟨fun k hk => ?_, ?_, ?_⟩
  · show ¬ upd P.2.1 o 1 k = 0
    by_cases q : k = o
    · subst q; rw [upd_eq]; decide
    · rw [upd_ne q]; exact h.1 k hk
  · show P.1 + 1 ≤ ctM (upd P.2.1 o 1)
    rw [ct_up ho h0]
    have := h.2.1
    omega
  · show fa_cnt (nwP f sn (upd P.2.1 o 1)) 108 = fa_cnt (fun j => bsP f (updN P.2.2 P.1 o j)) (P.1 + 1)
    have e0 : nwP f sn P.2.1 o = false := by
      show (decide (¬ P.2.1 o = 0) && _) = false
      rw [decide_eq_false (show ¬ ¬ P.2.1 o = 0 from fun q => q h0)]; rfl
    have e2 := (cnt_at (p := nwP f sn P.2.1) (p' := nwP f sn (upd P.2.1 o 1)) (o := o) (fun k hk => by unfold nwP; rw [upd_ne hk]) e0 108).2 ho
    have e3 : nwP f sn (upd P.2.1 o 1) o = bsP f o := by
      show (decide (¬ upd P.2.1 o 1 o = 0) && (decide (sn o = 0) && bsP f o)) = bsP f o
      rw [decide_eq_true (show ¬ upd P.2.1 o 1 o = 0 by rw [upd_eq]; decide), decide_eq_true hs]; rfl
    have e4 : fa_cnt (fun j => bsP f (updN P.2.2 P.1 o j)) P.1 = fa_cnt (fun j => bsP f (P.2.2 j)) P.1 := fa_cnt_cong (fun k hk => congrArg (bsP f) (updN_ne (by omega)))
    have e5 : bsP f (updN P.2.2 P.1 o P.1) = bsP f o := congrArg (bsP f) updN_eq
    rw [e2, e3, h.2.2]
    cases e : bsP f o with
    | true => rw [fa_cnt_yes (p := fun j => bsP f (updN P.2.2 P.1 o j)) (e5.trans e), e4]; rfl
    | false => rw [fa_cnt_no (p := fun j => bsP f (updN P.2.2 P.1 o j)) (e5.trans e), e4]; rfl
theorem bI_0 {f sn : Nat → Int32} {qn : Nat → Nat} : bI f sn (0, sn, qn) := by
  refine ⟨fun k h => h, Nat.zero_le _, ?_⟩
  show fa_cnt (nwP f sn sn) 108 = 0
  have key : ∀ n, fa_cnt (nwP f sn sn) n = 0 := fun n => by
    induction n with
    | zero => rfl
    | succ n ih =>
      rw [fa_cnt_no, ih]
      unfold nwP
      by_cases q : sn n = 0
      · rw [decide_eq_false (show ¬ ¬ sn n = 0 from fun e => e q)]; rfl
      · rw [decide_eq_false q, Bool.false_and, Bool.and_false]
  exact key 108
theorem bI_1 {f sn : Nat → Int32} {qn : Nat → Nat} {st : Nat} (hst : st < 108) (h0 : sn st = 0) : bI f sn (1, upd sn st 1, updN qn 0 st) := bI_up (P := (0, sn, qn)) bI_0 hst h0
theorem bI_lt {f sn : Nat → Int32} {P : zQ} {o : Nat} (h : bI f sn P) (ho : o < 108) (h0 : P.2.1 o = 0) : P.1 < 108 := by
  have h1 := ct_up ho h0
  have h2 := ctm_le (upd P.2.1 o 1)
  have h3 := h.2.1
  omega
theorem bI_I {f sn : Nat → Int32} {here s : Nat} {P : zP} (hh : here < 108) (h : bI f sn P.1) : bI f sn (bwI f here s P).1 := by
  cases e : bs here s with
  | none => rw [bwI_nn e]; exact h
  | some o =>
    by_cases q1 : f o = 111
    · by_cases q2 : P.1.2.1 o = 0
      · rw [bwI_y e q1 q2 (bI_lt h (bs_lt hh e) q2)]
        exact bI_up h (bs_lt hh e) q2
      · rw [bwI_ns e q2]; exact h
    · rw [bwI_no e q1]; exact h
theorem bI_H {f sn : Nat → Int32} {here : Nat} {Q : zQ} (hh : here < 108) (h : bI f sn Q) : ∀ s, bI f sn (bwH f here Q s).1
  | 0 => h
  | s + 1 => bI_I hh (bI_H hh h s)
theorem bI_B {f sn : Nat → Int32} {Q0 : zQ} (hk : Qok Q0) (h0 : bI f sn Q0) : ∀ h, bI f sn (bwB f Q0 h).1
  | 0 => h0
  | h + 1 => by
    have ih := bI_B hk h0 h
    by_cases q : h < (bwB f Q0 h).1.1
    · rw [bwB_t q]
      exact bI_H ((bwB_ok hk h).2 h q) ih 4
    · rw [bwB_f q]; exact ih
theorem bwB_c {f : Nat → Int32} {Q0 : zQ} (hk : Qok Q0) : ∀ h, (bwB f Q0 h).2 = fa_cnt (fun j => bsP f ((bwB f Q0 h).1.2.2 j)) (min h (bwB f Q0 h).1.1)
  | 0 => by rw [Nat.zero_min]; rfl
  | h + 1 => by
    have ih := bwB_c (f := f) hk h
    have hok := bwB_ok (f := f) hk h
    by_cases q : h < (bwB f Q0 h).1.1
    · have hh := hok.2 h q
      have w := fun j (hj : j < (bwB f Q0 h).1.1) => bwH_ok (f := f) hh hok hj 4
      rw [bwB_t q]
      show bwL (bwH f ((bwB f Q0 h).1.2.2 h) (bwB f Q0 h).1 4) (bwB f Q0 h).2 = fa_cnt (fun j => bsP f ((bwH f ((bwB f Q0 h).1.2.2 h) (bwB f Q0 h).1 4).1.2.2 j)) (min (h + 1) (bwH f ((bwB f Q0 h).1.2.2 h) (bwB f Q0 h).1 4).1.1)
      rw [Nat.min_eq_left (show h + 1 ≤ (bwH f ((bwB f Q0 h).1.2.2 h) (bwB f Q0 h).1 4).1.1 from (w h q).2.2)]
      rw [Nat.min_eq_left (Nat.le_of_lt q)] at ih
      have e4 : fa_cnt (fun j => bsP f ((bwH f ((bwB f Q0 h).1.2.2 h) (bwB f Q0 h).1 4).1.2.2 j)) h = fa_cnt (fun j => bsP f ((bwB f Q0 h).1.2.2 j)) h := fa_cnt_cong (fun k hk9 => congrArg (bsP f) (w k (by omega)).2.1)
      have e5 := congrArg (bsP f) (w h q).2.1
      have e6 := bwH_2 f ((bwB f Q0 h).1.2.2 h) (bwB f Q0 h).1 4
      unfold bwL
      rw [e6, ih]
      by_cases z : bsdS f ((bwB f Q0 h).1.2.2 h) 4 = 0
      · rw [if_pos z, fa_cnt_no (p := fun j => bsP f ((bwH f ((bwB f Q0 h).1.2.2 h) (bwB f Q0 h).1 4).1.2.2 j)) (e5.trans (by unfold bsP; exact decide_eq_false (fun y => y z))), e4]
      · rw [if_neg z, fa_cnt_yes (p := fun j => bsP f ((bwH f ((bwB f Q0 h).1.2.2 h) (bwB f Q0 h).1 4).1.2.2 j)) (e5.trans (by unfold bsP; exact decide_eq_true z)), e4]
    · rw [bwB_f q, ih, Nat.min_eq_right (by omega), Nat.min_eq_right (by omega)]
theorem Qok_1 {sn : Nat → Int32} {qn : Nat → Nat} {st : Nat} (hst : st < 108) : Qok (1, upd sn st 1, updN qn 0 st) := ⟨by show 1 ≤ 108; omega, fun k hk => by
  have e : k = 0 := Nat.lt_one_iff.mp hk
  show updN qn 0 st k < 108
  unfold updN; rw [if_pos e]; exact hst⟩
theorem bg_c {f sn : Nat → Int32} {qn : Nat → Nat} {st : Nat} (hst : st < 108) (h0 : sn st = 0) : (bgB f sn qn st).2 = fa_cnt (nwP f sn (bgB f sn qn st).1.2.1) 108 := by
  unfold bgB
  have h1 := bwB_c (f := f) (Qok_1 (sn := sn) (qn := qn) hst) 108
  have h2 := bI_B (Qok_1 (sn := sn) (qn := qn) hst) (bI_1 (f := f) (qn := qn) hst h0) 108
  have h3 := (bwB_ok (f := f) (Qok_1 (sn := sn) (qn := qn) hst) 108).1
  rw [Nat.min_eq_right h3] at h1
  rw [h1, h2.2.2]
def gqE (P R : zQ) : Prop := P.1 = R.1 ∧ (∀ k, k < 108 → (P.2.1 k = 0 ↔ R.2.1 k = 0)) ∧ ∀ j, j < P.1 → P.2.2 j = R.2.2 j
theorem gqE_up {P R : zQ} {o : Nat} (h : gqE P R) : gqE (P.1 + 1, upd P.2.1 o 1, updN P.2.2 P.1 o) (R.1 + 1, upd R.2.1 o 1, updN R.2.2 R.1 o) := by
  refine ⟨congrArg (· + 1) h.1, fun k hk => ?_, fun j hj => ?_⟩
  · show upd P.2.1 o 1 k = 0 ↔ upd R.2.1 o 1 k = 0
    by_cases q : k = o
    · subst q; rw [upd_eq, upd_eq]
    · rw [upd_ne q, upd_ne q]; exact h.2.1 k hk
  · show updN P.2.2 P.1 o j = updN R.2.2 R.1 o j
    rw [← h.1]
    by_cases q : j = P.1
    · subst q; rw [updN_eq, updN_eq]
    · rw [updN_ne q, updN_ne q]; exact h.2.2 j (by have : j < P.1 + 1 := hj; omega)
theorem gqE_I {f : Nat → Int32} {here s : Nat} {P R : zP} (hh : here < 108) (h : gqE P.1 R.1) : gqE (bwI f here s P).1 (bwI f here s R).1 := by
  cases e : bs here s with
  | none => rw [bwI_nn e, bwI_nn e]; exact h
  | some o =>
    by_cases q1 : f o = 111
    · by_cases q2 : P.1.2.1 o = 0
      · have q2' := (h.2.1 o (bs_lt hh e)).mp q2
        by_cases q3 : P.1.1 < 108
        · rw [bwI_y e q1 q2 q3, bwI_y e q1 q2' (by rw [← h.1]; exact q3)]
          exact gqE_up h
        · rw [bwI_s e, bwI_s e, bwJ_2 (by rw [q1]; decide) (fun z => q3 z.2.2), bwJ_2 (by rw [q1]; decide) (fun z => q3 (by rw [h.1]; exact z.2.2))]
          exact h
      · rw [bwI_ns e q2, bwI_ns e (fun z => q2 ((h.2.1 o (bs_lt hh e)).mpr z))]; exact h
    · rw [bwI_no e q1, bwI_no e q1]; exact h
theorem gqE_H {f : Nat → Int32} {here : Nat} {P R : zQ} (hh : here < 108) (h : gqE P R) : ∀ s, gqE (bwH f here P s).1 (bwH f here R s).1
  | 0 => h
  | s + 1 => gqE_I hh (gqE_H hh h s)
theorem gqE_B {f : Nat → Int32} {P R : zQ} (hk : Qok P) (h0 : gqE P R) : ∀ h, gqE (bwB f P h).1 (bwB f R h).1 ∧ (bwB f P h).2 = (bwB f R h).2
  | 0 => ⟨h0, rfl⟩
  | h + 1 => by
    have ih := gqE_B (f := f) hk h0 h
    by_cases q : h < (bwB f P h).1.1
    · have q' : h < (bwB f R h).1.1 := by rw [← ih.1.1]; exact q
      have e := ih.1.2.2 h q
      have hh := (bwB_ok (f := f) hk h).2 h q
      rw [bwB_t q, bwB_t q', ← e]
      refine ⟨gqE_H hh ih.1 4, ?_⟩
      show bwL _ _ = bwL _ _
      unfold bwL
      rw [bwH_2, bwH_2, ih.2]
    · rw [bwB_f q, bwB_f (fun z => q (by rw [ih.1.1]; exact z))]; exact ih
theorem gqE_g {f sn sm : Nat → Int32} {qn qm : Nat → Nat} {st : Nat} (hst : st < 108) (h : ∀ k, k < 108 → (sn k = 0 ↔ sm k = 0)) : gqE (bgB f sn qn st).1 (bgB f sm qm st).1 ∧ (bgB f sn qn st).2 = (bgB f sm qm st).2 := by
  have h0 : gqE ((1, upd sn st 1, updN qn 0 st) : zQ) (1, upd sm st 1, updN qm 0 st) := by
    refine ⟨rfl, fun k hk => ?_, fun j hj => ?_⟩
    · show upd sn st 1 k = 0 ↔ upd sm st 1 k = 0
      by_cases q : k = st
      · subst q; rw [upd_eq, upd_eq]
      · rw [upd_ne q, upd_ne q]; exact h k hk
    · have e : j = 0 := Nat.lt_one_iff.mp hj
      subst e
      show updN qn 0 st 0 = updN qm 0 st 0
      rw [updN_eq, updN_eq]
  have key := gqE_B (f := f) (Qok_1 hst) h0
  unfold bgB
  exact key 108
def sgn (gp : Nat → Int32) : Nat → Int32 := fun k => if gp k = -1 then 0 else 1
theorem sgn_0 {gp : Nat → Int32} {k : Nat} : sgn gp k = 0 ↔ gp k = -1 := by
  unfold sgn
  split
  · exact ⟨fun _ => by assumption, fun _ => rfl⟩
  · exact ⟨fun e => absurd e (by decide), fun e => absurd e (by assumption)⟩
def gpX (gp : Nat → Int32) (nv : Int32) (P : zQ) : Nat → Int32 := fun k => if gp k = -1 ∧ ¬ P.2.1 k = 0 then nv else gp k
theorem gpX_1 {gp : Nat → Int32} {nv : Int32} {st : Nat} {qn : Nat → Nat} (h : gp st = -1) : upd gp st nv = gpX gp nv (1, upd (sgn gp) st 1, updN qn 0 st) := funext fun k => by
  show _ = if gp k = -1 ∧ ¬ upd (sgn gp) st 1 k = 0 then nv else gp k
  by_cases q : k = st
  · subst q; rw [upd_eq, if_pos ⟨h, by rw [upd_eq]; decide⟩]
  · rw [upd_ne q, upd_ne q, if_neg (fun z => z.2 (sgn_0.mpr z.1))]
theorem gpX_up {f gp : Nat → Int32} {nv : Int32} {P : zQ} {o : Nat} (hb : bI f (sgn gp) P) (h0 : P.2.1 o = 0) : upd (gpX gp nv P) o nv = gpX gp nv (P.1 + 1, upd P.2.1 o 1, updN P.2.2 P.1 o) := funext fun k => by
  have hg : gp o = -1 := Classical.byContradiction (fun q => hb.1 o (fun z => q (sgn_0.mp z)) h0)
  show _ = if gp k = -1 ∧ ¬ upd P.2.1 o 1 k = 0 then nv else gp k
  by_cases q : k = o
  · subst q; rw [upd_eq, if_pos ⟨hg, by rw [upd_eq]; decide⟩]
  · rw [upd_ne q, upd_ne q]; rfl
theorem gpX_m {f gp : Nat → Int32} {nv : Int32} {P : zQ} {o : Nat} (hb : bI f (sgn gp) P) (hn : ¬ nv = -1) : gpX gp nv P o = -1 ↔ P.2.1 o = 0 := by
  unfold gpX
  by_cases h0 : P.2.1 o = 0
  · have hg : gp o = -1 := Classical.byContradiction (fun q => hb.1 o (fun z => q (sgn_0.mp z)) h0)
    rw [if_neg (fun z => z.2 h0)]
    exact ⟨fun _ => h0, fun _ => hg⟩
  · by_cases hg : gp o = -1
    · rw [if_pos ⟨hg, h0⟩]; exact ⟨fun e => absurd e hn, fun e => absurd e h0⟩
    · rw [if_neg (fun z => hg z.1)]; exact ⟨fun e => absurd e hg, fun e => absurd e h0⟩
theorem mn_I {f : Nat → Int32} {here s k : Nat} {P : zP} (h : ¬ P.1.2.1 k = 0) : ¬ (bwI f here s P).1.2.1 k = 0 := by
  cases e : bs here s with
  | none => rw [bwI_nn e]; exact h
  | some o =>
    rw [bwI_s e]
    by_cases q : f o = 46
    · rw [bwJ_0 q]; exact h
    · by_cases q2 : f o = 111 ∧ P.1.2.1 o = 0 ∧ P.1.1 < 108
      · rw [bwJ_1 q q2]
        show ¬ upd P.1.2.1 o 1 k = 0
        by_cases z : k = o
        · subst z; rw [upd_eq]; decide
        · rw [upd_ne z]; exact h
      · rw [bwJ_2 q q2]; exact h
theorem mn_H {f : Nat → Int32} {here k : Nat} {Q : zQ} (h : ¬ Q.2.1 k = 0) : ∀ s, ¬ (bwH f here Q s).1.2.1 k = 0
  | 0 => h
  | s + 1 => mn_I (mn_H h s)
theorem mn_B {f : Nat → Int32} {k : Nat} {Q : zQ} (h : ¬ Q.2.1 k = 0) : ∀ n, ¬ (bwB f Q n).1.2.1 k = 0
  | 0 => h
  | n + 1 => by
    have ih := mn_B (f := f) h n
    by_cases q : n < (bwB f Q n).1.1
    · rw [bwB_t q]; exact mn_H ih 4
    · rw [bwB_f q]; exact ih
abbrev zRG : Type := (Nat → Int32) × (Nat → Nat) × Nat
def rgS (f : Nat → Int32) (S0 : zRG) : Nat → zRG
  | 0 => S0
  | i + 1 => if f i = 111 ∧ (rgS f S0 i).1 i = -1 then (gpX (rgS f S0 i).1 (nI (rgS f S0 i).2.2) (bgB f (sgn (rgS f S0 i).1) (rgS f S0 i).2.1 i).1, (bgB f (sgn (rgS f S0 i).1) (rgS f S0 i).2.1 i).1.2.2, (rgS f S0 i).2.2 + 1) else rgS f S0 i
theorem rgS_t {f : Nat → Int32} {S0 : zRG} {i : Nat} (h : f i = 111 ∧ (rgS f S0 i).1 i = -1) : rgS f S0 (i + 1) = (gpX (rgS f S0 i).1 (nI (rgS f S0 i).2.2) (bgB f (sgn (rgS f S0 i).1) (rgS f S0 i).2.1 i).1, (bgB f (sgn (rgS f S0 i).1) (rgS f S0 i).2.1 i).1.2.2, (rgS f S0 i).2.2 + 1) := if_pos h
theorem rgS_f {f : Nat → Int32} {S0 : zRG} {i : Nat} (h : ¬ (f i = 111 ∧ (rgS f S0 i).1 i = -1)) : rgS f S0 (i + 1) = rgS f S0 i := if_neg h
theorem rgS_le {f : Nat → Int32} {S0 : zRG} (h0 : S0.2.2 = 0) : ∀ i, (rgS f S0 i).2.2 ≤ i
  | 0 => by show S0.2.2 ≤ 0; omega
  | i + 1 => by
    have ih := rgS_le (f := f) h0 i
    by_cases q : f i = 111 ∧ (rgS f S0 i).1 i = -1
    · rw [rgS_t q]; show (rgS f S0 i).2.2 + 1 ≤ i + 1; omega
    · rw [rgS_f q]; omega
def rgC (f gp : Nat → Int32) (c k : Nat) : Bool := decide (gp k = nI c) && bsP f k
def rgL (f gp : Nat → Int32) (c : Nat) : Bool := decide (fa_cnt (rgC f gp c) 108 < 2)
theorem gpX_c {gp : Nat → Int32} {P : zQ} {n c k : Nat} (hc : c < n) (hn : n < 2 ^ 31) : gpX gp (nI n) P k = nI c ↔ gp k = nI c := by
  unfold gpX
  split
  · rename_i h
    refine ⟨fun e => absurd (z_eqn hn (by omega) e) (by omega), fun e => ?_⟩
    rw [h.1] at e
    exact absurd e.symm (nI_nm1 (by omega))
  · exact Iff.rfl
theorem rg_rel {f sn : Nat → Int32} {qn : Nat → Nat} {S0 : zRG} (h0 : S0.2.2 = 0) (hg : ∀ k, k < 108 → S0.1 k = -1) (hs : ∀ k, k < 108 → sn k = 0) : ∀ i, i ≤ 108 → (∀ m, ∀ k, k < 108 → ((grS f m (sn, qn, 0) i).1 k = 0 ↔ (rgS f S0 i).1 k = -1)) ∧ (∀ k, k < 108 → (rgS f S0 i).1 k = -1 ∨ ∃ c, c < (rgS f S0 i).2.2 ∧ (rgS f S0 i).1 k = nI c) ∧ (grS f 109 (sn, qn, 0) i).2.2 = (rgS f S0 i).2.2 ∧ (grS f 2 (sn, qn, 0) i).2.2 = fa_cnt (rgL f (rgS f S0 i).1) (rgS f S0 i).2.2
  | 0, _ => by
    refine ⟨fun m k hk => ⟨fun _ => hg k hk, fun _ => hs k hk⟩, fun k hk => Or.inl (hg k hk), h0.symm, ?_⟩
    show 0 = fa_cnt (rgL f S0.1) S0.2.2
    rw [h0]; rfl
  | i + 1, hi => by
    have ih := rg_rel (f := f) (qn := qn) h0 hg hs i (by omega)
    have hle := rgS_le (f := f) h0 i
    by_cases q : f i = 111 ∧ (rgS f S0 i).1 i = -1
    · have qc : ∀ m, f i = 111 ∧ (grS f m (sn, qn, 0) i).1 i = 0 := fun m => ⟨q.1, (ih.1 m i (by omega)).mpr q.2⟩
      have hz := fun m => gqE_g (f := f) (sn := (grS f m (sn, qn, 0) i).1) (sm := sgn (rgS f S0 i).1) (qn := (grS f m (sn, qn, 0) i).2.1) (qm := (rgS f S0 i).2.1) (st := i) (by omega) (fun k hk => (ih.1 m k hk).trans sgn_0.symm)
      have hb : bI f (sgn (rgS f S0 i).1) (bgB f (sgn (rgS f S0 i).1) (rgS f S0 i).2.1 i).1 := by
        unfold bgB
        exact bI_B (Qok_1 (by omega)) (bI_1 (by omega) (sgn_0.mpr q.2)) 108
      have hn1 : ¬ nI (rgS f S0 i).2.2 = -1 := nI_nm1 (by omega)
      obtain ⟨G, hG⟩ : ∃ G, G = gpX (rgS f S0 i).1 (nI (rgS f S0 i).2.2) (bgB f (sgn (rgS f S0 i).1) (rgS f S0 i).2.1 i).1 := ⟨_, rfl⟩
      rw [rgS_t q, ← hG]
      refine ⟨fun m k hk => ?_, fun k hk => ?_, ?_, ?_⟩
      · have e9 : (grS f m (sn, qn, 0) (i + 1)).1 = (bgB f (grS f m (sn, qn, 0) i).1 (grS f m (sn, qn, 0) i).2.1 i).1.2.1 := by
          by_cases z : (bgB f (grS f m (sn, qn, 0) i).1 (grS f m (sn, qn, 0) i).2.1 i).2 < m
          · rw [grS_t (qc m) z]
          · rw [grS_n (qc m) z]
        rw [e9]
        show _ ↔ G k = -1
        rw [hG]
        exact ((hz m).1.2.1 k hk).trans (gpX_m hb hn1).symm
      · show G k = -1 ∨ ∃ c, c < (rgS f S0 i).2.2 + 1 ∧ G k = nI c
        rw [hG]
        by_cases z : (rgS f S0 i).1 k = -1 ∧ ¬ (bgB f (sgn (rgS f S0 i).1) (rgS f S0 i).2.1 i).1.2.1 k = 0
        · exact Or.inr ⟨_, Nat.lt_succ_self _, if_pos z⟩
        · rw [show gpX (rgS f S0 i).1 (nI (rgS f S0 i).2.2) (bgB f (sgn (rgS f S0 i).1) (rgS f S0 i).2.1 i).1 k = (rgS f S0 i).1 k from if_neg z]
          exact (ih.2.1 k hk).imp id (fun ⟨c, hc, e⟩ => ⟨c, Nat.lt_succ_of_lt hc, e⟩)
      · rw [grS_t (qc 109) (Nat.lt_of_le_of_lt bgB_le (by decide))]
        exact congrArg (· + 1) ih.2.2.1
      · have e1 : fa_cnt (rgL f G) (rgS f S0 i).2.2 = fa_cnt (rgL f (rgS f S0 i).1) (rgS f S0 i).2.2 := fa_cnt_cong (fun c hc => by
          have e2 : fa_cnt (rgC f G c) 108 = fa_cnt (rgC f (rgS f S0 i).1 c) 108 := fa_cnt_cong (fun k hk => by
            unfold rgC
            rw [hG]
            exact congrArg (· && bsP f k) (decide_eq_decide.mpr (gpX_c hc (by omega))))
          unfold rgL
          rw [e2])
        have e3 : fa_cnt (rgC f G (rgS f S0 i).2.2) 108 = (bgB f (grS f 2 (sn, qn, 0) i).1 (grS f 2 (sn, qn, 0) i).2.1 i).2 := by
          rw [(hz 2).2, bg_c (by omega) (sgn_0.mpr q.2)]
          refine fa_cnt_cong (fun k hk => ?_)
          unfold rgC nwP
          have e4 : decide (G k = nI (rgS f S0 i).2.2) = (decide (¬ (bgB f (sgn (rgS f S0 i).1) (rgS f S0 i).2.1 i).1.2.1 k = 0) && decide (sgn (rgS f S0 i).1 k = 0)) := by
            rw [← Bool.decide_and, hG]
            refine decide_eq_decide.mpr ⟨fun e => ?_, fun e => if_pos ⟨sgn_0.mp e.2, e.1⟩⟩
            refine Classical.byContradiction (fun z => ?_)
            rw [show gpX (rgS f S0 i).1 (nI (rgS f S0 i).2.2) (bgB f (sgn (rgS f S0 i).1) (rgS f S0 i).2.1 i).1 k = (rgS f S0 i).1 k from if_neg (fun y => z ⟨y.2, sgn_0.mpr y.1⟩)] at e
            rcases ih.2.1 k hk with y | ⟨c, hc, y⟩
            · exact hn1 (e.symm.trans y)
            · exact absurd (z_eqn (by omega) (by omega) (y.symm.trans e)) (by omega)
          rw [e4, Bool.and_assoc]
        show (grS f 2 (sn, qn, 0) (i + 1)).2.2 = fa_cnt (rgL f G) ((rgS f S0 i).2.2 + 1)
        by_cases z : (bgB f (grS f 2 (sn, qn, 0) i).1 (grS f 2 (sn, qn, 0) i).2.1 i).2 < 2
        · have e7 : rgL f G (rgS f S0 i).2.2 = true := by unfold rgL; exact decide_eq_true (by rw [e3]; exact z)
          rw [grS_t (qc 2) z, fa_cnt_yes (p := rgL f G) e7, e1]
          exact congrArg (· + 1) ih.2.2.2
        · have e7 : rgL f G (rgS f S0 i).2.2 = false := by unfold rgL; exact decide_eq_false (by rw [e3]; exact z)
          rw [grS_n (qc 2) z, fa_cnt_no (p := rgL f G) e7, e1]
          exact ih.2.2.2
    · have qc : ∀ m, ¬ (f i = 111 ∧ (grS f m (sn, qn, 0) i).1 i = 0) := fun m z => q ⟨z.1, (ih.1 m i (by omega)).mp z.2⟩
      rw [rgS_f q, grS_f (qc 109), grS_f (qc 2)]
      refine ⟨fun m k hk => ?_, ih.2.1, ih.2.2.1, ih.2.2.2⟩
      rw [grS_f (qc m)]
      exact ih.1 m k hk
def coN (f : Nat → Int32) : Nat := (rgS f (fun _ => -1, fun _ => 0, 0) 108).2.2
def loN (f : Nat → Int32) : Nat := fa_cnt (rgL f (rgS f (fun _ => -1, fun _ => 0, 0) 108).1) (rgS f (fun _ => -1, fun _ => 0, 0) 108).2.2
theorem co_c {f sn : Nat → Int32} {qn : Nat → Nat} : (grS f 109 (fa_fill (fun _ => 0) sn 108, qn, 0) 108).2.2 = coN f := (rg_rel (f := f) (qn := qn) (S0 := (fun _ => -1, fun _ => 0, 0)) rfl (fun _ _ => rfl) (fun _ hk => fa_fill_in hk) 108 (Nat.le_refl _)).2.2.1
theorem lo_c {f sn : Nat → Int32} {qn : Nat → Nat} : (grS f 2 (fa_fill (fun _ => 0) sn 108, qn, 0) 108).2.2 = loN f := (rg_rel (f := f) (qn := qn) (S0 := (fun _ => -1, fun _ => 0, 0)) rfl (fun _ _ => rfl) (fun _ hk => fa_fill_in hk) 108 (Nat.le_refl _)).2.2.2
theorem co_r {f gp : Nat → Int32} {qn : Nat → Nat} : (rgS f (fa_fill (fun _ => -1) gp 108, qn, 0) 108).2.2 = coN f := by
  have h := (rg_rel (f := f) (sn := fa_fill (fun _ => 0) gp 108) (qn := qn) (S0 := (fa_fill (fun _ => -1) gp 108, qn, 0)) rfl (fun k hk => show fa_fill (fun _ => (-1 : Int32)) gp 108 k = -1 from if_pos hk) (fun k hk => show fa_fill (fun _ => (0 : Int32)) gp 108 k = 0 from if_pos hk) 108 (Nat.le_refl _)).2.2.1
  exact h.symm.trans co_c
theorem lo_r {f gp : Nat → Int32} {qn : Nat → Nat} : fa_cnt (rgL f (rgS f (fa_fill (fun _ => -1) gp 108, qn, 0) 108).1) (rgS f (fa_fill (fun _ => -1) gp 108, qn, 0) 108).2.2 = loN f := by
  have h := (rg_rel (f := f) (sn := fa_fill (fun _ => 0) gp 108) (qn := qn) (S0 := (fa_fill (fun _ => -1) gp 108, qn, 0)) rfl (fun k hk => show fa_fill (fun _ => (-1 : Int32)) gp 108 k = -1 from if_pos hk) (fun k hk => show fa_fill (fun _ => (0 : Int32)) gp 108 k = 0 from if_pos hk) 108 (Nat.le_refl _)).2.2.2
  exact h.symm.trans lo_c
theorem co_le (f : Nat → Int32) : coN f ≤ 108 := rgS_le rfl 108
theorem lo_le (f : Nat → Int32) : loN f ≤ 108 := Nat.le_trans (fa_cnt_le _ _) (co_le f)
theorem oI_nn {c s : Nat} (hc : c < 108) (h : oI (bs c s) = -1) : bs c s = none := by
  cases e : bs c s with
  | none => rfl
  | some o =>
    rw [e] at h
    exact absurd h (nI_nm1 (a := o) (by have := bs_lt hc e; omega))
set_option maxHeartbeats 4000000 in
set_option maxRecDepth 100000 in
theorem L_Mm_isBesideSand_4 (g : zG) (b : Nat) (f : Nat → Int32) (c : Nat) (hc : c < 108) (w0 : zW) (n : Nat) : ∀ (d i : Nat), i ≤ 4 → 4 < i + d → DV g M_Mm_isBesideSand (fun o cs1 => o = .inl (some (.int (bsdS f c 4))) ∧ cs1 = [(b, .inl (1, 108, .inl f))]) w0 n 4 [(3, .int (nI i)), (2, .int (bsdS f c i)), (0, .ref b), (1, .int (nI c))] [] [(b, .inl (1, 108, .inl f))] 0 0 := by
  intro d
  induction d with
  | zero => intro i h1 h2 ; exact absurd h2 (by omega)
  | succ d ih =>
    intro i h1 h2 
    refine r_iload_n d_Mm_isBesideSand_4 rfl 0 rfl ?_
    refine r_iconst d_Mm_isBesideSand_5 (v := 4) (by decide) ?_
    refine r_icmp_ge (tgt := 47) d_Mm_isBesideSand_6 (by decide) (fun c_6 => ?_) (fun c_6 => ?_)
    · have hn := z_le (a := 4) (by omega) (by decide) c_6
      obtain rfl : i = 4 := by omega
      refine r_iload_n d_Mm_isBesideSand_47 rfl 1 rfl ?_
      refine r_iret d_Mm_isBesideSand_48 rfl (z_nar01 (bsdS_01 f c 4)) ?_
      exact ⟨rfl, rfl⟩
    · have hn := z_nle (a := 4) (by omega) (by decide) c_6
      refine r_iload_n d_Mm_isBesideSand_9 rfl 3 rfl ?_
      refine r_iload_n d_Mm_isBesideSand_10 rfl 0 rfl ?_
      refine r_callS (As := [.int (nI c), .int (nI i)]) (rest := []) (csC := []) (is := []) ln_Mm_119 w_st_Mm_beside ok_Mm_isBesideSand_Mm_beside d_Mm_isBesideSand_11 (C_Mm_beside g c i (by omega) (by omega)) rfl rfl (Nat.le_of_ble_eq_true rfl) rfl (by decide) (by omega) (by omega) (fun E cs1 hx => ?_) (fun v cs1 hx => ?_)
      · exact absurd hx.1 (by simp)
      · obtain ⟨e1, rfl⟩ := hx
        cases e1
        refine ⟨rfl, ?_⟩
        refine r_st (st2 := [.int (oI (bs c i))]) rfl ?_
        refine r_cs (cs2 := [(b, .inl (1, 108, .inl f))]) rfl ?_
        refine r_istore (lv' := [(4, .int (oI (bs c i))), (3, .int (nI i)), (2, .int (bsdS f c i)), (0, .ref b), (1, .int (nI c))]) d_Mm_isBesideSand_14 (by decide) rfl ?_
        refine r_iload_n d_Mm_isBesideSand_16 rfl 2 rfl ?_
        refine r_if_ne (tgt := 35) d_Mm_isBesideSand_17 (by decide) (fun c_17 => ?_) (fun c_17 => ?_)
        · have hk := bsdS_1 c_17
          refine r_iconst d_Mm_isBesideSand_35 (v := 1) (by decide) ?_
          refine r_goto (tgt := 40) d_Mm_isBesideSand_36 (by decide) ?_
          refine r_istore_n (lv' := [(2, .int 1), (4, .int (oI (bs c i))), (3, .int (nI i)), (0, .ref b), (1, .int (nI c))]) d_Mm_isBesideSand_40 rfl (by decide) rfl ?_
          refine r_iinc (lv' := [(3, .int (nI (i + 1))), (2, .int 1), (4, .int (oI (bs c i))), (0, .ref b), (1, .int (nI c))]) (v := nI (i + 1)) d_Mm_isBesideSand_41 (j := 2) rfl (nI_add _ _) (by decide) rfl ?_
          refine r_goto (tgt := 4) d_Mm_isBesideSand_44 (by decide) ?_
          refine r_lv (lv' := [(3, .int (nI (i + 1))), (2, .int 1), (0, .ref b), (1, .int (nI c))]) [0, 1, 3, 4] rfl ?_
          refine r_lvE (lv2 := [(3, .int (nI (i + 1))), (2, .int (bsdS f c (i + 1))), (0, .ref b), (1, .int (nI c))]) (by rw [hk] <;> rfl) ?_
          refine r_cs (cs2 := [(b, .inl (1, 108, .inl f))]) (rfl) ?_
          exact ih (i + 1) (by omega) (by omega)
        · refine r_iload d_Mm_isBesideSand_20 0 rfl ?_
          refine r_iconst d_Mm_isBesideSand_22 (v := (-1)) (by decide) ?_
          refine r_icmp_eq (tgt := 35) d_Mm_isBesideSand_23 (by decide) (fun c_23 => ?_) (fun c_23 => ?_)
          · have hk : bsdS f c (i + 1) = 1 := bsdS_n (oI_nn hc c_23)
            refine r_iconst d_Mm_isBesideSand_35 (v := 1) (by decide) ?_
            refine r_goto (tgt := 40) d_Mm_isBesideSand_36 (by decide) ?_
            refine r_istore_n (lv' := [(2, .int 1), (4, .int (oI (bs c i))), (3, .int (nI i)), (0, .ref b), (1, .int (nI c))]) d_Mm_isBesideSand_40 rfl (by decide) rfl ?_
            refine r_iinc (lv' := [(3, .int (nI (i + 1))), (2, .int 1), (4, .int (oI (bs c i))), (0, .ref b), (1, .int (nI c))]) (v := nI (i + 1)) d_Mm_isBesideSand_41 (j := 2) rfl (nI_add _ _) (by decide) rfl ?_
            refine r_goto (tgt := 4) d_Mm_isBesideSand_44 (by decide) ?_
            refine r_lv (lv' := [(3, .int (nI (i + 1))), (2, .int 1), (0, .ref b), (1, .int (nI c))]) [0, 1, 3, 4] rfl ?_
            refine r_lvE (lv2 := [(3, .int (nI (i + 1))), (2, .int (bsdS f c (i + 1))), (0, .ref b), (1, .int (nI c))]) (by rw [hk] <;> rfl) ?_
            refine r_cs (cs2 := [(b, .inl (1, 108, .inl f))]) (rfl) ?_
            exact ih (i + 1) (by omega) (by omega)
          · obtain ⟨o, hob⟩ := oI_nm c_23
            have hol := bs_lt hc hob
            rw [hob, show oI (some o) = nI o from rfl]
            refine r_aload_n d_Mm_isBesideSand_26 rfl 3 rfl ?_
            refine r_iload d_Mm_isBesideSand_27 0 rfl ?_
            refine r_cald d_Mm_isBesideSand_29 (q0 := 0) rfl (vp_in_nI (by omega) (by omega)) (v := f o) (by rw [nI_clamp (by omega)]) ?_
            refine r_bipush d_Mm_isBesideSand_30 (v := 46) (by decide) ?_
            refine r_icmp_ne (tgt := 39) d_Mm_isBesideSand_32 (by decide) (fun c_32 => ?_) (fun c_32 => ?_)
            · have hk : bsdS f c (i + 1) = 0 := by rw [bsdS_o hob, if_neg c_32]; exact c_17
              refine r_iconst d_Mm_isBesideSand_39 (v := 0) (by decide) ?_
              refine r_istore_n (lv' := [(2, .int 0), (4, .int (nI o)), (3, .int (nI i)), (0, .ref b), (1, .int (nI c))]) d_Mm_isBesideSand_40 rfl (by decide) rfl ?_
              refine r_iinc (lv' := [(3, .int (nI (i + 1))), (2, .int 0), (4, .int (nI o)), (0, .ref b), (1, .int (nI c))]) (v := nI (i + 1)) d_Mm_isBesideSand_41 (j := 2) rfl (nI_add _ _) (by decide) rfl ?_
              refine r_goto (tgt := 4) d_Mm_isBesideSand_44 (by decide) ?_
              refine r_lv (lv' := [(3, .int (nI (i + 1))), (2, .int 0), (0, .ref b), (1, .int (nI c))]) [0, 1, 3, 4] rfl ?_
              refine r_lvE (lv2 := [(3, .int (nI (i + 1))), (2, .int (bsdS f c (i + 1))), (0, .ref b), (1, .int (nI c))]) (by rw [hk] <;> rfl) ?_
              refine r_cs (cs2 := [(b, .inl (1, 108, .inl f))]) (rfl) ?_
              exact ih (i + 1) (by omega) (by omega)
            · have hk : bsdS f c (i + 1) = 1 := by rw [bsdS_o hob, if_pos c_32]
              refine r_iconst d_Mm_isBesideSand_35 (v := 1) (by decide) ?_
              refine r_goto (tgt := 40) d_Mm_isBesideSand_36 (by decide) ?_
              refine r_istore_n (lv' := [(2, .int 1), (4, .int (nI o)), (3, .int (nI i)), (0, .ref b), (1, .int (nI c))]) d_Mm_isBesideSand_40 rfl (by decide) rfl ?_
              refine r_iinc (lv' := [(3, .int (nI (i + 1))), (2, .int 1), (4, .int (nI o)), (0, .ref b), (1, .int (nI c))]) (v := nI (i + 1)) d_Mm_isBesideSand_41 (j := 2) rfl (nI_add _ _) (by decide) rfl ?_
              refine r_goto (tgt := 4) d_Mm_isBesideSand_44 (by decide) ?_
              refine r_lv (lv' := [(3, .int (nI (i + 1))), (2, .int 1), (0, .ref b), (1, .int (nI c))]) [0, 1, 3, 4] rfl ?_
              refine r_lvE (lv2 := [(3, .int (nI (i + 1))), (2, .int (bsdS f c (i + 1))), (0, .ref b), (1, .int (nI c))]) (by rw [hk] <;> rfl) ?_
              refine r_cs (cs2 := [(b, .inl (1, 108, .inl f))]) (rfl) ?_
              exact ih (i + 1) (by omega) (by omega)
set_option maxHeartbeats 4000000 in
set_option maxRecDepth 100000 in
theorem C_Mm_isBesideSand (g : zG) (b : Nat) (f : Nat → Int32) (c : Nat) (hc : c < 108) : CT g M_Mm_isBesideSand [.ref b, .int (nI c)] [(b, .inl (1, 108, .inl f))] (fun o cs1 => o = .inl (some (.int (bsdS f c 4))) ∧ cs1 = [(b, .inl (1, 108, .inl f))]) 0 0 := by
  refine z_of (by decide) rfl (Nat.le_of_ble_eq_true rfl) (fun w0 => ?_)
  refine r_lvE (lv2 := [(0, .ref b), (1, .int (nI c))]) rfl ?_
  refine r_iconst d_Mm_isBesideSand_0 (v := 0) (by decide) ?_
  refine r_istore_n (lv' := [(2, .int 0), (0, .ref b), (1, .int (nI c))]) d_Mm_isBesideSand_1 rfl (by decide) rfl ?_
  refine r_iconst d_Mm_isBesideSand_2 (v := 0) (by decide) ?_
  refine r_istore_n (lv' := [(3, .int 0), (2, .int 0), (0, .ref b), (1, .int (nI c))]) d_Mm_isBesideSand_3 rfl (by decide) rfl ?_
  refine r_lvE (lv2 := [(3, .int (nI 0)), (2, .int (bsdS f c 0)), (0, .ref b), (1, .int (nI c))]) (rfl) ?_
  refine r_cs (cs2 := [(b, .inl (1, 108, .inl f))]) (rfl) ?_
  exact L_Mm_isBesideSand_4 g b f c hc w0 _  (4 + 1) 0 (Nat.zero_le _) (by omega)
set_option maxHeartbeats 4000000 in
set_option maxRecDepth 100000 in
theorem L_Mm_spread9_21 (g : zG) (m mp mf mh mn mt mz mc_ mq mgr ml mi mr mm mu mk mx : Nat) (th pt cl wa co_ fi bu ho lh mg wd fpi fal : Int32) (po de : Int64) (b : Nat) (f : Nat → Int32) (gp : Nat → Int32) (qn : Nat → Nat) (nv : Int32) (st : Nat) (hst : st < 108) (hg : gp st = -1) (hnv : ¬ nv = -1) (w0 : zW) (n : Nat) (h : Nat) (hok : Qok (bwB f (1, upd (sgn gp) st 1, updN qn 0 st) h).1) (hn : h < (bwB f (1, upd (sgn gp) st 1, updN qn 0 st) h).1.1) (hh : h < 108) (hhere : ((bwB f (1, upd (sgn gp) st 1, updN qn 0 st) h).1.2.2 h) < 108) (hbA : ∀ h, bI f (sgn gp) (bwB f (1, upd (sgn gp) st 1, updN qn 0 st) h).1) (hsee : ∀ h, ¬ (bwB f (1, upd (sgn gp) st 1, updN qn 0 st) h).1.2.1 st = 0) (K : DV g M_Mm_spread (fun o cs1 => o = .inl none ∧ cs1 = [(m, .inr (12, [.int th, .ref mp, .int pt, .ref mf, .ref mh, .ref mn, .ref mt, .ref mz, .ref mc_, .ref mq, .ref mgr, .int cl, .int wa, .int co_, .int fi, .int bu, .int ho, .ref ml, .ref mi, .ref mr, .int lh, .int mg, .int wd, .int fpi, .int fal, .ref mm, .ref mu, .ref mk, .ref mx, .long po, .long de])), (b, .inl (1, 108, .inl f)), (mgr, .inl (0, 108, .inl (gpX gp nv (bgB f (sgn gp) qn st).1))), (mq, .inl (0, 108, .inl (fun k => nI ((bgB f (sgn gp) qn st).1.2.2 k))))]) w0 n 97 [(4, .int (nI h)), (3, .int (nI (bwH f ((bwB f (1, upd (sgn gp) st 1, updN qn 0 st) h).1.2.2 h) (bwB f (1, upd (sgn gp) st 1, updN qn 0 st) h).1 4).1.1)), (0, .ref m), (1, .ref b), (2, .int (nI st))] [] [(m, .inr (12, [.int th, .ref mp, .int pt, .ref mf, .ref mh, .ref mn, .ref mt, .ref mz, .ref mc_, .ref mq, .ref mgr, .int cl, .int wa, .int co_, .int fi, .int bu, .int ho, .ref ml, .ref mi, .ref mr, .int lh, .int mg, .int wd, .int fpi, .int fal, .ref mm, .ref mu, .ref mk, .ref mx, .long po, .long de])), (b, .inl (1, 108, .inl f)), (mgr, .inl (0, 108, .inl (gpX gp nv (bwH f ((bwB f (1, upd (sgn gp) st 1, updN qn 0 st) h).1.2.2 h) (bwB f (1, upd (sgn gp) st 1, updN qn 0 st) h).1 4).1))), (mq, .inl (0, 108, .inl (fun k => nI ((bwH f ((bwB f (1, upd (sgn gp) st 1, updN qn 0 st) h).1.2.2 h) (bwB f (1, upd (sgn gp) st 1, updN qn 0 st) h).1 4).1.2.2 k))))] 0 0) : ∀ (d i : Nat), i ≤ 4 → 4 < i + d → DV g M_Mm_spread (fun o cs1 => o = .inl none ∧ cs1 = [(m, .inr (12, [.int th, .ref mp, .int pt, .ref mf, .ref mh, .ref mn, .ref mt, .ref mz, .ref mc_, .ref mq, .ref mgr, .int cl, .int wa, .int co_, .int fi, .int bu, .int ho, .ref ml, .ref mi, .ref mr, .int lh, .int mg, .int wd, .int fpi, .int fal, .ref mm, .ref mu, .ref mk, .ref mx, .long po, .long de])), (b, .inl (1, 108, .inl f)), (mgr, .inl (0, 108, .inl (gpX gp nv (bgB f (sgn gp) qn st).1))), (mq, .inl (0, 108, .inl (fun k => nI ((bgB f (sgn gp) qn st).1.2.2 k))))]) w0 n 21 [(5, .int (nI i)), (4, .int (nI h)), (3, .int (nI (bwH f ((bwB f (1, upd (sgn gp) st 1, updN qn 0 st) h).1.2.2 h) (bwB f (1, upd (sgn gp) st 1, updN qn 0 st) h).1 i).1.1)), (0, .ref m), (1, .ref b), (2, .int (nI st))] [] [(m, .inr (12, [.int th, .ref mp, .int pt, .ref mf, .ref mh, .ref mn, .ref mt, .ref mz, .ref mc_, .ref mq, .ref mgr, .int cl, .int wa, .int co_, .int fi, .int bu, .int ho, .ref ml, .ref mi, .ref mr, .int lh, .int mg, .int wd, .int fpi, .int fal, .ref mm, .ref mu, .ref mk, .ref mx, .long po, .long de])), (b, .inl (1, 108, .inl f)), (mgr, .inl (0, 108, .inl (gpX gp nv (bwH f ((bwB f (1, upd (sgn gp) st 1, updN qn 0 st) h).1.2.2 h) (bwB f (1, upd (sgn gp) st 1, updN qn 0 st) h).1 i).1))), (mq, .inl (0, 108, .inl (fun k => nI ((bwH f ((bwB f (1, upd (sgn gp) st 1, updN qn 0 st) h).1.2.2 h) (bwB f (1, upd (sgn gp) st 1, updN qn 0 st) h).1 i).1.2.2 k))))] 0 0 := by
  intro d
  induction d with
  | zero => intro i h1 h2 ; exact absurd h2 (by omega)
  | succ d ih =>
    intro i h1 h2 
    refine r_iload d_Mm_spread_21 0 rfl ?_
    refine r_iconst d_Mm_spread_23 (v := 4) (by decide) ?_
    refine r_icmp_ge (tgt := 97) d_Mm_spread_24 (by decide) (fun c_24 => ?_) (fun c_24 => ?_)
    · have hi4 := z_le (a := 4) (by omega) (by decide) c_24
      obtain rfl : i = 4 := by omega
      refine r_lv (lv' := [(4, .int (nI h)), (3, .int (nI (bwH f ((bwB f (1, upd (sgn gp) st 1, updN qn 0 st) h).1.2.2 h) (bwB f (1, upd (sgn gp) st 1, updN qn 0 st) h).1 4).1.1)), (0, .ref m), (1, .ref b), (2, .int (nI st))]) [1, 2, 3, 4, 5] rfl ?_
      exact K
    · have hi4 := z_nle (a := 4) (by omega) (by decide) c_24
      have hqq := bwH_ok (f := f) (here := ((bwB f (1, upd (sgn gp) st 1, updN qn 0 st) h).1.2.2 h)) hhere hok hn i
      have hq2 := hqq.1.1
      have hbi := bI_H (f := f) hhere (hbA h) i
      refine r_aload_n d_Mm_spread_27 rfl 3 rfl ?_
      refine r_get fs_Mm_37 d_Mm_spread_28 (q0 := 0) rfl rfl ?_
      refine r_iload d_Mm_spread_31 1 rfl ?_
      refine r_iald d_Mm_spread_33 (q0 := 3) rfl (vp_in_nI (by omega) (by omega)) (v := nI ((bwB f (1, upd (sgn gp) st 1, updN qn 0 st) h).1.2.2 h)) (by rw [nI_clamp (by omega)]; exact congrArg nI hqq.2.1) ?_
      refine r_iload d_Mm_spread_34 0 rfl ?_
      refine r_callS (As := [.int (nI ((bwB f (1, upd (sgn gp) st 1, updN qn 0 st) h).1.2.2 h)), .int (nI i)]) (rest := []) (csC := []) (is := []) ln_Mm_119 w_st_Mm_beside ok_Mm_spread_Mm_beside d_Mm_spread_36 (C_Mm_beside g ((bwB f (1, upd (sgn gp) st 1, updN qn 0 st) h).1.2.2 h) i hhere (by omega)) rfl rfl (Nat.le_of_ble_eq_true rfl) rfl (by decide) (by omega) (by omega) (fun E cs1 hx => ?_) (fun v cs1 hx => ?_)
      · exact absurd hx.1 (by simp)
      · obtain ⟨e1, rfl⟩ := hx
        cases e1
        refine ⟨rfl, ?_⟩
        refine r_st (st2 := [.int (oI (bs ((bwB f (1, upd (sgn gp) st 1, updN qn 0 st) h).1.2.2 h) i))]) rfl ?_
        refine r_cs (cs2 := [(m, .inr (12, [.int th, .ref mp, .int pt, .ref mf, .ref mh, .ref mn, .ref mt, .ref mz, .ref mc_, .ref mq, .ref mgr, .int cl, .int wa, .int co_, .int fi, .int bu, .int ho, .ref ml, .ref mi, .ref mr, .int lh, .int mg, .int wd, .int fpi, .int fal, .ref mm, .ref mu, .ref mk, .ref mx, .long po, .long de])), (b, .inl (1, 108, .inl f)), (mgr, .inl (0, 108, .inl (gpX gp nv (bwH f ((bwB f (1, upd (sgn gp) st 1, updN qn 0 st) h).1.2.2 h) (bwB f (1, upd (sgn gp) st 1, updN qn 0 st) h).1 i).1))), (mq, .inl (0, 108, .inl (fun k => nI ((bwH f ((bwB f (1, upd (sgn gp) st 1, updN qn 0 st) h).1.2.2 h) (bwB f (1, upd (sgn gp) st 1, updN qn 0 st) h).1 i).1.2.2 k))))]) rfl ?_
        refine r_istore (lv' := [(6, .int (oI (bs ((bwB f (1, upd (sgn gp) st 1, updN qn 0 st) h).1.2.2 h) i))), (5, .int (nI i)), (4, .int (nI h)), (3, .int (nI (bwH f ((bwB f (1, upd (sgn gp) st 1, updN qn 0 st) h).1.2.2 h) (bwB f (1, upd (sgn gp) st 1, updN qn 0 st) h).1 i).1.1)), (0, .ref m), (1, .ref b), (2, .int (nI st))]) d_Mm_spread_39 (by decide) rfl ?_
        refine r_iload d_Mm_spread_41 0 rfl ?_
        refine r_iconst d_Mm_spread_43 (v := (-1)) (by decide) ?_
        refine r_icmp_eq (tgt := 91) d_Mm_spread_44 (by decide) (fun c_44 => ?_) (fun c_44 => ?_)
        · have hk := bwI_nn (f := f) (P := (bwH f ((bwB f (1, upd (sgn gp) st 1, updN qn 0 st) h).1.2.2 h) (bwB f (1, upd (sgn gp) st 1, updN qn 0 st) h).1 i)) (oI_nn hhere c_44)
          refine r_iinc (lv' := [(5, .int (nI (i + 1))), (6, .int (oI (bs ((bwB f (1, upd (sgn gp) st 1, updN qn 0 st) h).1.2.2 h) i))), (4, .int (nI h)), (3, .int (nI (bwH f ((bwB f (1, upd (sgn gp) st 1, updN qn 0 st) h).1.2.2 h) (bwB f (1, upd (sgn gp) st 1, updN qn 0 st) h).1 i).1.1)), (0, .ref m), (1, .ref b), (2, .int (nI st))]) (v := nI (i + 1)) d_Mm_spread_91 (j := 1) rfl (nI_add _ _) (by decide) rfl ?_
          refine r_goto (tgt := 21) d_Mm_spread_94 (by decide) ?_
          refine r_lv (lv' := [(5, .int (nI (i + 1))), (4, .int (nI h)), (3, .int (nI (bwH f ((bwB f (1, upd (sgn gp) st 1, updN qn 0 st) h).1.2.2 h) (bwB f (1, upd (sgn gp) st 1, updN qn 0 st) h).1 i).1.1)), (0, .ref m), (1, .ref b), (2, .int (nI st))]) [0, 2, 3, 4, 5, 6] rfl ?_
          refine r_lvE (lv2 := [(5, .int (nI (i + 1))), (4, .int (nI h)), (3, .int (nI (bwH f ((bwB f (1, upd (sgn gp) st 1, updN qn 0 st) h).1.2.2 h) (bwB f (1, upd (sgn gp) st 1, updN qn 0 st) h).1 (i + 1)).1.1)), (0, .ref m), (1, .ref b), (2, .int (nI st))]) (by rw [show (bwH f ((bwB f (1, upd (sgn gp) st 1, updN qn 0 st) h).1.2.2 h) (bwB f (1, upd (sgn gp) st 1, updN qn 0 st) h).1 (i + 1)) = bwI f ((bwB f (1, upd (sgn gp) st 1, updN qn 0 st) h).1.2.2 h) i (bwH f ((bwB f (1, upd (sgn gp) st 1, updN qn 0 st) h).1.2.2 h) (bwB f (1, upd (sgn gp) st 1, updN qn 0 st) h).1 i) from rfl, hk] <;> rfl) ?_
          refine r_cs (cs2 := [(m, .inr (12, [.int th, .ref mp, .int pt, .ref mf, .ref mh, .ref mn, .ref mt, .ref mz, .ref mc_, .ref mq, .ref mgr, .int cl, .int wa, .int co_, .int fi, .int bu, .int ho, .ref ml, .ref mi, .ref mr, .int lh, .int mg, .int wd, .int fpi, .int fal, .ref mm, .ref mu, .ref mk, .ref mx, .long po, .long de])), (b, .inl (1, 108, .inl f)), (mgr, .inl (0, 108, .inl (gpX gp nv (bwH f ((bwB f (1, upd (sgn gp) st 1, updN qn 0 st) h).1.2.2 h) (bwB f (1, upd (sgn gp) st 1, updN qn 0 st) h).1 (i + 1)).1))), (mq, .inl (0, 108, .inl (fun k => nI ((bwH f ((bwB f (1, upd (sgn gp) st 1, updN qn 0 st) h).1.2.2 h) (bwB f (1, upd (sgn gp) st 1, updN qn 0 st) h).1 (i + 1)).1.2.2 k))))]) (by rw [show (bwH f ((bwB f (1, upd (sgn gp) st 1, updN qn 0 st) h).1.2.2 h) (bwB f (1, upd (sgn gp) st 1, updN qn 0 st) h).1 (i + 1)) = bwI f ((bwB f (1, upd (sgn gp) st 1, updN qn 0 st) h).1.2.2 h) i (bwH f ((bwB f (1, upd (sgn gp) st 1, updN qn 0 st) h).1.2.2 h) (bwB f (1, upd (sgn gp) st 1, updN qn 0 st) h).1 i) from rfl, hk] <;> rfl) ?_
          exact ih (i + 1) (by omega) (by omega)
        · obtain ⟨o, hob⟩ := oI_nm c_44
          have hol := bs_lt hhere hob
          rw [hob, show oI (some o) = nI o from rfl]
          refine r_aload_n d_Mm_spread_47 rfl 5 rfl ?_
          refine r_iload d_Mm_spread_48 0 rfl ?_
          refine r_cald d_Mm_spread_50 (q0 := 1) rfl (vp_in_nI (by omega) (by omega)) (v := f o) (by rw [nI_clamp (by omega)]) ?_
          refine r_bipush d_Mm_spread_51 (v := 111) (by decide) ?_
          refine r_icmp_ne (tgt := 91) d_Mm_spread_53 (by decide) (fun c_53 => ?_) (fun c_53 => ?_)
          · have hk := bwI_no (P := (bwH f ((bwB f (1, upd (sgn gp) st 1, updN qn 0 st) h).1.2.2 h) (bwB f (1, upd (sgn gp) st 1, updN qn 0 st) h).1 i)) hob c_53
            refine r_iinc (lv' := [(5, .int (nI (i + 1))), (6, .int (nI o)), (4, .int (nI h)), (3, .int (nI (bwH f ((bwB f (1, upd (sgn gp) st 1, updN qn 0 st) h).1.2.2 h) (bwB f (1, upd (sgn gp) st 1, updN qn 0 st) h).1 i).1.1)), (0, .ref m), (1, .ref b), (2, .int (nI st))]) (v := nI (i + 1)) d_Mm_spread_91 (j := 1) rfl (nI_add _ _) (by decide) rfl ?_
            refine r_goto (tgt := 21) d_Mm_spread_94 (by decide) ?_
            refine r_lv (lv' := [(5, .int (nI (i + 1))), (4, .int (nI h)), (3, .int (nI (bwH f ((bwB f (1, upd (sgn gp) st 1, updN qn 0 st) h).1.2.2 h) (bwB f (1, upd (sgn gp) st 1, updN qn 0 st) h).1 i).1.1)), (0, .ref m), (1, .ref b), (2, .int (nI st))]) [0, 2, 3, 4, 5, 6] rfl ?_
            refine r_lvE (lv2 := [(5, .int (nI (i + 1))), (4, .int (nI h)), (3, .int (nI (bwH f ((bwB f (1, upd (sgn gp) st 1, updN qn 0 st) h).1.2.2 h) (bwB f (1, upd (sgn gp) st 1, updN qn 0 st) h).1 (i + 1)).1.1)), (0, .ref m), (1, .ref b), (2, .int (nI st))]) (by rw [show (bwH f ((bwB f (1, upd (sgn gp) st 1, updN qn 0 st) h).1.2.2 h) (bwB f (1, upd (sgn gp) st 1, updN qn 0 st) h).1 (i + 1)) = bwI f ((bwB f (1, upd (sgn gp) st 1, updN qn 0 st) h).1.2.2 h) i (bwH f ((bwB f (1, upd (sgn gp) st 1, updN qn 0 st) h).1.2.2 h) (bwB f (1, upd (sgn gp) st 1, updN qn 0 st) h).1 i) from rfl, hk] <;> rfl) ?_
            refine r_cs (cs2 := [(m, .inr (12, [.int th, .ref mp, .int pt, .ref mf, .ref mh, .ref mn, .ref mt, .ref mz, .ref mc_, .ref mq, .ref mgr, .int cl, .int wa, .int co_, .int fi, .int bu, .int ho, .ref ml, .ref mi, .ref mr, .int lh, .int mg, .int wd, .int fpi, .int fal, .ref mm, .ref mu, .ref mk, .ref mx, .long po, .long de])), (b, .inl (1, 108, .inl f)), (mgr, .inl (0, 108, .inl (gpX gp nv (bwH f ((bwB f (1, upd (sgn gp) st 1, updN qn 0 st) h).1.2.2 h) (bwB f (1, upd (sgn gp) st 1, updN qn 0 st) h).1 (i + 1)).1))), (mq, .inl (0, 108, .inl (fun k => nI ((bwH f ((bwB f (1, upd (sgn gp) st 1, updN qn 0 st) h).1.2.2 h) (bwB f (1, upd (sgn gp) st 1, updN qn 0 st) h).1 (i + 1)).1.2.2 k))))]) (by rw [show (bwH f ((bwB f (1, upd (sgn gp) st 1, updN qn 0 st) h).1.2.2 h) (bwB f (1, upd (sgn gp) st 1, updN qn 0 st) h).1 (i + 1)) = bwI f ((bwB f (1, upd (sgn gp) st 1, updN qn 0 st) h).1.2.2 h) i (bwH f ((bwB f (1, upd (sgn gp) st 1, updN qn 0 st) h).1.2.2 h) (bwB f (1, upd (sgn gp) st 1, updN qn 0 st) h).1 i) from rfl, hk] <;> rfl) ?_
            exact ih (i + 1) (by omega) (by omega)
          · refine r_aload_n d_Mm_spread_56 rfl 4 rfl ?_
            refine r_get fs_Mm_40 d_Mm_spread_57 (q0 := 0) rfl rfl ?_
            refine r_iload d_Mm_spread_60 0 rfl ?_
            refine r_iald d_Mm_spread_62 (q0 := 2) rfl (vp_in_nI (by omega) (by omega)) (v := gpX gp nv (bwH f ((bwB f (1, upd (sgn gp) st 1, updN qn 0 st) h).1.2.2 h) (bwB f (1, upd (sgn gp) st 1, updN qn 0 st) h).1 i).1 o) (by rw [nI_clamp (by omega)]) ?_
            refine r_iconst d_Mm_spread_63 (v := (-1)) (by decide) ?_
            refine r_icmp_ne (tgt := 91) d_Mm_spread_64 (by decide) (fun c_64 => ?_) (fun c_64 => ?_)
            · have hk := bwI_ns (f := f) (P := (bwH f ((bwB f (1, upd (sgn gp) st 1, updN qn 0 st) h).1.2.2 h) (bwB f (1, upd (sgn gp) st 1, updN qn 0 st) h).1 i)) hob (fun z => c_64 ((gpX_m hbi hnv).mpr z))
              refine r_iinc (lv' := [(5, .int (nI (i + 1))), (6, .int (nI o)), (4, .int (nI h)), (3, .int (nI (bwH f ((bwB f (1, upd (sgn gp) st 1, updN qn 0 st) h).1.2.2 h) (bwB f (1, upd (sgn gp) st 1, updN qn 0 st) h).1 i).1.1)), (0, .ref m), (1, .ref b), (2, .int (nI st))]) (v := nI (i + 1)) d_Mm_spread_91 (j := 1) rfl (nI_add _ _) (by decide) rfl ?_
              refine r_goto (tgt := 21) d_Mm_spread_94 (by decide) ?_
              refine r_lv (lv' := [(5, .int (nI (i + 1))), (4, .int (nI h)), (3, .int (nI (bwH f ((bwB f (1, upd (sgn gp) st 1, updN qn 0 st) h).1.2.2 h) (bwB f (1, upd (sgn gp) st 1, updN qn 0 st) h).1 i).1.1)), (0, .ref m), (1, .ref b), (2, .int (nI st))]) [0, 2, 3, 4, 5, 6] rfl ?_
              refine r_lvE (lv2 := [(5, .int (nI (i + 1))), (4, .int (nI h)), (3, .int (nI (bwH f ((bwB f (1, upd (sgn gp) st 1, updN qn 0 st) h).1.2.2 h) (bwB f (1, upd (sgn gp) st 1, updN qn 0 st) h).1 (i + 1)).1.1)), (0, .ref m), (1, .ref b), (2, .int (nI st))]) (by rw [show (bwH f ((bwB f (1, upd (sgn gp) st 1, updN qn 0 st) h).1.2.2 h) (bwB f (1, upd (sgn gp) st 1, updN qn 0 st) h).1 (i + 1)) = bwI f ((bwB f (1, upd (sgn gp) st 1, updN qn 0 st) h).1.2.2 h) i (bwH f ((bwB f (1, upd (sgn gp) st 1, updN qn 0 st) h).1.2.2 h) (bwB f (1, upd (sgn gp) st 1, updN qn 0 st) h).1 i) from rfl, hk] <;> rfl) ?_
              refine r_cs (cs2 := [(m, .inr (12, [.int th, .ref mp, .int pt, .ref mf, .ref mh, .ref mn, .ref mt, .ref mz, .ref mc_, .ref mq, .ref mgr, .int cl, .int wa, .int co_, .int fi, .int bu, .int ho, .ref ml, .ref mi, .ref mr, .int lh, .int mg, .int wd, .int fpi, .int fal, .ref mm, .ref mu, .ref mk, .ref mx, .long po, .long de])), (b, .inl (1, 108, .inl f)), (mgr, .inl (0, 108, .inl (gpX gp nv (bwH f ((bwB f (1, upd (sgn gp) st 1, updN qn 0 st) h).1.2.2 h) (bwB f (1, upd (sgn gp) st 1, updN qn 0 st) h).1 (i + 1)).1))), (mq, .inl (0, 108, .inl (fun k => nI ((bwH f ((bwB f (1, upd (sgn gp) st 1, updN qn 0 st) h).1.2.2 h) (bwB f (1, upd (sgn gp) st 1, updN qn 0 st) h).1 (i + 1)).1.2.2 k))))]) (by rw [show (bwH f ((bwB f (1, upd (sgn gp) st 1, updN qn 0 st) h).1.2.2 h) (bwB f (1, upd (sgn gp) st 1, updN qn 0 st) h).1 (i + 1)) = bwI f ((bwB f (1, upd (sgn gp) st 1, updN qn 0 st) h).1.2.2 h) i (bwH f ((bwB f (1, upd (sgn gp) st 1, updN qn 0 st) h).1.2.2 h) (bwB f (1, upd (sgn gp) st 1, updN qn 0 st) h).1 i) from rfl, hk] <;> rfl) ?_
              exact ih (i + 1) (by omega) (by omega)
            · have hs0 := (gpX_m hbi hnv).mp c_64
              have htl := bI_lt hbi hol hs0
              have hk := bwI_y (P := (bwH f ((bwB f (1, upd (sgn gp) st 1, updN qn 0 st) h).1.2.2 h) (bwB f (1, upd (sgn gp) st 1, updN qn 0 st) h).1 i)) hob c_53 hs0 htl
              refine r_aload_n d_Mm_spread_67 rfl 4 rfl ?_
              refine r_get fs_Mm_40 d_Mm_spread_68 (q0 := 0) rfl rfl ?_
              refine r_iload d_Mm_spread_71 0 rfl ?_
              refine r_aload_n d_Mm_spread_73 rfl 4 rfl ?_
              refine r_get fs_Mm_40 d_Mm_spread_74 (q0 := 0) rfl rfl ?_
              refine r_iload_n d_Mm_spread_77 rfl 6 rfl ?_
              refine r_iald d_Mm_spread_78 (q0 := 2) rfl (vp_in_nI (by omega) (by omega)) (v := nv) (by rw [nI_clamp (by omega)]; exact if_pos ⟨hg, mn_H (hsee h) i⟩) ?_
              refine r_iast d_Mm_spread_79 (q0 := 2) rfl (vp_in_nI (by omega) (by omega)) (f' := gpX gp nv ((bwH f ((bwB f (1, upd (sgn gp) st 1, updN qn 0 st) h).1.2.2 h) (bwB f (1, upd (sgn gp) st 1, updN qn 0 st) h).1 i).1.1 + 1, upd (bwH f ((bwB f (1, upd (sgn gp) st 1, updN qn 0 st) h).1.2.2 h) (bwB f (1, upd (sgn gp) st 1, updN qn 0 st) h).1 i).1.2.1 o 1, updN (bwH f ((bwB f (1, upd (sgn gp) st 1, updN qn 0 st) h).1.2.2 h) (bwB f (1, upd (sgn gp) st 1, updN qn 0 st) h).1 i).1.2.2 (bwH f ((bwB f (1, upd (sgn gp) st 1, updN qn 0 st) h).1.2.2 h) (bwB f (1, upd (sgn gp) st 1, updN qn 0 st) h).1 i).1.1 o)) (by rw [nI_clamp (by omega)]; exact gpX_up hbi hs0) (cs' := [(m, .inr (12, [.int th, .ref mp, .int pt, .ref mf, .ref mh, .ref mn, .ref mt, .ref mz, .ref mc_, .ref mq, .ref mgr, .int cl, .int wa, .int co_, .int fi, .int bu, .int ho, .ref ml, .ref mi, .ref mr, .int lh, .int mg, .int wd, .int fpi, .int fal, .ref mm, .ref mu, .ref mk, .ref mx, .long po, .long de])), (b, .inl (1, 108, .inl f)), (mgr, .inl (0, 108, .inl (gpX gp nv ((bwH f ((bwB f (1, upd (sgn gp) st 1, updN qn 0 st) h).1.2.2 h) (bwB f (1, upd (sgn gp) st 1, updN qn 0 st) h).1 i).1.1 + 1, upd (bwH f ((bwB f (1, upd (sgn gp) st 1, updN qn 0 st) h).1.2.2 h) (bwB f (1, upd (sgn gp) st 1, updN qn 0 st) h).1 i).1.2.1 o 1, updN (bwH f ((bwB f (1, upd (sgn gp) st 1, updN qn 0 st) h).1.2.2 h) (bwB f (1, upd (sgn gp) st 1, updN qn 0 st) h).1 i).1.2.2 (bwH f ((bwB f (1, upd (sgn gp) st 1, updN qn 0 st) h).1.2.2 h) (bwB f (1, upd (sgn gp) st 1, updN qn 0 st) h).1 i).1.1 o)))), (mq, .inl (0, 108, .inl (fun k => nI ((bwH f ((bwB f (1, upd (sgn gp) st 1, updN qn 0 st) h).1.2.2 h) (bwB f (1, upd (sgn gp) st 1, updN qn 0 st) h).1 i).1.2.2 k))))]) rfl ?_
              refine r_aload_n d_Mm_spread_80 rfl 4 rfl ?_
              refine r_get fs_Mm_37 d_Mm_spread_81 (q0 := 0) rfl rfl ?_
              refine r_iload_n d_Mm_spread_84 rfl 3 rfl ?_
              refine r_iload d_Mm_spread_85 0 rfl ?_
              refine r_iast d_Mm_spread_87 (q0 := 3) rfl (vp_in_nI (by omega) (by omega)) (f' := fun k => nI (updN (bwH f ((bwB f (1, upd (sgn gp) st 1, updN qn 0 st) h).1.2.2 h) (bwB f (1, upd (sgn gp) st 1, updN qn 0 st) h).1 i).1.2.2 (bwH f ((bwB f (1, upd (sgn gp) st 1, updN qn 0 st) h).1.2.2 h) (bwB f (1, upd (sgn gp) st 1, updN qn 0 st) h).1 i).1.1 o k)) (by rw [nI_clamp (by omega)]; exact upd_qn) (cs' := [(m, .inr (12, [.int th, .ref mp, .int pt, .ref mf, .ref mh, .ref mn, .ref mt, .ref mz, .ref mc_, .ref mq, .ref mgr, .int cl, .int wa, .int co_, .int fi, .int bu, .int ho, .ref ml, .ref mi, .ref mr, .int lh, .int mg, .int wd, .int fpi, .int fal, .ref mm, .ref mu, .ref mk, .ref mx, .long po, .long de])), (b, .inl (1, 108, .inl f)), (mgr, .inl (0, 108, .inl (gpX gp nv ((bwH f ((bwB f (1, upd (sgn gp) st 1, updN qn 0 st) h).1.2.2 h) (bwB f (1, upd (sgn gp) st 1, updN qn 0 st) h).1 i).1.1 + 1, upd (bwH f ((bwB f (1, upd (sgn gp) st 1, updN qn 0 st) h).1.2.2 h) (bwB f (1, upd (sgn gp) st 1, updN qn 0 st) h).1 i).1.2.1 o 1, updN (bwH f ((bwB f (1, upd (sgn gp) st 1, updN qn 0 st) h).1.2.2 h) (bwB f (1, upd (sgn gp) st 1, updN qn 0 st) h).1 i).1.2.2 (bwH f ((bwB f (1, upd (sgn gp) st 1, updN qn 0 st) h).1.2.2 h) (bwB f (1, upd (sgn gp) st 1, updN qn 0 st) h).1 i).1.1 o)))), (mq, .inl (0, 108, .inl (fun k => nI (updN (bwH f ((bwB f (1, upd (sgn gp) st 1, updN qn 0 st) h).1.2.2 h) (bwB f (1, upd (sgn gp) st 1, updN qn 0 st) h).1 i).1.2.2 (bwH f ((bwB f (1, upd (sgn gp) st 1, updN qn 0 st) h).1.2.2 h) (bwB f (1, upd (sgn gp) st 1, updN qn 0 st) h).1 i).1.1 o k))))]) rfl ?_
              refine r_iinc (lv' := [(3, .int (nI ((bwH f ((bwB f (1, upd (sgn gp) st 1, updN qn 0 st) h).1.2.2 h) (bwB f (1, upd (sgn gp) st 1, updN qn 0 st) h).1 i).1.1 + 1))), (6, .int (nI o)), (5, .int (nI i)), (4, .int (nI h)), (0, .ref m), (1, .ref b), (2, .int (nI st))]) (v := nI ((bwH f ((bwB f (1, upd (sgn gp) st 1, updN qn 0 st) h).1.2.2 h) (bwB f (1, upd (sgn gp) st 1, updN qn 0 st) h).1 i).1.1 + 1)) d_Mm_spread_88 (j := 3) rfl (nI_add _ _) (by decide) rfl ?_
              refine r_iinc (lv' := [(5, .int (nI (i + 1))), (3, .int (nI ((bwH f ((bwB f (1, upd (sgn gp) st 1, updN qn 0 st) h).1.2.2 h) (bwB f (1, upd (sgn gp) st 1, updN qn 0 st) h).1 i).1.1 + 1))), (6, .int (nI o)), (4, .int (nI h)), (0, .ref m), (1, .ref b), (2, .int (nI st))]) (v := nI (i + 1)) d_Mm_spread_91 (j := 2) rfl (nI_add _ _) (by decide) rfl ?_
              refine r_goto (tgt := 21) d_Mm_spread_94 (by decide) ?_
              refine r_lv (lv' := [(5, .int (nI (i + 1))), (4, .int (nI h)), (3, .int (nI ((bwH f ((bwB f (1, upd (sgn gp) st 1, updN qn 0 st) h).1.2.2 h) (bwB f (1, upd (sgn gp) st 1, updN qn 0 st) h).1 i).1.1 + 1))), (0, .ref m), (1, .ref b), (2, .int (nI st))]) [0, 3, 1, 4, 5, 6] rfl ?_
              refine r_lvE (lv2 := [(5, .int (nI (i + 1))), (4, .int (nI h)), (3, .int (nI (bwH f ((bwB f (1, upd (sgn gp) st 1, updN qn 0 st) h).1.2.2 h) (bwB f (1, upd (sgn gp) st 1, updN qn 0 st) h).1 (i + 1)).1.1)), (0, .ref m), (1, .ref b), (2, .int (nI st))]) (by rw [show (bwH f ((bwB f (1, upd (sgn gp) st 1, updN qn 0 st) h).1.2.2 h) (bwB f (1, upd (sgn gp) st 1, updN qn 0 st) h).1 (i + 1)) = bwI f ((bwB f (1, upd (sgn gp) st 1, updN qn 0 st) h).1.2.2 h) i (bwH f ((bwB f (1, upd (sgn gp) st 1, updN qn 0 st) h).1.2.2 h) (bwB f (1, upd (sgn gp) st 1, updN qn 0 st) h).1 i) from rfl, hk] <;> rfl) ?_
              refine r_cs (cs2 := [(m, .inr (12, [.int th, .ref mp, .int pt, .ref mf, .ref mh, .ref mn, .ref mt, .ref mz, .ref mc_, .ref mq, .ref mgr, .int cl, .int wa, .int co_, .int fi, .int bu, .int ho, .ref ml, .ref mi, .ref mr, .int lh, .int mg, .int wd, .int fpi, .int fal, .ref mm, .ref mu, .ref mk, .ref mx, .long po, .long de])), (b, .inl (1, 108, .inl f)), (mgr, .inl (0, 108, .inl (gpX gp nv (bwH f ((bwB f (1, upd (sgn gp) st 1, updN qn 0 st) h).1.2.2 h) (bwB f (1, upd (sgn gp) st 1, updN qn 0 st) h).1 (i + 1)).1))), (mq, .inl (0, 108, .inl (fun k => nI ((bwH f ((bwB f (1, upd (sgn gp) st 1, updN qn 0 st) h).1.2.2 h) (bwB f (1, upd (sgn gp) st 1, updN qn 0 st) h).1 (i + 1)).1.2.2 k))))]) (by rw [show (bwH f ((bwB f (1, upd (sgn gp) st 1, updN qn 0 st) h).1.2.2 h) (bwB f (1, upd (sgn gp) st 1, updN qn 0 st) h).1 (i + 1)) = bwI f ((bwB f (1, upd (sgn gp) st 1, updN qn 0 st) h).1.2.2 h) i (bwH f ((bwB f (1, upd (sgn gp) st 1, updN qn 0 st) h).1.2.2 h) (bwB f (1, upd (sgn gp) st 1, updN qn 0 st) h).1 i) from rfl, hk] <;> rfl) ?_
              exact ih (i + 1) (by omega) (by omega)
set_option maxHeartbeats 4000000 in
set_option maxRecDepth 100000 in
theorem L_Mm_spread9_12 (g : zG) (m mp mf mh mn mt mz mc_ mq mgr ml mi mr mm mu mk mx : Nat) (th pt cl wa co_ fi bu ho lh mg wd fpi fal : Int32) (po de : Int64) (b : Nat) (f : Nat → Int32) (gp : Nat → Int32) (qn : Nat → Nat) (nv : Int32) (st : Nat) (hst : st < 108) (hg : gp st = -1) (hnv : ¬ nv = -1) (w0 : zW) (n : Nat) (hokA : ∀ h, Qok (bwB f (1, upd (sgn gp) st 1, updN qn 0 st) h).1) (hbA : ∀ h, bI f (sgn gp) (bwB f (1, upd (sgn gp) st 1, updN qn 0 st) h).1) (hsee : ∀ h, ¬ (bwB f (1, upd (sgn gp) st 1, updN qn 0 st) h).1.2.1 st = 0) : ∀ (d h : Nat), h ≤ 108 → 108 < h + d → DV g M_Mm_spread (fun o cs1 => o = .inl none ∧ cs1 = [(m, .inr (12, [.int th, .ref mp, .int pt, .ref mf, .ref mh, .ref mn, .ref mt, .ref mz, .ref mc_, .ref mq, .ref mgr, .int cl, .int wa, .int co_, .int fi, .int bu, .int ho, .ref ml, .ref mi, .ref mr, .int lh, .int mg, .int wd, .int fpi, .int fal, .ref mm, .ref mu, .ref mk, .ref mx, .long po, .long de])), (b, .inl (1, 108, .inl f)), (mgr, .inl (0, 108, .inl (gpX gp nv (bgB f (sgn gp) qn st).1))), (mq, .inl (0, 108, .inl (fun k => nI ((bgB f (sgn gp) qn st).1.2.2 k))))]) w0 n 12 [(4, .int (nI h)), (3, .int (nI (bwB f (1, upd (sgn gp) st 1, updN qn 0 st) h).1.1)), (0, .ref m), (1, .ref b), (2, .int (nI st))] [] [(m, .inr (12, [.int th, .ref mp, .int pt, .ref mf, .ref mh, .ref mn, .ref mt, .ref mz, .ref mc_, .ref mq, .ref mgr, .int cl, .int wa, .int co_, .int fi, .int bu, .int ho, .ref ml, .ref mi, .ref mr, .int lh, .int mg, .int wd, .int fpi, .int fal, .ref mm, .ref mu, .ref mk, .ref mx, .long po, .long de])), (b, .inl (1, 108, .inl f)), (mgr, .inl (0, 108, .inl (gpX gp nv (bwB f (1, upd (sgn gp) st 1, updN qn 0 st) h).1))), (mq, .inl (0, 108, .inl (fun k => nI ((bwB f (1, upd (sgn gp) st 1, updN qn 0 st) h).1.2.2 k))))] 0 0 := by
  intro d
  induction d with
  | zero => intro h h1 h2 ; exact absurd h2 (by omega)
  | succ d ih =>
    intro h h1 h2 
    refine r_iload d_Mm_spread_12 0 rfl ?_
    refine r_iload_n d_Mm_spread_14 rfl 1 rfl ?_
    refine r_icmp_ge (tgt := 103) d_Mm_spread_15 (by decide) (fun c_15 => ?_) (fun c_15 => ?_)
    · have hq1 := (hokA h).1
      have hn := z_le (by omega) (by omega) c_15
      have hx : (bwB f (1, upd (sgn gp) st 1, updN qn 0 st) 108) = (bwB f (1, upd (sgn gp) st 1, updN qn 0 st) h) := by have := bwB_stop (f := f) (Nat.not_lt.mpr hn) (108 - h); rw [show h + (108 - h) = 108 by omega] at this; exact this
      refine r_vret d_Mm_spread_103 rfl ?_
      exact ⟨rfl, by unfold bgB; rw [hx]⟩
    · have hok := hokA h
      have hq1 := hok.1
      have hn := z_nle (by omega) (by omega) c_15
      have hhere := hok.2 h hn
      refine r_iconst d_Mm_spread_18 (v := 0) (by decide) ?_
      refine r_istore (lv' := [(5, .int 0), (4, .int (nI h)), (3, .int (nI (bwB f (1, upd (sgn gp) st 1, updN qn 0 st) h).1.1)), (0, .ref m), (1, .ref b), (2, .int (nI st))]) d_Mm_spread_19 (by decide) rfl ?_
      refine r_lvE (lv2 := [(5, .int (nI 0)), (4, .int (nI h)), (3, .int (nI (bwH f ((bwB f (1, upd (sgn gp) st 1, updN qn 0 st) h).1.2.2 h) (bwB f (1, upd (sgn gp) st 1, updN qn 0 st) h).1 0).1.1)), (0, .ref m), (1, .ref b), (2, .int (nI st))]) (rfl) ?_
      refine r_cs (cs2 := [(m, .inr (12, [.int th, .ref mp, .int pt, .ref mf, .ref mh, .ref mn, .ref mt, .ref mz, .ref mc_, .ref mq, .ref mgr, .int cl, .int wa, .int co_, .int fi, .int bu, .int ho, .ref ml, .ref mi, .ref mr, .int lh, .int mg, .int wd, .int fpi, .int fal, .ref mm, .ref mu, .ref mk, .ref mx, .long po, .long de])), (b, .inl (1, 108, .inl f)), (mgr, .inl (0, 108, .inl (gpX gp nv (bwH f ((bwB f (1, upd (sgn gp) st 1, updN qn 0 st) h).1.2.2 h) (bwB f (1, upd (sgn gp) st 1, updN qn 0 st) h).1 0).1))), (mq, .inl (0, 108, .inl (fun k => nI ((bwH f ((bwB f (1, upd (sgn gp) st 1, updN qn 0 st) h).1.2.2 h) (bwB f (1, upd (sgn gp) st 1, updN qn 0 st) h).1 0).1.2.2 k))))]) (rfl) ?_
      refine L_Mm_spread9_21 g m mp mf mh mn mt mz mc_ mq mgr ml mi mr mm mu mk mx th pt cl wa co_ fi bu ho lh mg wd fpi fal po de b f gp qn nv st hst hg hnv w0 _ h hok hn (by omega) hhere hbA hsee (?_) (4 + 1) 0 (Nat.zero_le _) (by omega)
      refine r_iinc (lv' := [(4, .int (nI (h + 1))), (3, .int (nI (bwH f ((bwB f (1, upd (sgn gp) st 1, updN qn 0 st) h).1.2.2 h) (bwB f (1, upd (sgn gp) st 1, updN qn 0 st) h).1 4).1.1)), (0, .ref m), (1, .ref b), (2, .int (nI st))]) (v := nI (h + 1)) d_Mm_spread_97 (j := 0) rfl (nI_add _ _) (by decide) rfl ?_
      refine r_goto (tgt := 12) d_Mm_spread_100 (by decide) ?_
      refine r_lvE (lv2 := [(4, .int (nI (h + 1))), (3, .int (nI (bwB f (1, upd (sgn gp) st 1, updN qn 0 st) (h + 1)).1.1)), (0, .ref m), (1, .ref b), (2, .int (nI st))]) (by rw [bwB_t hn] <;> rfl) ?_
      refine r_cs (cs2 := [(m, .inr (12, [.int th, .ref mp, .int pt, .ref mf, .ref mh, .ref mn, .ref mt, .ref mz, .ref mc_, .ref mq, .ref mgr, .int cl, .int wa, .int co_, .int fi, .int bu, .int ho, .ref ml, .ref mi, .ref mr, .int lh, .int mg, .int wd, .int fpi, .int fal, .ref mm, .ref mu, .ref mk, .ref mx, .long po, .long de])), (b, .inl (1, 108, .inl f)), (mgr, .inl (0, 108, .inl (gpX gp nv (bwB f (1, upd (sgn gp) st 1, updN qn 0 st) (h + 1)).1))), (mq, .inl (0, 108, .inl (fun k => nI ((bwB f (1, upd (sgn gp) st 1, updN qn 0 st) (h + 1)).1.2.2 k))))]) (by rw [bwB_t hn] <;> rfl) ?_
      exact ih (h + 1) (by omega) (by omega)
set_option maxHeartbeats 4000000 in
set_option maxRecDepth 100000 in
theorem C_Mm_spread9 (g : zG) (m mp mf mh mn mt mz mc_ mq mgr ml mi mr mm mu mk mx : Nat) (th pt cl wa co_ fi bu ho lh mg wd fpi fal : Int32) (po de : Int64) (b : Nat) (f : Nat → Int32) (gp : Nat → Int32) (qn : Nat → Nat) (nv : Int32) (st : Nat) (hst : st < 108) (hg : gp st = -1) (hnv : ¬ nv = -1) : CT g M_Mm_spread [.ref m, .ref b, .int (nI st)] [(m, .inr (12, [.int th, .ref mp, .int pt, .ref mf, .ref mh, .ref mn, .ref mt, .ref mz, .ref mc_, .ref mq, .ref mgr, .int cl, .int wa, .int co_, .int fi, .int bu, .int ho, .ref ml, .ref mi, .ref mr, .int lh, .int mg, .int wd, .int fpi, .int fal, .ref mm, .ref mu, .ref mk, .ref mx, .long po, .long de])), (b, .inl (1, 108, .inl f)), (mgr, .inl (0, 108, .inl (upd gp st nv))), (mq, .inl (0, 108, .inl (fun k => nI (qn k))))] (fun o cs1 => o = .inl none ∧ cs1 = [(m, .inr (12, [.int th, .ref mp, .int pt, .ref mf, .ref mh, .ref mn, .ref mt, .ref mz, .ref mc_, .ref mq, .ref mgr, .int cl, .int wa, .int co_, .int fi, .int bu, .int ho, .ref ml, .ref mi, .ref mr, .int lh, .int mg, .int wd, .int fpi, .int fal, .ref mm, .ref mu, .ref mk, .ref mx, .long po, .long de])), (b, .inl (1, 108, .inl f)), (mgr, .inl (0, 108, .inl (gpX gp nv (bgB f (sgn gp) qn st).1))), (mq, .inl (0, 108, .inl (fun k => nI ((bgB f (sgn gp) qn st).1.2.2 k))))]) 0 0 := by
  refine z_of (by decide) rfl (Nat.le_of_ble_eq_true rfl) (fun w0 => ?_)
  refine r_lvE (lv2 := [(0, .ref m), (1, .ref b), (2, .int (nI st))]) rfl ?_
  refine r_aload_n d_Mm_spread_0 rfl 0 rfl ?_
  refine r_get fs_Mm_37 d_Mm_spread_1 (q0 := 0) rfl rfl ?_
  refine r_iconst d_Mm_spread_4 (v := 0) (by decide) ?_
  refine r_iload_n d_Mm_spread_5 rfl 2 rfl ?_
  refine r_iast d_Mm_spread_6 (q0 := 3) rfl (fun q => q.elim (by decide) (by decide)) (f' := fun k => nI (updN qn 0 st k)) upd_qn (cs' := [(m, .inr (12, [.int th, .ref mp, .int pt, .ref mf, .ref mh, .ref mn, .ref mt, .ref mz, .ref mc_, .ref mq, .ref mgr, .int cl, .int wa, .int co_, .int fi, .int bu, .int ho, .ref ml, .ref mi, .ref mr, .int lh, .int mg, .int wd, .int fpi, .int fal, .ref mm, .ref mu, .ref mk, .ref mx, .long po, .long de])), (b, .inl (1, 108, .inl f)), (mgr, .inl (0, 108, .inl (upd gp st nv))), (mq, .inl (0, 108, .inl (fun k => nI (updN qn 0 st k))))]) rfl ?_
  refine r_iconst d_Mm_spread_7 (v := 1) (by decide) ?_
  refine r_istore_n (lv' := [(3, .int 1), (0, .ref m), (1, .ref b), (2, .int (nI st))]) d_Mm_spread_8 rfl (by decide) rfl ?_
  refine r_iconst d_Mm_spread_9 (v := 0) (by decide) ?_
  refine r_istore (lv' := [(4, .int 0), (3, .int 1), (0, .ref m), (1, .ref b), (2, .int (nI st))]) d_Mm_spread_10 (by decide) rfl ?_
  have hQ : Qok (1, upd (sgn gp) st 1, updN qn 0 st) := Qok_1 hst
  have hokA := fun h => bwB_ok (f := f) hQ h
  have hbA := fun h => bI_B (f := f) hQ (bI_1 hst (sgn_0.mpr hg)) h
  have hsee := fun h => mn_B (f := f) (Q := (1, upd (sgn gp) st 1, updN qn 0 st)) (k := st) (by show ¬ upd (sgn gp) st 1 st = 0; rw [upd_eq]; decide) h
  refine r_lvE (lv2 := [(4, .int (nI 0)), (3, .int (nI (bwB f (1, upd (sgn gp) st 1, updN qn 0 st) 0).1.1)), (0, .ref m), (1, .ref b), (2, .int (nI st))]) (rfl) ?_
  refine r_cs (cs2 := [(m, .inr (12, [.int th, .ref mp, .int pt, .ref mf, .ref mh, .ref mn, .ref mt, .ref mz, .ref mc_, .ref mq, .ref mgr, .int cl, .int wa, .int co_, .int fi, .int bu, .int ho, .ref ml, .ref mi, .ref mr, .int lh, .int mg, .int wd, .int fpi, .int fal, .ref mm, .ref mu, .ref mk, .ref mx, .long po, .long de])), (b, .inl (1, 108, .inl f)), (mgr, .inl (0, 108, .inl (gpX gp nv (bwB f (1, upd (sgn gp) st 1, updN qn 0 st) 0).1))), (mq, .inl (0, 108, .inl (fun k => nI ((bwB f (1, upd (sgn gp) st 1, updN qn 0 st) 0).1.2.2 k))))]) (by rw [gpX_1 (qn := qn) hg] <;> rfl) ?_
  exact L_Mm_spread9_12 g m mp mf mh mn mt mz mc_ mq mgr ml mi mr mm mu mk mx th pt cl wa co_ fi bu ho lh mg wd fpi fal po de b f gp qn nv st hst hg hnv w0 _ hokA hbA hsee (108 + 1) 0 (Nat.zero_le _) (by omega)
set_option maxHeartbeats 4000000 in
set_option maxRecDepth 100000 in
theorem L_Mm_groupIn9_25 (g : zG) (m mp mf mh mn mt mz mc_ mq mgr ml mi mr mm mu mk mx : Nat) (th pt cl wa co_ fi bu ho lh mg wd fpi fal : Int32) (po de : Int64) (b : Nat) (f : Nat → Int32) (gp : Nat → Int32) (qn : Nat → Nat) (w0 : zW) (n : Nat) : ∀ (d i : Nat), i ≤ 108 → 108 < i + d → DV g M_Mm_groupIn (fun o cs1 => o = .inl (some (.int (nI (rgS f (fa_fill (fun _ => -1) gp 108, qn, 0) 108).2.2))) ∧ cs1 = [(m, .inr (12, [.int th, .ref mp, .int pt, .ref mf, .ref mh, .ref mn, .ref mt, .ref mz, .ref mc_, .ref mq, .ref mgr, .int cl, .int wa, .int co_, .int fi, .int bu, .int ho, .ref ml, .ref mi, .ref mr, .int lh, .int mg, .int wd, .int fpi, .int fal, .ref mm, .ref mu, .ref mk, .ref mx, .long po, .long de])), (b, .inl (1, 108, .inl f)), (mgr, .inl (0, 108, .inl ((rgS f (fa_fill (fun _ => -1) gp 108, qn, 0) 108).1))), (mq, .inl (0, 108, .inl (fun k => nI ((rgS f (fa_fill (fun _ => -1) gp 108, qn, 0) 108).2.1 k))))]) w0 n 25 [(3, .int (nI i)), (2, .int (nI (rgS f (fa_fill (fun _ => -1) gp 108, qn, 0) i).2.2)), (0, .ref m), (1, .ref b)] [] [(m, .inr (12, [.int th, .ref mp, .int pt, .ref mf, .ref mh, .ref mn, .ref mt, .ref mz, .ref mc_, .ref mq, .ref mgr, .int cl, .int wa, .int co_, .int fi, .int bu, .int ho, .ref ml, .ref mi, .ref mr, .int lh, .int mg, .int wd, .int fpi, .int fal, .ref mm, .ref mu, .ref mk, .ref mx, .long po, .long de])), (b, .inl (1, 108, .inl f)), (mgr, .inl (0, 108, .inl ((rgS f (fa_fill (fun _ => -1) gp 108, qn, 0) i).1))), (mq, .inl (0, 108, .inl (fun k => nI ((rgS f (fa_fill (fun _ => -1) gp 108, qn, 0) i).2.1 k))))] 0 0 := by
  intro d
  induction d with
  | zero => intro i h1 h2 ; exact absurd h2 (by omega)
  | succ d ih =>
    intro i h1 h2 
    refine r_iload_n d_Mm_groupIn_25 rfl 0 rfl ?_
    refine r_bipush d_Mm_groupIn_26 (v := 108) (by decide) ?_
    refine r_icmp_ge (tgt := 71) d_Mm_groupIn_28 (by decide) (fun c_28 => ?_) (fun c_28 => ?_)
    · have hn := z_le (a := 108) (by omega) (by decide) c_28
      obtain rfl : i = 108 := by omega
      refine r_iload_n d_Mm_groupIn_71 rfl 1 rfl ?_
      refine r_iret d_Mm_groupIn_72 rfl rfl ?_
      exact ⟨rfl, rfl⟩
    · have hn := z_nle (a := 108) (by omega) (by decide) c_28
      refine r_aload_n d_Mm_groupIn_31 rfl 3 rfl ?_
      refine r_iload_n d_Mm_groupIn_32 rfl 0 rfl ?_
      refine r_cald d_Mm_groupIn_33 (q0 := 1) rfl (vp_in_nI (by omega) (by omega)) (v := f i) (by rw [nI_clamp (by omega)]) ?_
      refine r_bipush d_Mm_groupIn_34 (v := 111) (by decide) ?_
      refine r_icmp_ne (tgt := 65) d_Mm_groupIn_36 (by decide) (fun c_36 => ?_) (fun c_36 => ?_)
      · have hk := rgS_f (f := f) (S0 := (fa_fill (fun _ => -1) gp 108, qn, 0)) (i := i) (fun q => c_36 q.1)
        refine r_iinc (lv' := [(3, .int (nI (i + 1))), (2, .int (nI (rgS f (fa_fill (fun _ => -1) gp 108, qn, 0) i).2.2)), (0, .ref m), (1, .ref b)]) (v := nI (i + 1)) d_Mm_groupIn_65 (j := 0) rfl (nI_add _ _) (by decide) rfl ?_
        refine r_goto (tgt := 25) d_Mm_groupIn_68 (by decide) ?_
        refine r_lvE (lv2 := [(3, .int (nI (i + 1))), (2, .int (nI (rgS f (fa_fill (fun _ => -1) gp 108, qn, 0) (i + 1)).2.2)), (0, .ref m), (1, .ref b)]) (by rw [hk] <;> rfl) ?_
        refine r_cs (cs2 := [(m, .inr (12, [.int th, .ref mp, .int pt, .ref mf, .ref mh, .ref mn, .ref mt, .ref mz, .ref mc_, .ref mq, .ref mgr, .int cl, .int wa, .int co_, .int fi, .int bu, .int ho, .ref ml, .ref mi, .ref mr, .int lh, .int mg, .int wd, .int fpi, .int fal, .ref mm, .ref mu, .ref mk, .ref mx, .long po, .long de])), (b, .inl (1, 108, .inl f)), (mgr, .inl (0, 108, .inl ((rgS f (fa_fill (fun _ => -1) gp 108, qn, 0) (i + 1)).1))), (mq, .inl (0, 108, .inl (fun k => nI ((rgS f (fa_fill (fun _ => -1) gp 108, qn, 0) (i + 1)).2.1 k))))]) (by rw [hk] <;> rfl) ?_
        exact ih (i + 1) (by omega) (by omega)
      · refine r_aload_n d_Mm_groupIn_39 rfl 2 rfl ?_
        refine r_get fs_Mm_40 d_Mm_groupIn_40 (q0 := 0) rfl rfl ?_
        refine r_iload_n d_Mm_groupIn_43 rfl 0 rfl ?_
        refine r_iald d_Mm_groupIn_44 (q0 := 2) rfl (vp_in_nI (by omega) (by omega)) (v := ((rgS f (fa_fill (fun _ => -1) gp 108, qn, 0) i).1) i) (by rw [nI_clamp (by omega)]) ?_
        refine r_iconst d_Mm_groupIn_45 (v := (-1)) (by decide) ?_
        refine r_icmp_ne (tgt := 65) d_Mm_groupIn_46 (by decide) (fun c_46 => ?_) (fun c_46 => ?_)
        · have hk := rgS_f (f := f) (S0 := (fa_fill (fun _ => -1) gp 108, qn, 0)) (i := i) (fun q => c_46 q.2)
          refine r_iinc (lv' := [(3, .int (nI (i + 1))), (2, .int (nI (rgS f (fa_fill (fun _ => -1) gp 108, qn, 0) i).2.2)), (0, .ref m), (1, .ref b)]) (v := nI (i + 1)) d_Mm_groupIn_65 (j := 0) rfl (nI_add _ _) (by decide) rfl ?_
          refine r_goto (tgt := 25) d_Mm_groupIn_68 (by decide) ?_
          refine r_lvE (lv2 := [(3, .int (nI (i + 1))), (2, .int (nI (rgS f (fa_fill (fun _ => -1) gp 108, qn, 0) (i + 1)).2.2)), (0, .ref m), (1, .ref b)]) (by rw [hk] <;> rfl) ?_
          refine r_cs (cs2 := [(m, .inr (12, [.int th, .ref mp, .int pt, .ref mf, .ref mh, .ref mn, .ref mt, .ref mz, .ref mc_, .ref mq, .ref mgr, .int cl, .int wa, .int co_, .int fi, .int bu, .int ho, .ref ml, .ref mi, .ref mr, .int lh, .int mg, .int wd, .int fpi, .int fal, .ref mm, .ref mu, .ref mk, .ref mx, .long po, .long de])), (b, .inl (1, 108, .inl f)), (mgr, .inl (0, 108, .inl ((rgS f (fa_fill (fun _ => -1) gp 108, qn, 0) (i + 1)).1))), (mq, .inl (0, 108, .inl (fun k => nI ((rgS f (fa_fill (fun _ => -1) gp 108, qn, 0) (i + 1)).2.1 k))))]) (by rw [hk] <;> rfl) ?_
          exact ih (i + 1) (by omega) (by omega)
        · have hle := rgS_le (f := f) (S0 := (fa_fill (fun _ => -1) gp 108, qn, 0)) rfl i
          have hk := rgS_t (f := f) (S0 := (fa_fill (fun _ => -1) gp 108, qn, 0)) (i := i) ⟨c_36, c_46⟩
          refine r_aload_n d_Mm_groupIn_49 rfl 2 rfl ?_
          refine r_get fs_Mm_40 d_Mm_groupIn_50 (q0 := 0) rfl rfl ?_
          refine r_iload_n d_Mm_groupIn_53 rfl 0 rfl ?_
          refine r_iload_n d_Mm_groupIn_54 rfl 1 rfl ?_
          refine r_iast d_Mm_groupIn_55 (q0 := 2) rfl (vp_in_nI (by omega) (by omega)) (f' := upd (rgS f (fa_fill (fun _ => -1) gp 108, qn, 0) i).1 i (nI (rgS f (fa_fill (fun _ => -1) gp 108, qn, 0) i).2.2)) (by rw [nI_clamp (by omega)] <;> rfl) (cs' := [(m, .inr (12, [.int th, .ref mp, .int pt, .ref mf, .ref mh, .ref mn, .ref mt, .ref mz, .ref mc_, .ref mq, .ref mgr, .int cl, .int wa, .int co_, .int fi, .int bu, .int ho, .ref ml, .ref mi, .ref mr, .int lh, .int mg, .int wd, .int fpi, .int fal, .ref mm, .ref mu, .ref mk, .ref mx, .long po, .long de])), (b, .inl (1, 108, .inl f)), (mgr, .inl (0, 108, .inl (upd (rgS f (fa_fill (fun _ => -1) gp 108, qn, 0) i).1 i (nI (rgS f (fa_fill (fun _ => -1) gp 108, qn, 0) i).2.2)))), (mq, .inl (0, 108, .inl (fun k => nI ((rgS f (fa_fill (fun _ => -1) gp 108, qn, 0) i).2.1 k))))]) rfl ?_
          refine r_aload_n d_Mm_groupIn_56 rfl 2 rfl ?_
          refine r_aload_n d_Mm_groupIn_57 rfl 3 rfl ?_
          refine r_iload_n d_Mm_groupIn_58 rfl 0 rfl ?_
          refine r_callV (As := [.ref b, .int (nI i)]) (rest := []) (csC := [(m, .inr (12, [.int th, .ref mp, .int pt, .ref mf, .ref mh, .ref mn, .ref mt, .ref mz, .ref mc_, .ref mq, .ref mgr, .int cl, .int wa, .int co_, .int fi, .int bu, .int ho, .ref ml, .ref mi, .ref mr, .int lh, .int mg, .int wd, .int fpi, .int fal, .ref mm, .ref mu, .ref mk, .ref mx, .long po, .long de])), (b, .inl (1, 108, .inl f)), (mgr, .inl (0, 108, .inl (upd (rgS f (fa_fill (fun _ => -1) gp 108, qn, 0) i).1 i (nI (rgS f (fa_fill (fun _ => -1) gp 108, qn, 0) i).2.2)))), (mq, .inl (0, 108, .inl (fun k => nI ((rgS f (fa_fill (fun _ => -1) gp 108, qn, 0) i).2.1 k))))]) (is := [0, 1, 2, 3]) (q0 := 0) rfl rfl ln_Mm_115 w_im_Mm_spread w_se_Mm_spread ok_Mm_groupIn_Mm_spread d_Mm_groupIn_59 (C_Mm_spread9 g m mp mf mh mn mt mz mc_ mq mgr ml mi mr mm mu mk mx th pt cl wa co_ fi bu ho lh mg wd fpi fal po de b f (rgS f (fa_fill (fun _ => -1) gp 108, qn, 0) i).1 (rgS f (fa_fill (fun _ => -1) gp 108, qn, 0) i).2.1 (nI (rgS f (fa_fill (fun _ => -1) gp 108, qn, 0) i).2.2) i (by omega) c_46 (nI_nm1 (by omega))) rfl rfl (Nat.le_of_ble_eq_true rfl) rfl (by decide) (by omega) (by omega) (fun E cs1 hx => ?_) (fun v cs1 hx => ?_)
          · exact absurd hx.1 (by simp)
          · obtain ⟨e1, rfl⟩ := hx
            cases e1
            refine ⟨rfl, ?_⟩
            refine r_st (st2 := []) rfl ?_
            refine r_cs (cs2 := [(m, .inr (12, [.int th, .ref mp, .int pt, .ref mf, .ref mh, .ref mn, .ref mt, .ref mz, .ref mc_, .ref mq, .ref mgr, .int cl, .int wa, .int co_, .int fi, .int bu, .int ho, .ref ml, .ref mi, .ref mr, .int lh, .int mg, .int wd, .int fpi, .int fal, .ref mm, .ref mu, .ref mk, .ref mx, .long po, .long de])), (b, .inl (1, 108, .inl f)), (mgr, .inl (0, 108, .inl (gpX (rgS f (fa_fill (fun _ => -1) gp 108, qn, 0) i).1 (nI (rgS f (fa_fill (fun _ => -1) gp 108, qn, 0) i).2.2) (bgB f (sgn (rgS f (fa_fill (fun _ => -1) gp 108, qn, 0) i).1) (rgS f (fa_fill (fun _ => -1) gp 108, qn, 0) i).2.1 i).1))), (mq, .inl (0, 108, .inl (fun k => nI ((bgB f (sgn (rgS f (fa_fill (fun _ => -1) gp 108, qn, 0) i).1) (rgS f (fa_fill (fun _ => -1) gp 108, qn, 0) i).2.1 i).1.2.2 k))))]) rfl ?_
            refine r_iinc (lv' := [(2, .int (nI ((rgS f (fa_fill (fun _ => -1) gp 108, qn, 0) i).2.2 + 1))), (3, .int (nI i)), (0, .ref m), (1, .ref b)]) (v := nI ((rgS f (fa_fill (fun _ => -1) gp 108, qn, 0) i).2.2 + 1)) d_Mm_groupIn_62 (j := 1) rfl (nI_add _ _) (by decide) rfl ?_
            refine r_iinc (lv' := [(3, .int (nI (i + 1))), (2, .int (nI ((rgS f (fa_fill (fun _ => -1) gp 108, qn, 0) i).2.2 + 1))), (0, .ref m), (1, .ref b)]) (v := nI (i + 1)) d_Mm_groupIn_65 (j := 1) rfl (nI_add _ _) (by decide) rfl ?_
            refine r_goto (tgt := 25) d_Mm_groupIn_68 (by decide) ?_
            refine r_lvE (lv2 := [(3, .int (nI (i + 1))), (2, .int (nI (rgS f (fa_fill (fun _ => -1) gp 108, qn, 0) (i + 1)).2.2)), (0, .ref m), (1, .ref b)]) (by rw [hk] <;> rfl) ?_
            refine r_cs (cs2 := [(m, .inr (12, [.int th, .ref mp, .int pt, .ref mf, .ref mh, .ref mn, .ref mt, .ref mz, .ref mc_, .ref mq, .ref mgr, .int cl, .int wa, .int co_, .int fi, .int bu, .int ho, .ref ml, .ref mi, .ref mr, .int lh, .int mg, .int wd, .int fpi, .int fal, .ref mm, .ref mu, .ref mk, .ref mx, .long po, .long de])), (b, .inl (1, 108, .inl f)), (mgr, .inl (0, 108, .inl ((rgS f (fa_fill (fun _ => -1) gp 108, qn, 0) (i + 1)).1))), (mq, .inl (0, 108, .inl (fun k => nI ((rgS f (fa_fill (fun _ => -1) gp 108, qn, 0) (i + 1)).2.1 k))))]) (by rw [hk] <;> rfl) ?_
            exact ih (i + 1) (by omega) (by omega)
set_option maxHeartbeats 4000000 in
set_option maxRecDepth 100000 in
theorem L_Mm_groupIn9_4 (g : zG) (m mp mf mh mn mt mz mc_ mq mgr ml mi mr mm mu mk mx : Nat) (th pt cl wa co_ fi bu ho lh mg wd fpi fal : Int32) (po de : Int64) (b : Nat) (f : Nat → Int32) (gp : Nat → Int32) (qn : Nat → Nat) (w0 : zW) (n : Nat) : ∀ (d i : Nat), i ≤ 108 → 108 < i + d → DV g M_Mm_groupIn (fun o cs1 => o = .inl (some (.int (nI (rgS f (fa_fill (fun _ => -1) gp 108, qn, 0) 108).2.2))) ∧ cs1 = [(m, .inr (12, [.int th, .ref mp, .int pt, .ref mf, .ref mh, .ref mn, .ref mt, .ref mz, .ref mc_, .ref mq, .ref mgr, .int cl, .int wa, .int co_, .int fi, .int bu, .int ho, .ref ml, .ref mi, .ref mr, .int lh, .int mg, .int wd, .int fpi, .int fal, .ref mm, .ref mu, .ref mk, .ref mx, .long po, .long de])), (b, .inl (1, 108, .inl f)), (mgr, .inl (0, 108, .inl ((rgS f (fa_fill (fun _ => -1) gp 108, qn, 0) 108).1))), (mq, .inl (0, 108, .inl (fun k => nI ((rgS f (fa_fill (fun _ => -1) gp 108, qn, 0) 108).2.1 k))))]) w0 n 4 [(3, .int (nI i)), (2, .int 0), (0, .ref m), (1, .ref b)] [] [(m, .inr (12, [.int th, .ref mp, .int pt, .ref mf, .ref mh, .ref mn, .ref mt, .ref mz, .ref mc_, .ref mq, .ref mgr, .int cl, .int wa, .int co_, .int fi, .int bu, .int ho, .ref ml, .ref mi, .ref mr, .int lh, .int mg, .int wd, .int fpi, .int fal, .ref mm, .ref mu, .ref mk, .ref mx, .long po, .long de])), (b, .inl (1, 108, .inl f)), (mgr, .inl (0, 108, .inl (fa_fill (fun _ => -1) gp i))), (mq, .inl (0, 108, .inl (fun k => nI (qn k))))] 0 0 := by
  intro d
  induction d with
  | zero => intro i h1 h2 ; exact absurd h2 (by omega)
  | succ d ih =>
    intro i h1 h2 
    refine r_iload_n d_Mm_groupIn_4 rfl 0 rfl ?_
    refine r_bipush d_Mm_groupIn_5 (v := 108) (by decide) ?_
    refine r_icmp_ge (tgt := 23) d_Mm_groupIn_7 (by decide) (fun c_7 => ?_) (fun c_7 => ?_)
    · have hn := z_le (a := 108) (by omega) (by decide) c_7
      obtain rfl : i = 108 := by omega
      refine r_iconst d_Mm_groupIn_23 (v := 0) (by decide) ?_
      refine r_istore_n (lv' := [(3, .int 0), (2, .int 0), (0, .ref m), (1, .ref b)]) d_Mm_groupIn_24 rfl (by decide) rfl ?_
      refine r_lvE (lv2 := [(3, .int (nI 0)), (2, .int (nI (rgS f (fa_fill (fun _ => -1) gp 108, qn, 0) 0).2.2)), (0, .ref m), (1, .ref b)]) (rfl) ?_
      refine r_cs (cs2 := [(m, .inr (12, [.int th, .ref mp, .int pt, .ref mf, .ref mh, .ref mn, .ref mt, .ref mz, .ref mc_, .ref mq, .ref mgr, .int cl, .int wa, .int co_, .int fi, .int bu, .int ho, .ref ml, .ref mi, .ref mr, .int lh, .int mg, .int wd, .int fpi, .int fal, .ref mm, .ref mu, .ref mk, .ref mx, .long po, .long de])), (b, .inl (1, 108, .inl f)), (mgr, .inl (0, 108, .inl ((rgS f (fa_fill (fun _ => -1) gp 108, qn, 0) 0).1))), (mq, .inl (0, 108, .inl (fun k => nI ((rgS f (fa_fill (fun _ => -1) gp 108, qn, 0) 0).2.1 k))))]) (rfl) ?_
      exact L_Mm_groupIn9_25 g m mp mf mh mn mt mz mc_ mq mgr ml mi mr mm mu mk mx th pt cl wa co_ fi bu ho lh mg wd fpi fal po de b f gp qn w0 _  (108 + 1) 0 (Nat.zero_le _) (by omega)
    · have hn := z_nle (a := 108) (by omega) (by decide) c_7
      refine r_aload_n d_Mm_groupIn_10 rfl 2 rfl ?_
      refine r_get fs_Mm_40 d_Mm_groupIn_11 (q0 := 0) rfl rfl ?_
      refine r_iload_n d_Mm_groupIn_14 rfl 0 rfl ?_
      refine r_iconst d_Mm_groupIn_15 (v := (-1)) (by decide) ?_
      refine r_iast d_Mm_groupIn_16 (q0 := 2) rfl (vp_in_nI (by omega) (by omega)) (f' := fa_fill (fun _ => -1) gp (i + 1)) (by rw [nI_clamp (by omega)]; exact fill_nI (-1) gp i) (cs' := [(m, .inr (12, [.int th, .ref mp, .int pt, .ref mf, .ref mh, .ref mn, .ref mt, .ref mz, .ref mc_, .ref mq, .ref mgr, .int cl, .int wa, .int co_, .int fi, .int bu, .int ho, .ref ml, .ref mi, .ref mr, .int lh, .int mg, .int wd, .int fpi, .int fal, .ref mm, .ref mu, .ref mk, .ref mx, .long po, .long de])), (b, .inl (1, 108, .inl f)), (mgr, .inl (0, 108, .inl (fa_fill (fun _ => -1) gp (i + 1)))), (mq, .inl (0, 108, .inl (fun k => nI (qn k))))]) rfl ?_
      refine r_iinc (lv' := [(3, .int (nI (i + 1))), (2, .int 0), (0, .ref m), (1, .ref b)]) (v := nI (i + 1)) d_Mm_groupIn_17 (j := 0) rfl (nI_add _ _) (by decide) rfl ?_
      refine r_goto (tgt := 4) d_Mm_groupIn_20 (by decide) ?_
      refine r_lvE (lv2 := [(3, .int (nI (i + 1))), (2, .int 0), (0, .ref m), (1, .ref b)]) (rfl) ?_
      refine r_cs (cs2 := [(m, .inr (12, [.int th, .ref mp, .int pt, .ref mf, .ref mh, .ref mn, .ref mt, .ref mz, .ref mc_, .ref mq, .ref mgr, .int cl, .int wa, .int co_, .int fi, .int bu, .int ho, .ref ml, .ref mi, .ref mr, .int lh, .int mg, .int wd, .int fpi, .int fal, .ref mm, .ref mu, .ref mk, .ref mx, .long po, .long de])), (b, .inl (1, 108, .inl f)), (mgr, .inl (0, 108, .inl (fa_fill (fun _ => -1) gp (i + 1)))), (mq, .inl (0, 108, .inl (fun k => nI (qn k))))]) (rfl) ?_
      exact ih (i + 1) (by omega) (by omega)
set_option maxHeartbeats 4000000 in
set_option maxRecDepth 100000 in
theorem C_Mm_groupIn9 (g : zG) (m mp mf mh mn mt mz mc_ mq mgr ml mi mr mm mu mk mx : Nat) (th pt cl wa co_ fi bu ho lh mg wd fpi fal : Int32) (po de : Int64) (b : Nat) (f : Nat → Int32) (gp : Nat → Int32) (qn : Nat → Nat) : CT g M_Mm_groupIn [.ref m, .ref b] [(m, .inr (12, [.int th, .ref mp, .int pt, .ref mf, .ref mh, .ref mn, .ref mt, .ref mz, .ref mc_, .ref mq, .ref mgr, .int cl, .int wa, .int co_, .int fi, .int bu, .int ho, .ref ml, .ref mi, .ref mr, .int lh, .int mg, .int wd, .int fpi, .int fal, .ref mm, .ref mu, .ref mk, .ref mx, .long po, .long de])), (b, .inl (1, 108, .inl f)), (mgr, .inl (0, 108, .inl gp)), (mq, .inl (0, 108, .inl (fun k => nI (qn k))))] (fun o cs1 => o = .inl (some (.int (nI (rgS f (fa_fill (fun _ => -1) gp 108, qn, 0) 108).2.2))) ∧ cs1 = [(m, .inr (12, [.int th, .ref mp, .int pt, .ref mf, .ref mh, .ref mn, .ref mt, .ref mz, .ref mc_, .ref mq, .ref mgr, .int cl, .int wa, .int co_, .int fi, .int bu, .int ho, .ref ml, .ref mi, .ref mr, .int lh, .int mg, .int wd, .int fpi, .int fal, .ref mm, .ref mu, .ref mk, .ref mx, .long po, .long de])), (b, .inl (1, 108, .inl f)), (mgr, .inl (0, 108, .inl ((rgS f (fa_fill (fun _ => -1) gp 108, qn, 0) 108).1))), (mq, .inl (0, 108, .inl (fun k => nI ((rgS f (fa_fill (fun _ => -1) gp 108, qn, 0) 108).2.1 k))))]) 0 0 := by
  refine z_of (by decide) rfl (Nat.le_of_ble_eq_true rfl) (fun w0 => ?_)
  refine r_lvE (lv2 := [(0, .ref m), (1, .ref b)]) rfl ?_
  refine r_iconst d_Mm_groupIn_0 (v := 0) (by decide) ?_
  refine r_istore_n (lv' := [(2, .int 0), (0, .ref m), (1, .ref b)]) d_Mm_groupIn_1 rfl (by decide) rfl ?_
  refine r_iconst d_Mm_groupIn_2 (v := 0) (by decide) ?_
  refine r_istore_n (lv' := [(3, .int 0), (2, .int 0), (0, .ref m), (1, .ref b)]) d_Mm_groupIn_3 rfl (by decide) rfl ?_
  refine r_lvE (lv2 := [(3, .int (nI 0)), (2, .int 0), (0, .ref m), (1, .ref b)]) (rfl) ?_
  refine r_cs (cs2 := [(m, .inr (12, [.int th, .ref mp, .int pt, .ref mf, .ref mh, .ref mn, .ref mt, .ref mz, .ref mc_, .ref mq, .ref mgr, .int cl, .int wa, .int co_, .int fi, .int bu, .int ho, .ref ml, .ref mi, .ref mr, .int lh, .int mg, .int wd, .int fpi, .int fal, .ref mm, .ref mu, .ref mk, .ref mx, .long po, .long de])), (b, .inl (1, 108, .inl f)), (mgr, .inl (0, 108, .inl (fa_fill (fun _ => -1) gp 0))), (mq, .inl (0, 108, .inl (fun k => nI (qn k))))]) (rfl) ?_
  exact L_Mm_groupIn9_4 g m mp mf mh mn mt mz mc_ mq mgr ml mi mr mm mu mk mx th pt cl wa co_ fi bu ho lh mg wd fpi fal po de b f gp qn w0 _  (108 + 1) 0 (Nat.zero_le _) (by omega)
set_option maxHeartbeats 4000000 in
set_option maxRecDepth 100000 in
theorem L_Mm_looseIn9_23 (g : zG) (m mp mf mh mn mt mz mc_ mq mgr ml mi mr mm mu mk mx : Nat) (th pt cl wa co_ fi bu ho lh mg wd fpi fal : Int32) (po de : Int64) (b : Nat) (f : Nat → Int32) (gp : Nat → Int32) (qn : Nat → Nat) (w0 : zW) (n : Nat) (co : Nat) (hco : co < 108) (K : DV g M_Mm_looseIn (fun o cs1 => o = .inl (some (.int (nI (fa_cnt (rgL f (rgS f (fa_fill (fun _ => -1) gp 108, qn, 0) 108).1) (rgS f (fa_fill (fun _ => -1) gp 108, qn, 0) 108).2.2)))) ∧ cs1 = [(m, .inr (12, [.int th, .ref mp, .int pt, .ref mf, .ref mh, .ref mn, .ref mt, .ref mz, .ref mc_, .ref mq, .ref mgr, .int cl, .int wa, .int co_, .int fi, .int bu, .int ho, .ref ml, .ref mi, .ref mr, .int lh, .int mg, .int wd, .int fpi, .int fal, .ref mm, .ref mu, .ref mk, .ref mx, .long po, .long de])), (b, .inl (1, 108, .inl f)), (mgr, .inl (0, 108, .inl ((rgS f (fa_fill (fun _ => -1) gp 108, qn, 0) 108).1))), (mq, .inl (0, 108, .inl (fun k => nI ((rgS f (fa_fill (fun _ => -1) gp 108, qn, 0) 108).2.1 k))))]) w0 n 67 [(5, .int (nI (fa_cnt (rgC f (rgS f (fa_fill (fun _ => -1) gp 108, qn, 0) 108).1 co) 108))), (4, .int (nI co)), (3, .int (nI (fa_cnt (rgL f (rgS f (fa_fill (fun _ => -1) gp 108, qn, 0) 108).1) co))), (2, .int (nI (rgS f (fa_fill (fun _ => -1) gp 108, qn, 0) 108).2.2)), (0, .ref m), (1, .ref b)] [] [(m, .inr (12, [.int th, .ref mp, .int pt, .ref mf, .ref mh, .ref mn, .ref mt, .ref mz, .ref mc_, .ref mq, .ref mgr, .int cl, .int wa, .int co_, .int fi, .int bu, .int ho, .ref ml, .ref mi, .ref mr, .int lh, .int mg, .int wd, .int fpi, .int fal, .ref mm, .ref mu, .ref mk, .ref mx, .long po, .long de])), (b, .inl (1, 108, .inl f)), (mgr, .inl (0, 108, .inl ((rgS f (fa_fill (fun _ => -1) gp 108, qn, 0) 108).1))), (mq, .inl (0, 108, .inl (fun k => nI ((rgS f (fa_fill (fun _ => -1) gp 108, qn, 0) 108).2.1 k))))] 0 0) : ∀ (d i : Nat), i ≤ 108 → 108 < i + d → DV g M_Mm_looseIn (fun o cs1 => o = .inl (some (.int (nI (fa_cnt (rgL f (rgS f (fa_fill (fun _ => -1) gp 108, qn, 0) 108).1) (rgS f (fa_fill (fun _ => -1) gp 108, qn, 0) 108).2.2)))) ∧ cs1 = [(m, .inr (12, [.int th, .ref mp, .int pt, .ref mf, .ref mh, .ref mn, .ref mt, .ref mz, .ref mc_, .ref mq, .ref mgr, .int cl, .int wa, .int co_, .int fi, .int bu, .int ho, .ref ml, .ref mi, .ref mr, .int lh, .int mg, .int wd, .int fpi, .int fal, .ref mm, .ref mu, .ref mk, .ref mx, .long po, .long de])), (b, .inl (1, 108, .inl f)), (mgr, .inl (0, 108, .inl ((rgS f (fa_fill (fun _ => -1) gp 108, qn, 0) 108).1))), (mq, .inl (0, 108, .inl (fun k => nI ((rgS f (fa_fill (fun _ => -1) gp 108, qn, 0) 108).2.1 k))))]) w0 n 23 [(6, .int (nI i)), (5, .int (nI (fa_cnt (rgC f (rgS f (fa_fill (fun _ => -1) gp 108, qn, 0) 108).1 co) i))), (4, .int (nI co)), (3, .int (nI (fa_cnt (rgL f (rgS f (fa_fill (fun _ => -1) gp 108, qn, 0) 108).1) co))), (2, .int (nI (rgS f (fa_fill (fun _ => -1) gp 108, qn, 0) 108).2.2)), (0, .ref m), (1, .ref b)] [] [(m, .inr (12, [.int th, .ref mp, .int pt, .ref mf, .ref mh, .ref mn, .ref mt, .ref mz, .ref mc_, .ref mq, .ref mgr, .int cl, .int wa, .int co_, .int fi, .int bu, .int ho, .ref ml, .ref mi, .ref mr, .int lh, .int mg, .int wd, .int fpi, .int fal, .ref mm, .ref mu, .ref mk, .ref mx, .long po, .long de])), (b, .inl (1, 108, .inl f)), (mgr, .inl (0, 108, .inl ((rgS f (fa_fill (fun _ => -1) gp 108, qn, 0) 108).1))), (mq, .inl (0, 108, .inl (fun k => nI ((rgS f (fa_fill (fun _ => -1) gp 108, qn, 0) 108).2.1 k))))] 0 0 := by
  intro d
  induction d with
  | zero => intro i h1 h2 ; exact absurd h2 (by omega)
  | succ d ih =>
    intro i h1 h2 
    refine r_iload d_Mm_looseIn_23 0 rfl ?_
    refine r_bipush d_Mm_looseIn_25 (v := 108) (by decide) ?_
    refine r_icmp_ge (tgt := 67) d_Mm_looseIn_27 (by decide) (fun c_27 => ?_) (fun c_27 => ?_)
    · have hn := z_le (a := 108) (by omega) (by decide) c_27
      obtain rfl : i = 108 := by omega
      refine r_lv (lv' := [(5, .int (nI (fa_cnt (rgC f (rgS f (fa_fill (fun _ => -1) gp 108, qn, 0) 108).1 co) 108))), (4, .int (nI co)), (3, .int (nI (fa_cnt (rgL f (rgS f (fa_fill (fun _ => -1) gp 108, qn, 0) 108).1) co))), (2, .int (nI (rgS f (fa_fill (fun _ => -1) gp 108, qn, 0) 108).2.2)), (0, .ref m), (1, .ref b)]) [1, 2, 3, 4, 5, 6] rfl ?_
      exact K
    · have hn := z_nle (a := 108) (by omega) (by decide) c_27
      refine r_iload d_Mm_looseIn_30 1 rfl ?_
      refine r_aload_n d_Mm_looseIn_32 rfl 5 rfl ?_
      refine r_get fs_Mm_40 d_Mm_looseIn_33 (q0 := 0) rfl rfl ?_
      refine r_iload d_Mm_looseIn_36 0 rfl ?_
      refine r_iald d_Mm_looseIn_38 (q0 := 2) rfl (vp_in_nI (by omega) (by omega)) (v := (rgS f (fa_fill (fun _ => -1) gp 108, qn, 0) 108).1 i) (by rw [nI_clamp (by omega)]) ?_
      refine r_iload d_Mm_looseIn_39 2 rfl ?_
      refine r_icmp_ne (tgt := 57) d_Mm_looseIn_41 (by decide) (fun c_41 => ?_) (fun c_41 => ?_)
      · have hb : rgC f (rgS f (fa_fill (fun _ => -1) gp 108, qn, 0) 108).1 co i = false := by unfold rgC; rw [decide_eq_false c_41]; rfl
        refine r_iconst d_Mm_looseIn_57 (v := 0) (by decide) ?_
        refine r_iadd d_Mm_looseIn_58 (v := nI ((fa_cnt (rgC f (rgS f (fa_fill (fun _ => -1) gp 108, qn, 0) 108).1 co) i) + 0)) (nI_add _ _) ?_
        refine r_istore (lv' := [(5, .int (nI ((fa_cnt (rgC f (rgS f (fa_fill (fun _ => -1) gp 108, qn, 0) 108).1 co) i) + 0))), (6, .int (nI i)), (4, .int (nI co)), (3, .int (nI (fa_cnt (rgL f (rgS f (fa_fill (fun _ => -1) gp 108, qn, 0) 108).1) co))), (2, .int (nI (rgS f (fa_fill (fun _ => -1) gp 108, qn, 0) 108).2.2)), (0, .ref m), (1, .ref b)]) d_Mm_looseIn_59 (by decide) rfl ?_
        refine r_iinc (lv' := [(6, .int (nI (i + 1))), (5, .int (nI ((fa_cnt (rgC f (rgS f (fa_fill (fun _ => -1) gp 108, qn, 0) 108).1 co) i) + 0))), (4, .int (nI co)), (3, .int (nI (fa_cnt (rgL f (rgS f (fa_fill (fun _ => -1) gp 108, qn, 0) 108).1) co))), (2, .int (nI (rgS f (fa_fill (fun _ => -1) gp 108, qn, 0) 108).2.2)), (0, .ref m), (1, .ref b)]) (v := nI (i + 1)) d_Mm_looseIn_61 (j := 1) rfl (nI_add _ _) (by decide) rfl ?_
        refine r_goto (tgt := 23) d_Mm_looseIn_64 (by decide) ?_
        refine r_lvE (lv2 := [(6, .int (nI (i + 1))), (5, .int (nI (fa_cnt (rgC f (rgS f (fa_fill (fun _ => -1) gp 108, qn, 0) 108).1 co) (i + 1)))), (4, .int (nI co)), (3, .int (nI (fa_cnt (rgL f (rgS f (fa_fill (fun _ => -1) gp 108, qn, 0) 108).1) co))), (2, .int (nI (rgS f (fa_fill (fun _ => -1) gp 108, qn, 0) 108).2.2)), (0, .ref m), (1, .ref b)]) (by first | (rw [fa_cnt_yes (p := rgC f (rgS f (fa_fill (fun _ => -1) gp 108, qn, 0) 108).1 co) hb] <;> rfl) | (rw [fa_cnt_no (p := rgC f (rgS f (fa_fill (fun _ => -1) gp 108, qn, 0) 108).1 co) hb] <;> rfl)) ?_
        refine r_cs (cs2 := [(m, .inr (12, [.int th, .ref mp, .int pt, .ref mf, .ref mh, .ref mn, .ref mt, .ref mz, .ref mc_, .ref mq, .ref mgr, .int cl, .int wa, .int co_, .int fi, .int bu, .int ho, .ref ml, .ref mi, .ref mr, .int lh, .int mg, .int wd, .int fpi, .int fal, .ref mm, .ref mu, .ref mk, .ref mx, .long po, .long de])), (b, .inl (1, 108, .inl f)), (mgr, .inl (0, 108, .inl ((rgS f (fa_fill (fun _ => -1) gp 108, qn, 0) 108).1))), (mq, .inl (0, 108, .inl (fun k => nI ((rgS f (fa_fill (fun _ => -1) gp 108, qn, 0) 108).2.1 k))))]) (rfl) ?_
        exact ih (i + 1) (by omega) (by omega)
      · refine r_aload_n d_Mm_looseIn_44 rfl 6 rfl ?_
        refine r_iload d_Mm_looseIn_45 0 rfl ?_
        refine r_callS (As := [.ref b, .int (nI i)]) (rest := [.int (nI (fa_cnt (rgC f (rgS f (fa_fill (fun _ => -1) gp 108, qn, 0) 108).1 co) i))]) (csC := [(b, .inl (1, 108, .inl f))]) (is := [1]) ln_Mm_127 w_st_Mm_isBesideSand ok_Mm_looseIn_Mm_isBesideSand d_Mm_looseIn_47 (C_Mm_isBesideSand g b f i (by omega)) rfl rfl (Nat.le_of_ble_eq_true rfl) rfl (by decide) (by omega) (by omega) (fun E cs1 hx => ?_) (fun v cs1 hx => ?_)
        · exact absurd hx.1 (by simp)
        · obtain ⟨e1, rfl⟩ := hx
          cases e1
          refine ⟨rfl, ?_⟩
          refine r_st (st2 := [.int (bsdS f i 4), .int (nI (fa_cnt (rgC f (rgS f (fa_fill (fun _ => -1) gp 108, qn, 0) 108).1 co) i))]) rfl ?_
          refine r_cs (cs2 := [(m, .inr (12, [.int th, .ref mp, .int pt, .ref mf, .ref mh, .ref mn, .ref mt, .ref mz, .ref mc_, .ref mq, .ref mgr, .int cl, .int wa, .int co_, .int fi, .int bu, .int ho, .ref ml, .ref mi, .ref mr, .int lh, .int mg, .int wd, .int fpi, .int fal, .ref mm, .ref mu, .ref mk, .ref mx, .long po, .long de])), (b, .inl (1, 108, .inl f)), (mgr, .inl (0, 108, .inl ((rgS f (fa_fill (fun _ => -1) gp 108, qn, 0) 108).1))), (mq, .inl (0, 108, .inl (fun k => nI ((rgS f (fa_fill (fun _ => -1) gp 108, qn, 0) 108).2.1 k))))]) rfl ?_
          refine r_if_eq (tgt := 57) d_Mm_looseIn_50 (by decide) (fun c_50 => ?_) (fun c_50 => ?_)
          · have hb : rgC f (rgS f (fa_fill (fun _ => -1) gp 108, qn, 0) 108).1 co i = false := by unfold rgC bsP; rw [decide_eq_false (show ¬ ¬ bsdS f i 4 = 0 from fun z => z c_50), Bool.and_false]
            refine r_iconst d_Mm_looseIn_57 (v := 0) (by decide) ?_
            refine r_iadd d_Mm_looseIn_58 (v := nI ((fa_cnt (rgC f (rgS f (fa_fill (fun _ => -1) gp 108, qn, 0) 108).1 co) i) + 0)) (nI_add _ _) ?_
            refine r_istore (lv' := [(5, .int (nI ((fa_cnt (rgC f (rgS f (fa_fill (fun _ => -1) gp 108, qn, 0) 108).1 co) i) + 0))), (6, .int (nI i)), (4, .int (nI co)), (3, .int (nI (fa_cnt (rgL f (rgS f (fa_fill (fun _ => -1) gp 108, qn, 0) 108).1) co))), (2, .int (nI (rgS f (fa_fill (fun _ => -1) gp 108, qn, 0) 108).2.2)), (0, .ref m), (1, .ref b)]) d_Mm_looseIn_59 (by decide) rfl ?_
            refine r_iinc (lv' := [(6, .int (nI (i + 1))), (5, .int (nI ((fa_cnt (rgC f (rgS f (fa_fill (fun _ => -1) gp 108, qn, 0) 108).1 co) i) + 0))), (4, .int (nI co)), (3, .int (nI (fa_cnt (rgL f (rgS f (fa_fill (fun _ => -1) gp 108, qn, 0) 108).1) co))), (2, .int (nI (rgS f (fa_fill (fun _ => -1) gp 108, qn, 0) 108).2.2)), (0, .ref m), (1, .ref b)]) (v := nI (i + 1)) d_Mm_looseIn_61 (j := 1) rfl (nI_add _ _) (by decide) rfl ?_
            refine r_goto (tgt := 23) d_Mm_looseIn_64 (by decide) ?_
            refine r_lvE (lv2 := [(6, .int (nI (i + 1))), (5, .int (nI (fa_cnt (rgC f (rgS f (fa_fill (fun _ => -1) gp 108, qn, 0) 108).1 co) (i + 1)))), (4, .int (nI co)), (3, .int (nI (fa_cnt (rgL f (rgS f (fa_fill (fun _ => -1) gp 108, qn, 0) 108).1) co))), (2, .int (nI (rgS f (fa_fill (fun _ => -1) gp 108, qn, 0) 108).2.2)), (0, .ref m), (1, .ref b)]) (by first | (rw [fa_cnt_yes (p := rgC f (rgS f (fa_fill (fun _ => -1) gp 108, qn, 0) 108).1 co) hb] <;> rfl) | (rw [fa_cnt_no (p := rgC f (rgS f (fa_fill (fun _ => -1) gp 108, qn, 0) 108).1 co) hb] <;> rfl)) ?_
            refine r_cs (cs2 := [(m, .inr (12, [.int th, .ref mp, .int pt, .ref mf, .ref mh, .ref mn, .ref mt, .ref mz, .ref mc_, .ref mq, .ref mgr, .int cl, .int wa, .int co_, .int fi, .int bu, .int ho, .ref ml, .ref mi, .ref mr, .int lh, .int mg, .int wd, .int fpi, .int fal, .ref mm, .ref mu, .ref mk, .ref mx, .long po, .long de])), (b, .inl (1, 108, .inl f)), (mgr, .inl (0, 108, .inl ((rgS f (fa_fill (fun _ => -1) gp 108, qn, 0) 108).1))), (mq, .inl (0, 108, .inl (fun k => nI ((rgS f (fa_fill (fun _ => -1) gp 108, qn, 0) 108).2.1 k))))]) (rfl) ?_
            exact ih (i + 1) (by omega) (by omega)
          · have hb : rgC f (rgS f (fa_fill (fun _ => -1) gp 108, qn, 0) 108).1 co i = true := by unfold rgC bsP; rw [decide_eq_true c_41, decide_eq_true c_50]; rfl
            refine r_iconst d_Mm_looseIn_53 (v := 1) (by decide) ?_
            refine r_goto (tgt := 58) d_Mm_looseIn_54 (by decide) ?_
            refine r_iadd d_Mm_looseIn_58 (v := nI ((fa_cnt (rgC f (rgS f (fa_fill (fun _ => -1) gp 108, qn, 0) 108).1 co) i) + 1)) (nI_add _ _) ?_
            refine r_istore (lv' := [(5, .int (nI ((fa_cnt (rgC f (rgS f (fa_fill (fun _ => -1) gp 108, qn, 0) 108).1 co) i) + 1))), (6, .int (nI i)), (4, .int (nI co)), (3, .int (nI (fa_cnt (rgL f (rgS f (fa_fill (fun _ => -1) gp 108, qn, 0) 108).1) co))), (2, .int (nI (rgS f (fa_fill (fun _ => -1) gp 108, qn, 0) 108).2.2)), (0, .ref m), (1, .ref b)]) d_Mm_looseIn_59 (by decide) rfl ?_
            refine r_iinc (lv' := [(6, .int (nI (i + 1))), (5, .int (nI ((fa_cnt (rgC f (rgS f (fa_fill (fun _ => -1) gp 108, qn, 0) 108).1 co) i) + 1))), (4, .int (nI co)), (3, .int (nI (fa_cnt (rgL f (rgS f (fa_fill (fun _ => -1) gp 108, qn, 0) 108).1) co))), (2, .int (nI (rgS f (fa_fill (fun _ => -1) gp 108, qn, 0) 108).2.2)), (0, .ref m), (1, .ref b)]) (v := nI (i + 1)) d_Mm_looseIn_61 (j := 1) rfl (nI_add _ _) (by decide) rfl ?_
            refine r_goto (tgt := 23) d_Mm_looseIn_64 (by decide) ?_
            refine r_lvE (lv2 := [(6, .int (nI (i + 1))), (5, .int (nI (fa_cnt (rgC f (rgS f (fa_fill (fun _ => -1) gp 108, qn, 0) 108).1 co) (i + 1)))), (4, .int (nI co)), (3, .int (nI (fa_cnt (rgL f (rgS f (fa_fill (fun _ => -1) gp 108, qn, 0) 108).1) co))), (2, .int (nI (rgS f (fa_fill (fun _ => -1) gp 108, qn, 0) 108).2.2)), (0, .ref m), (1, .ref b)]) (by first | (rw [fa_cnt_yes (p := rgC f (rgS f (fa_fill (fun _ => -1) gp 108, qn, 0) 108).1 co) hb] <;> rfl) | (rw [fa_cnt_no (p := rgC f (rgS f (fa_fill (fun _ => -1) gp 108, qn, 0) 108).1 co) hb] <;> rfl)) ?_
            refine r_cs (cs2 := [(m, .inr (12, [.int th, .ref mp, .int pt, .ref mf, .ref mh, .ref mn, .ref mt, .ref mz, .ref mc_, .ref mq, .ref mgr, .int cl, .int wa, .int co_, .int fi, .int bu, .int ho, .ref ml, .ref mi, .ref mr, .int lh, .int mg, .int wd, .int fpi, .int fal, .ref mm, .ref mu, .ref mk, .ref mx, .long po, .long de])), (b, .inl (1, 108, .inl f)), (mgr, .inl (0, 108, .inl ((rgS f (fa_fill (fun _ => -1) gp 108, qn, 0) 108).1))), (mq, .inl (0, 108, .inl (fun k => nI ((rgS f (fa_fill (fun _ => -1) gp 108, qn, 0) 108).2.1 k))))]) (rfl) ?_
            exact ih (i + 1) (by omega) (by omega)
set_option maxHeartbeats 4000000 in
set_option maxRecDepth 100000 in
theorem L_Mm_looseIn9_11 (g : zG) (m mp mf mh mn mt mz mc_ mq mgr ml mi mr mm mu mk mx : Nat) (th pt cl wa co_ fi bu ho lh mg wd fpi fal : Int32) (po de : Int64) (b : Nat) (f : Nat → Int32) (gp : Nat → Int32) (qn : Nat → Nat) (w0 : zW) (n : Nat) : ∀ (d co : Nat), co ≤ (rgS f (fa_fill (fun _ => -1) gp 108, qn, 0) 108).2.2 → (rgS f (fa_fill (fun _ => -1) gp 108, qn, 0) 108).2.2 < co + d → DV g M_Mm_looseIn (fun o cs1 => o = .inl (some (.int (nI (fa_cnt (rgL f (rgS f (fa_fill (fun _ => -1) gp 108, qn, 0) 108).1) (rgS f (fa_fill (fun _ => -1) gp 108, qn, 0) 108).2.2)))) ∧ cs1 = [(m, .inr (12, [.int th, .ref mp, .int pt, .ref mf, .ref mh, .ref mn, .ref mt, .ref mz, .ref mc_, .ref mq, .ref mgr, .int cl, .int wa, .int co_, .int fi, .int bu, .int ho, .ref ml, .ref mi, .ref mr, .int lh, .int mg, .int wd, .int fpi, .int fal, .ref mm, .ref mu, .ref mk, .ref mx, .long po, .long de])), (b, .inl (1, 108, .inl f)), (mgr, .inl (0, 108, .inl ((rgS f (fa_fill (fun _ => -1) gp 108, qn, 0) 108).1))), (mq, .inl (0, 108, .inl (fun k => nI ((rgS f (fa_fill (fun _ => -1) gp 108, qn, 0) 108).2.1 k))))]) w0 n 11 [(4, .int (nI co)), (3, .int (nI (fa_cnt (rgL f (rgS f (fa_fill (fun _ => -1) gp 108, qn, 0) 108).1) co))), (2, .int (nI (rgS f (fa_fill (fun _ => -1) gp 108, qn, 0) 108).2.2)), (0, .ref m), (1, .ref b)] [] [(m, .inr (12, [.int th, .ref mp, .int pt, .ref mf, .ref mh, .ref mn, .ref mt, .ref mz, .ref mc_, .ref mq, .ref mgr, .int cl, .int wa, .int co_, .int fi, .int bu, .int ho, .ref ml, .ref mi, .ref mr, .int lh, .int mg, .int wd, .int fpi, .int fal, .ref mm, .ref mu, .ref mk, .ref mx, .long po, .long de])), (b, .inl (1, 108, .inl f)), (mgr, .inl (0, 108, .inl ((rgS f (fa_fill (fun _ => -1) gp 108, qn, 0) 108).1))), (mq, .inl (0, 108, .inl (fun k => nI ((rgS f (fa_fill (fun _ => -1) gp 108, qn, 0) 108).2.1 k))))] 0 0 := by
  intro d
  induction d with
  | zero => intro co h1 h2 ; exact absurd h2 (by omega)
  | succ d ih =>
    intro co h1 h2 
    refine r_iload d_Mm_looseIn_11 0 rfl ?_
    refine r_iload_n d_Mm_looseIn_13 rfl 2 rfl ?_
    refine r_icmp_ge (tgt := 87) d_Mm_looseIn_14 (by decide) (fun c_14 => ?_) (fun c_14 => ?_)
    · have hle := rgS_le (f := f) (S0 := (fa_fill (fun _ => -1) gp 108, qn, 0)) rfl 108
      have hn := z_le (by omega) (by omega) c_14
      obtain hco : co = (rgS f (fa_fill (fun _ => -1) gp 108, qn, 0) 108).2.2 := by omega
      rw [hco]
      refine r_iload_n d_Mm_looseIn_87 rfl 1 rfl ?_
      refine r_iret d_Mm_looseIn_88 rfl rfl ?_
      exact ⟨rfl, rfl⟩
    · have hle := rgS_le (f := f) (S0 := (fa_fill (fun _ => -1) gp 108, qn, 0)) rfl 108
      have hn := z_nle (by omega) (by omega) c_14
      refine r_iconst d_Mm_looseIn_17 (v := 0) (by decide) ?_
      refine r_istore (lv' := [(5, .int 0), (4, .int (nI co)), (3, .int (nI (fa_cnt (rgL f (rgS f (fa_fill (fun _ => -1) gp 108, qn, 0) 108).1) co))), (2, .int (nI (rgS f (fa_fill (fun _ => -1) gp 108, qn, 0) 108).2.2)), (0, .ref m), (1, .ref b)]) d_Mm_looseIn_18 (by decide) rfl ?_
      refine r_iconst d_Mm_looseIn_20 (v := 0) (by decide) ?_
      refine r_istore (lv' := [(6, .int 0), (5, .int 0), (4, .int (nI co)), (3, .int (nI (fa_cnt (rgL f (rgS f (fa_fill (fun _ => -1) gp 108, qn, 0) 108).1) co))), (2, .int (nI (rgS f (fa_fill (fun _ => -1) gp 108, qn, 0) 108).2.2)), (0, .ref m), (1, .ref b)]) d_Mm_looseIn_21 (by decide) rfl ?_
      refine r_lvE (lv2 := [(6, .int (nI 0)), (5, .int (nI (fa_cnt (rgC f (rgS f (fa_fill (fun _ => -1) gp 108, qn, 0) 108).1 co) 0))), (4, .int (nI co)), (3, .int (nI (fa_cnt (rgL f (rgS f (fa_fill (fun _ => -1) gp 108, qn, 0) 108).1) co))), (2, .int (nI (rgS f (fa_fill (fun _ => -1) gp 108, qn, 0) 108).2.2)), (0, .ref m), (1, .ref b)]) (rfl) ?_
      refine r_cs (cs2 := [(m, .inr (12, [.int th, .ref mp, .int pt, .ref mf, .ref mh, .ref mn, .ref mt, .ref mz, .ref mc_, .ref mq, .ref mgr, .int cl, .int wa, .int co_, .int fi, .int bu, .int ho, .ref ml, .ref mi, .ref mr, .int lh, .int mg, .int wd, .int fpi, .int fal, .ref mm, .ref mu, .ref mk, .ref mx, .long po, .long de])), (b, .inl (1, 108, .inl f)), (mgr, .inl (0, 108, .inl ((rgS f (fa_fill (fun _ => -1) gp 108, qn, 0) 108).1))), (mq, .inl (0, 108, .inl (fun k => nI ((rgS f (fa_fill (fun _ => -1) gp 108, qn, 0) 108).2.1 k))))]) (rfl) ?_
      refine L_Mm_looseIn9_23 g m mp mf mh mn mt mz mc_ mq mgr ml mi mr mm mu mk mx th pt cl wa co_ fi bu ho lh mg wd fpi fal po de b f gp qn w0 _ co (by omega) (?_) (108 + 1) 0 (Nat.zero_le _) (by omega)
      refine r_iload_n d_Mm_looseIn_67 rfl 2 rfl ?_
      refine r_iload d_Mm_looseIn_68 0 rfl ?_
      refine r_iconst d_Mm_looseIn_70 (v := 2) (by decide) ?_
      refine r_icmp_ge (tgt := 78) d_Mm_looseIn_71 (by decide) (fun c_71 => ?_) (fun c_71 => ?_)
      · have hl := fa_cnt_le (rgC f (rgS f (fa_fill (fun _ => -1) gp 108, qn, 0) 108).1 co) 108
        have hz := z_le (a := 2) (by omega) (by decide) c_71
        have hb : rgL f (rgS f (fa_fill (fun _ => -1) gp 108, qn, 0) 108).1 co = false := by unfold rgL; exact decide_eq_false (by omega)
        refine r_iconst d_Mm_looseIn_78 (v := 0) (by decide) ?_
        refine r_iadd d_Mm_looseIn_79 (v := nI ((fa_cnt (rgL f (rgS f (fa_fill (fun _ => -1) gp 108, qn, 0) 108).1) co) + 0)) (nI_add _ _) ?_
        refine r_istore_n (lv' := [(3, .int (nI ((fa_cnt (rgL f (rgS f (fa_fill (fun _ => -1) gp 108, qn, 0) 108).1) co) + 0))), (5, .int (nI (fa_cnt (rgC f (rgS f (fa_fill (fun _ => -1) gp 108, qn, 0) 108).1 co) 108))), (4, .int (nI co)), (2, .int (nI (rgS f (fa_fill (fun _ => -1) gp 108, qn, 0) 108).2.2)), (0, .ref m), (1, .ref b)]) d_Mm_looseIn_80 rfl (by decide) rfl ?_
        refine r_iinc (lv' := [(4, .int (nI (co + 1))), (3, .int (nI ((fa_cnt (rgL f (rgS f (fa_fill (fun _ => -1) gp 108, qn, 0) 108).1) co) + 0))), (5, .int (nI (fa_cnt (rgC f (rgS f (fa_fill (fun _ => -1) gp 108, qn, 0) 108).1 co) 108))), (2, .int (nI (rgS f (fa_fill (fun _ => -1) gp 108, qn, 0) 108).2.2)), (0, .ref m), (1, .ref b)]) (v := nI (co + 1)) d_Mm_looseIn_81 (j := 2) rfl (nI_add _ _) (by decide) rfl ?_
        refine r_goto (tgt := 11) d_Mm_looseIn_84 (by decide) ?_
        refine r_lv (lv' := [(4, .int (nI (co + 1))), (3, .int (nI ((fa_cnt (rgL f (rgS f (fa_fill (fun _ => -1) gp 108, qn, 0) 108).1) co) + 0))), (2, .int (nI (rgS f (fa_fill (fun _ => -1) gp 108, qn, 0) 108).2.2)), (0, .ref m), (1, .ref b)]) [0, 1, 3, 4, 5] rfl ?_
        refine r_lvE (lv2 := [(4, .int (nI (co + 1))), (3, .int (nI (fa_cnt (rgL f (rgS f (fa_fill (fun _ => -1) gp 108, qn, 0) 108).1) (co + 1)))), (2, .int (nI (rgS f (fa_fill (fun _ => -1) gp 108, qn, 0) 108).2.2)), (0, .ref m), (1, .ref b)]) (by first | (rw [fa_cnt_yes (p := rgL f (rgS f (fa_fill (fun _ => -1) gp 108, qn, 0) 108).1) hb] <;> rfl) | (rw [fa_cnt_no (p := rgL f (rgS f (fa_fill (fun _ => -1) gp 108, qn, 0) 108).1) hb] <;> rfl)) ?_
        refine r_cs (cs2 := [(m, .inr (12, [.int th, .ref mp, .int pt, .ref mf, .ref mh, .ref mn, .ref mt, .ref mz, .ref mc_, .ref mq, .ref mgr, .int cl, .int wa, .int co_, .int fi, .int bu, .int ho, .ref ml, .ref mi, .ref mr, .int lh, .int mg, .int wd, .int fpi, .int fal, .ref mm, .ref mu, .ref mk, .ref mx, .long po, .long de])), (b, .inl (1, 108, .inl f)), (mgr, .inl (0, 108, .inl ((rgS f (fa_fill (fun _ => -1) gp 108, qn, 0) 108).1))), (mq, .inl (0, 108, .inl (fun k => nI ((rgS f (fa_fill (fun _ => -1) gp 108, qn, 0) 108).2.1 k))))]) (rfl) ?_
        exact ih (co + 1) (by omega) (by omega)
      · have hl := fa_cnt_le (rgC f (rgS f (fa_fill (fun _ => -1) gp 108, qn, 0) 108).1 co) 108
        have hz := z_nle (a := 2) (by omega) (by decide) c_71
        have hb : rgL f (rgS f (fa_fill (fun _ => -1) gp 108, qn, 0) 108).1 co = true := by unfold rgL; exact decide_eq_true (by omega)
        refine r_iconst d_Mm_looseIn_74 (v := 1) (by decide) ?_
        refine r_goto (tgt := 79) d_Mm_looseIn_75 (by decide) ?_
        refine r_iadd d_Mm_looseIn_79 (v := nI ((fa_cnt (rgL f (rgS f (fa_fill (fun _ => -1) gp 108, qn, 0) 108).1) co) + 1)) (nI_add _ _) ?_
        refine r_istore_n (lv' := [(3, .int (nI ((fa_cnt (rgL f (rgS f (fa_fill (fun _ => -1) gp 108, qn, 0) 108).1) co) + 1))), (5, .int (nI (fa_cnt (rgC f (rgS f (fa_fill (fun _ => -1) gp 108, qn, 0) 108).1 co) 108))), (4, .int (nI co)), (2, .int (nI (rgS f (fa_fill (fun _ => -1) gp 108, qn, 0) 108).2.2)), (0, .ref m), (1, .ref b)]) d_Mm_looseIn_80 rfl (by decide) rfl ?_
        refine r_iinc (lv' := [(4, .int (nI (co + 1))), (3, .int (nI ((fa_cnt (rgL f (rgS f (fa_fill (fun _ => -1) gp 108, qn, 0) 108).1) co) + 1))), (5, .int (nI (fa_cnt (rgC f (rgS f (fa_fill (fun _ => -1) gp 108, qn, 0) 108).1 co) 108))), (2, .int (nI (rgS f (fa_fill (fun _ => -1) gp 108, qn, 0) 108).2.2)), (0, .ref m), (1, .ref b)]) (v := nI (co + 1)) d_Mm_looseIn_81 (j := 2) rfl (nI_add _ _) (by decide) rfl ?_
        refine r_goto (tgt := 11) d_Mm_looseIn_84 (by decide) ?_
        refine r_lv (lv' := [(4, .int (nI (co + 1))), (3, .int (nI ((fa_cnt (rgL f (rgS f (fa_fill (fun _ => -1) gp 108, qn, 0) 108).1) co) + 1))), (2, .int (nI (rgS f (fa_fill (fun _ => -1) gp 108, qn, 0) 108).2.2)), (0, .ref m), (1, .ref b)]) [0, 1, 3, 4, 5] rfl ?_
        refine r_lvE (lv2 := [(4, .int (nI (co + 1))), (3, .int (nI (fa_cnt (rgL f (rgS f (fa_fill (fun _ => -1) gp 108, qn, 0) 108).1) (co + 1)))), (2, .int (nI (rgS f (fa_fill (fun _ => -1) gp 108, qn, 0) 108).2.2)), (0, .ref m), (1, .ref b)]) (by first | (rw [fa_cnt_yes (p := rgL f (rgS f (fa_fill (fun _ => -1) gp 108, qn, 0) 108).1) hb] <;> rfl) | (rw [fa_cnt_no (p := rgL f (rgS f (fa_fill (fun _ => -1) gp 108, qn, 0) 108).1) hb] <;> rfl)) ?_
        refine r_cs (cs2 := [(m, .inr (12, [.int th, .ref mp, .int pt, .ref mf, .ref mh, .ref mn, .ref mt, .ref mz, .ref mc_, .ref mq, .ref mgr, .int cl, .int wa, .int co_, .int fi, .int bu, .int ho, .ref ml, .ref mi, .ref mr, .int lh, .int mg, .int wd, .int fpi, .int fal, .ref mm, .ref mu, .ref mk, .ref mx, .long po, .long de])), (b, .inl (1, 108, .inl f)), (mgr, .inl (0, 108, .inl ((rgS f (fa_fill (fun _ => -1) gp 108, qn, 0) 108).1))), (mq, .inl (0, 108, .inl (fun k => nI ((rgS f (fa_fill (fun _ => -1) gp 108, qn, 0) 108).2.1 k))))]) (rfl) ?_
        exact ih (co + 1) (by omega) (by omega)
set_option maxHeartbeats 4000000 in
set_option maxRecDepth 100000 in
theorem C_Mm_looseIn9 (g : zG) (m mp mf mh mn mt mz mc_ mq mgr ml mi mr mm mu mk mx : Nat) (th pt cl wa co_ fi bu ho lh mg wd fpi fal : Int32) (po de : Int64) (b : Nat) (f : Nat → Int32) (gp : Nat → Int32) (qn : Nat → Nat) : CT g M_Mm_looseIn [.ref m, .ref b] [(m, .inr (12, [.int th, .ref mp, .int pt, .ref mf, .ref mh, .ref mn, .ref mt, .ref mz, .ref mc_, .ref mq, .ref mgr, .int cl, .int wa, .int co_, .int fi, .int bu, .int ho, .ref ml, .ref mi, .ref mr, .int lh, .int mg, .int wd, .int fpi, .int fal, .ref mm, .ref mu, .ref mk, .ref mx, .long po, .long de])), (b, .inl (1, 108, .inl f)), (mgr, .inl (0, 108, .inl gp)), (mq, .inl (0, 108, .inl (fun k => nI (qn k))))] (fun o cs1 => o = .inl (some (.int (nI (fa_cnt (rgL f (rgS f (fa_fill (fun _ => -1) gp 108, qn, 0) 108).1) (rgS f (fa_fill (fun _ => -1) gp 108, qn, 0) 108).2.2)))) ∧ cs1 = [(m, .inr (12, [.int th, .ref mp, .int pt, .ref mf, .ref mh, .ref mn, .ref mt, .ref mz, .ref mc_, .ref mq, .ref mgr, .int cl, .int wa, .int co_, .int fi, .int bu, .int ho, .ref ml, .ref mi, .ref mr, .int lh, .int mg, .int wd, .int fpi, .int fal, .ref mm, .ref mu, .ref mk, .ref mx, .long po, .long de])), (b, .inl (1, 108, .inl f)), (mgr, .inl (0, 108, .inl ((rgS f (fa_fill (fun _ => -1) gp 108, qn, 0) 108).1))), (mq, .inl (0, 108, .inl (fun k => nI ((rgS f (fa_fill (fun _ => -1) gp 108, qn, 0) 108).2.1 k))))]) 0 0 := by
  refine z_of (by decide) rfl (Nat.le_of_ble_eq_true rfl) (fun w0 => ?_)
  refine r_lvE (lv2 := [(0, .ref m), (1, .ref b)]) rfl ?_
  refine r_aload_n d_Mm_looseIn_0 rfl 0 rfl ?_
  refine r_aload_n d_Mm_looseIn_1 rfl 1 rfl ?_
  refine r_callV (As := [.ref b]) (rest := []) (csC := [(m, .inr (12, [.int th, .ref mp, .int pt, .ref mf, .ref mh, .ref mn, .ref mt, .ref mz, .ref mc_, .ref mq, .ref mgr, .int cl, .int wa, .int co_, .int fi, .int bu, .int ho, .ref ml, .ref mi, .ref mr, .int lh, .int mg, .int wd, .int fpi, .int fal, .ref mm, .ref mu, .ref mk, .ref mx, .long po, .long de])), (b, .inl (1, 108, .inl f)), (mgr, .inl (0, 108, .inl gp)), (mq, .inl (0, 108, .inl (fun k => nI (qn k))))]) (is := [0, 1, 2, 3]) (q0 := 0) rfl rfl ln_Mm_123 w_im_Mm_groupIn w_se_Mm_groupIn ok_Mm_looseIn_Mm_groupIn d_Mm_looseIn_2 (C_Mm_groupIn9 g m mp mf mh mn mt mz mc_ mq mgr ml mi mr mm mu mk mx th pt cl wa co_ fi bu ho lh mg wd fpi fal po de b f gp qn) rfl rfl (Nat.le_of_ble_eq_true rfl) rfl (by decide) (by omega) (by omega) (fun E cs1 hx => ?_) (fun v cs1 hx => ?_)
  · exact absurd hx.1 (by simp)
  · obtain ⟨e1, rfl⟩ := hx
    cases e1
    refine ⟨rfl, ?_⟩
    refine r_st (st2 := [.int (nI (rgS f (fa_fill (fun _ => -1) gp 108, qn, 0) 108).2.2)]) rfl ?_
    refine r_cs (cs2 := [(m, .inr (12, [.int th, .ref mp, .int pt, .ref mf, .ref mh, .ref mn, .ref mt, .ref mz, .ref mc_, .ref mq, .ref mgr, .int cl, .int wa, .int co_, .int fi, .int bu, .int ho, .ref ml, .ref mi, .ref mr, .int lh, .int mg, .int wd, .int fpi, .int fal, .ref mm, .ref mu, .ref mk, .ref mx, .long po, .long de])), (b, .inl (1, 108, .inl f)), (mgr, .inl (0, 108, .inl ((rgS f (fa_fill (fun _ => -1) gp 108, qn, 0) 108).1))), (mq, .inl (0, 108, .inl (fun k => nI ((rgS f (fa_fill (fun _ => -1) gp 108, qn, 0) 108).2.1 k))))]) rfl ?_
    refine r_istore_n (lv' := [(2, .int (nI (rgS f (fa_fill (fun _ => -1) gp 108, qn, 0) 108).2.2)), (0, .ref m), (1, .ref b)]) d_Mm_looseIn_5 rfl (by decide) rfl ?_
    refine r_iconst d_Mm_looseIn_6 (v := 0) (by decide) ?_
    refine r_istore_n (lv' := [(3, .int 0), (2, .int (nI (rgS f (fa_fill (fun _ => -1) gp 108, qn, 0) 108).2.2)), (0, .ref m), (1, .ref b)]) d_Mm_looseIn_7 rfl (by decide) rfl ?_
    refine r_iconst d_Mm_looseIn_8 (v := 0) (by decide) ?_
    refine r_istore (lv' := [(4, .int 0), (3, .int 0), (2, .int (nI (rgS f (fa_fill (fun _ => -1) gp 108, qn, 0) 108).2.2)), (0, .ref m), (1, .ref b)]) d_Mm_looseIn_9 (by decide) rfl ?_
    refine r_lvE (lv2 := [(4, .int (nI 0)), (3, .int (nI (fa_cnt (rgL f (rgS f (fa_fill (fun _ => -1) gp 108, qn, 0) 108).1) 0))), (2, .int (nI (rgS f (fa_fill (fun _ => -1) gp 108, qn, 0) 108).2.2)), (0, .ref m), (1, .ref b)]) (rfl) ?_
    refine r_cs (cs2 := [(m, .inr (12, [.int th, .ref mp, .int pt, .ref mf, .ref mh, .ref mn, .ref mt, .ref mz, .ref mc_, .ref mq, .ref mgr, .int cl, .int wa, .int co_, .int fi, .int bu, .int ho, .ref ml, .ref mi, .ref mr, .int lh, .int mg, .int wd, .int fpi, .int fal, .ref mm, .ref mu, .ref mk, .ref mx, .long po, .long de])), (b, .inl (1, 108, .inl f)), (mgr, .inl (0, 108, .inl ((rgS f (fa_fill (fun _ => -1) gp 108, qn, 0) 108).1))), (mq, .inl (0, 108, .inl (fun k => nI ((rgS f (fa_fill (fun _ => -1) gp 108, qn, 0) 108).2.1 k))))]) (rfl) ?_
    exact L_Mm_looseIn9_11 g m mp mf mh mn mt mz mc_ mq mgr ml mi mr mm mu mk mx th pt cl wa co_ fi bu ho lh mg wd fpi fal po de b f gp qn w0 _  ((rgS f (fa_fill (fun _ => -1) gp 108, qn, 0) 108).2.2 + 1) 0 (Nat.zero_le _) (by omega)
end
section
def chkM (fl : Nat → Int32) (c : Nat) (st : Int32) (s : Nat) : Bool := (bs c s).elim false (fun o => decide (¬ fl o = -1 ∧ fl o < st))
theorem chkM_n {fl : Nat → Int32} {c : Nat} {st : Int32} {s : Nat} (h : bs c s = none) : chkM fl c st s = false := by rw [chkM, h]; rfl
theorem chkM_s {fl : Nat → Int32} {c : Nat} {st : Int32} {s o : Nat} (h : bs c s = some o) : chkM fl c st s = decide (¬ fl o = -1 ∧ fl o < st) := by rw [chkM, h]; rfl
def canS (fl : Nat → Int32) (c : Nat) (st : Int32) : Nat → Bool
  | 0 => false
  | s + 1 => canS fl c st s || chkM fl c st s
theorem canS_t {fl : Nat → Int32} {c : Nat} {st : Int32} {s : Nat} (h : canS fl c st s = true) : canS fl c st (s + 1) = true := by rw [canS, h]; rfl
theorem canS_h {fl : Nat → Int32} {c : Nat} {st : Int32} {s : Nat} (h : chkM fl c st s = true) : canS fl c st (s + 1) = true := by rw [canS, h, Bool.or_true]
theorem canS_f {fl : Nat → Int32} {c : Nat} {st : Int32} {s : Nat} (h : canS fl c st s = false) (h2 : chkM fl c st s = false) : canS fl c st (s + 1) = false := by rw [canS, h, h2]; rfl
def nfB (f fl : Nat → Int32) (st : Int32) (c : Nat) : Bool := tmB (f c) && (decide (fl c = -1) && canS fl c st 4)
theorem nfB_y {f fl : Nat → Int32} {st : Int32} {c : Nat} (h1 : tmB (f c) = true) (h2 : fl c = -1) : nfB f fl st c = canS fl c st 4 := by rw [nfB, h1, decide_eq_true h2]; rfl
theorem nfB_m {f fl : Nat → Int32} {st : Int32} {c : Nat} (h1 : tmB (f c) = false) : nfB f fl st c = false := by rw [nfB, h1]; rfl
theorem nfB_x {f fl : Nat → Int32} {st : Int32} {c : Nat} (h2 : ¬ fl c = -1) : nfB f fl st c = false := by rw [nfB, decide_eq_false h2, Bool.false_and, Bool.and_false]
theorem nfB_p {f fl : Nat → Int32} {st : Int32} {c : Nat} (h : nfB f fl st c = true) : tmB (f c) = true ∧ fl c = -1 ∧ canS fl c st 4 = true := by
  unfold nfB at h
  rw [Bool.and_eq_true, Bool.and_eq_true] at h
  exact ⟨h.1, of_decide_eq_true h.2.1, h.2.2⟩
def scC (k : Nat) : Nat := 12 * (8 - k / 12) + k % 12
theorem scC_e {r x : Nat} (hx : x < 12) : scC (12 * r + x) = 12 * (8 - r) + x := by
  unfold scC
  rw [show (12 * r + x) / 12 = r by omega, show (12 * r + x) % 12 = x by omega]
theorem scC_lt {k : Nat} (h : k < 108) : scC k < 108 := by unfold scC; omega
def ntF (f fl : Nat → Int32) (st : Int32) : Nat → Option Nat
  | 0 => none
  | n + 1 => match ntF f fl st n with
    | some c => some c
    | none => if nfB f fl st (scC n) = true then some (scC n) else none
theorem ntF_n {f fl : Nat → Int32} {st : Int32} : ∀ n, (∀ k, k < n → nfB f fl st (scC k) = false) → ntF f fl st n = none
  | 0, _ => rfl
  | n + 1, h => by
    rw [ntF, ntF_n n (fun k hk => h k (by omega))]
    show (if nfB f fl st (scC n) = true then some (scC n) else none) = none
    rw [h n (Nat.lt_succ_self n), if_neg (by decide)]
theorem ntF_y {f fl : Nat → Int32} {st : Int32} {n : Nat} (h : ∀ k, k < n → nfB f fl st (scC k) = false) (h1 : nfB f fl st (scC n) = true) : ∀ d, ntF f fl st (n + 1 + d) = some (scC n)
  | 0 => by
    rw [Nat.add_zero, ntF, ntF_n n h]
    exact if_pos h1
  | d + 1 => by
    have ih := ntF_y h h1 d
    rw [show n + 1 + (d + 1) = (n + 1 + d) + 1 by omega, ntF, ih]
theorem ntF_hit {f fl : Nat → Int32} {st : Int32} {n : Nat} (hn : n < 108) (h : ∀ k, k < n → nfB f fl st (scC k) = false) (h1 : nfB f fl st (scC n) = true) : ntF f fl st 108 = some (scC n) := by
  have := ntF_y h h1 (108 - (n + 1))
  rwa [show n + 1 + (108 - (n + 1)) = 108 by omega] at this
theorem ntF_s {f fl : Nat → Int32} {st : Int32} {c : Nat} : ∀ n, n ≤ 108 → ntF f fl st n = some c → c < 108 ∧ nfB f fl st c = true
  | 0, _, h => by cases h
  | n + 1, hn, h => by
    rw [ntF] at h
    cases e : ntF f fl st n with
    | some c2 =>
      rw [e] at h
      cases h
      exact ntF_s n (by omega) e
    | none =>
      rw [e] at h
      by_cases q : nfB f fl st (scC n) = true
      · have h2 : (if nfB f fl st (scC n) = true then some (scC n) else none) = some c := h
        rw [if_pos q] at h2
        cases h2
        exact ⟨scC_lt (by omega), q⟩
      · have h2 : (if nfB f fl st (scC n) = true then some (scC n) else none) = some c := h
        rw [if_neg q] at h2
        cases h2
abbrev zRf : Type := (Nat → Int32) × Int32
def rfS (f : Nat → Int32) (st : Int32) (a : Nat → Int32) : Nat → zRf
  | 0 => (a, 0)
  | z + 1 => (ntF f (rfS f st a z).1 st 108).elim (rfS f st a z) (fun c => (upd (rfS f st a z).1 c st, 1))
theorem rfS_n {f : Nat → Int32} {st : Int32} {a : Nat → Int32} {z : Nat} (h : ntF f (rfS f st a z).1 st 108 = none) : rfS f st a (z + 1) = rfS f st a z := by rw [rfS, h]; rfl
theorem rfS_s {f : Nat → Int32} {st : Int32} {a : Nat → Int32} {z c : Nat} (h : ntF f (rfS f st a z).1 st 108 = some c) : rfS f st a (z + 1) = (upd (rfS f st a z).1 c st, 1) := by rw [rfS, h]; rfl
theorem rfS_stop {f : Nat → Int32} {st : Int32} {a : Nat → Int32} {z : Nat} (h : ntF f (rfS f st a z).1 st 108 = none) : ∀ d, rfS f st a (z + d) = rfS f st a z
  | 0 => rfl
  | d + 1 => by
    have ih := rfS_stop h d
    rw [show z + (d + 1) = (z + d) + 1 by omega, rfS_n (by rw [ih]; exact h), ih]
def rfT (f : Nat → Int32) (mo : Nat) (a : Nat → Int32) (g0 : Int32) : Nat → zRf
  | 0 => (a, g0)
  | T + 1 => if (rfT f mo a g0 T).2 = 0 then rfT f mo a g0 T else rfS f (nI (T + 1)) (rfT f mo a g0 T).1 mo
theorem rfT_n {f : Nat → Int32} {mo : Nat} {a : Nat → Int32} {g0 : Int32} {T : Nat} (h : ¬ (rfT f mo a g0 T).2 = 0) : rfT f mo a g0 (T + 1) = rfS f (nI (T + 1)) (rfT f mo a g0 T).1 mo := if_neg h
theorem rfT_z {f : Nat → Int32} {mo : Nat} {a : Nat → Int32} {g0 : Int32} {T : Nat} (h : (rfT f mo a g0 T).2 = 0) : rfT f mo a g0 (T + 1) = rfT f mo a g0 T := if_pos h
theorem rfT_stop {f : Nat → Int32} {mo : Nat} {a : Nat → Int32} {g0 : Int32} {T : Nat} (h : (rfT f mo a g0 T).2 = 0) : ∀ d, rfT f mo a g0 (T + d) = rfT f mo a g0 T
  | 0 => rfl
  | d + 1 => by
    have ih := rfT_stop h d
    rw [show T + (d + 1) = (T + d) + 1 by omega, rfT_z (by rw [ih]; exact h), ih]
theorem rfS_m {f : Nat → Int32} {st : Int32} {a : Nat → Int32} (hst : ¬ st = -1) : ∀ z, cnM (rfS f st a z).1 ≤ cnM a ∧ ((rfS f st a z).2 = 0 ∨ (rfS f st a z).2 = 1) ∧ (¬ (rfS f st a z).2 = 0 → cnM (rfS f st a z).1 < cnM a)
  | 0 => ⟨Nat.le_refl _, Or.inl rfl, fun h => absurd rfl h⟩
  | z + 1 => by
    have ih := rfS_m (f := f) (a := a) hst z
    cases e : ntF f (rfS f st a z).1 st 108 with
    | none => rw [rfS_n e]; exact ih
    | some c =>
      have h1 := ntF_s 108 (Nat.le_refl _) e
      have h2 := cn_up h1.1 (nfB_p h1.2).2.1 hst
      rw [rfS_s e]
      exact ⟨by show cnM (upd _ c st) ≤ _; omega, Or.inr rfl, fun _ => by show cnM (upd _ c st) < _; omega⟩
theorem rfT_m {f : Nat → Int32} {mo : Nat} {a : Nat → Int32} {g0 : Int32} (h0 : ¬ g0 = 0 → cnM a ≤ 107) : ∀ T, T ≤ 109 → ¬ (rfT f mo a g0 T).2 = 0 → T + cnM (rfT f mo a g0 T).1 ≤ 107
  | 0, _, h => by have := h0 h; show 0 + cnM a ≤ 107; omega
  | T + 1, hT, h => by
    by_cases q : (rfT f mo a g0 T).2 = 0
    · rw [rfT_z q] at h; exact absurd q h
    · have ih := rfT_m (f := f) (mo := mo) h0 T (by omega) q
      rw [rfT_n q] at h ⊢
      have := (rfS_m (f := f) (a := (rfT f mo a g0 T).1) (nI_nm1 (a := T + 1) (by omega)) mo).2.2 h
      omega
theorem ogS_c (f a : Nat → Int32) : ∀ i, (ogS f a i).2 = fa_cnt (fun k => decide (f k = 103)) i
  | 0 => rfl
  | i + 1 => by
    have ih := ogS_c f a i
    by_cases q : f i = 103
    · rw [ogS, if_pos q, fa_cnt_yes (p := fun k => decide (f k = 103)) (decide_eq_true q), ← ih]
    · rw [ogS, if_neg q, fa_cnt_no (p := fun k => decide (f k = 103)) (decide_eq_false q), ← ih]
theorem ogS_no {f a : Nat → Int32} : ∀ i, (∀ k, k < i → ¬ f k = 103) → ogS f a i = (a, 0)
  | 0, _ => rfl
  | i + 1, h => by rw [ogS, if_neg (h i (Nat.lt_succ_self i)), ogS_no i (fun k hk => h k (by omega))]
theorem ogS_hit {f a : Nat → Int32} {x : Nat} (h : ∀ k, k < x → ¬ f k = 103) (h1 : f x = 103) : ∀ d, (ogS f a (x + 1 + d)).1 = upd a x 0 ∧ ¬ (ogS f a (x + 1 + d)).2 = 0
  | 0 => by
    rw [Nat.add_zero, ogS, if_pos h1, ogS_no x h]
    exact ⟨by show (if (0 : Nat) = 0 then upd a x 0 else a) = upd a x 0; rw [if_pos rfl], show ¬ (0 + 1 = 0) from Nat.succ_ne_zero 0⟩
  | d + 1 => by
    have ih := ogS_hit (a := a) h h1 d
    rw [show x + 1 + (d + 1) = (x + 1 + d) + 1 by omega, ogS]
    by_cases q : f (x + 1 + d) = 103
    · rw [if_pos q, if_neg ih.2]; exact ⟨ih.1, Nat.succ_ne_zero _⟩
    · rw [if_neg q]; exact ih
theorem ogS_h12 {f a : Nat → Int32} {x : Nat} (hx : x < 12) (h : ∀ k, k < x → ¬ f k = 103) (h1 : f x = 103) : (ogS f a 12).1 = upd a x 0 := by
  have := (ogS_hit (a := a) h h1 (12 - (x + 1))).1
  rwa [show x + 1 + (12 - (x + 1)) = 12 by omega] at this
theorem cnt_0 {p : Nat → Bool} : ∀ n, fa_cnt p n = 0 → ∀ k, k < n → p k = false
  | 0, _, k, hk => absurd hk (Nat.not_lt_zero k)
  | n + 1, h, k, hk => by
    rw [fa_cnt] at h
    cases e : p n with
    | true => rw [e, if_pos rfl] at h; omega
    | false =>
      by_cases q : k = n
      · rw [q]; exact e
      · exact cnt_0 n (by omega) k (by omega)
def flC (f : Nat → Int32) (fl : Nat → Int32) : Nat → Int32 := (rfT f (fa_cnt (fun k => decide (f k = 103)) 12) (ogS f (fa_fill (fun _ => -1) fl 108) 12).1 (if 0 < fa_cnt (fun k => decide (f k = 103)) 12 then 1 else 0) 109).1
theorem og_cn {f fl : Nat → Int32} (h : 0 < fa_cnt (fun k => decide (f k = 103)) 12) : cnM (ogS f (fa_fill (fun _ => -1) fl 108) 12).1 ≤ 107 := by
  have key : ∀ n, n ≤ 12 → ∃ x, x < n ∧ f x = 103 ∧ (∀ k, k < x → ¬ f k = 103) ∨ ∀ k, k < n → ¬ f k = 103 := by
    intro n
    induction n with
    | zero => exact fun _ => ⟨0, Or.inr (fun k hk => absurd hk (Nat.not_lt_zero k))⟩
    | succ n ih =>
      intro hn
      obtain ⟨x, hx⟩ := ih (by omega)
      rcases hx with ⟨h1, h2, h3⟩ | hx
      · exact ⟨x, Or.inl ⟨by omega, h2, h3⟩⟩
      · by_cases q : f n = 103
        · exact ⟨n, Or.inl ⟨by omega, q, hx⟩⟩
        · refine ⟨0, Or.inr (fun k hk => ?_)⟩
          by_cases e : k = n
          · rw [e]; exact q
          · exact hx k (by omega)
  obtain ⟨x, hx⟩ := key 12 (Nat.le_refl _)
  rcases hx with ⟨h1, h2, h3⟩ | hx
  · rw [ogS_h12 h1 h3 h2]
    have := cn_up (fl := fa_fill (fun _ => -1) fl 108) (c := x) (v := 0) (by omega) (fa_fill_in (by omega)) (by decide)
    have := cn_le (fa_fill (fun _ => -1) fl 108)
    omega
  · have e := (ogS_c f f 12).symm.trans (congrArg Prod.snd (ogS_no (a := f) 12 hx))
    have e2 : fa_cnt (fun k => decide (f k = 103)) 12 = 0 := e
    omega
theorem flC_m {f fl : Nat → Int32} {T : Nat} (hT : T ≤ 109) (h : ¬ (rfT f (fa_cnt (fun k => decide (f k = 103)) 12) (ogS f (fa_fill (fun _ => -1) fl 108) 12).1 (if 0 < fa_cnt (fun k => decide (f k = 103)) 12 then 1 else 0) T).2 = 0) : T + cnM (rfT f (fa_cnt (fun k => decide (f k = 103)) 12) (ogS f (fa_fill (fun _ => -1) fl 108) 12).1 (if 0 < fa_cnt (fun k => decide (f k = 103)) 12 then 1 else 0) T).1 ≤ 107 := by
  refine rfT_m (fun q => ?_) T hT h
  by_cases q2 : 0 < fa_cnt (fun k => decide (f k = 103)) 12
  · exact og_cn q2
  · rw [if_neg q2] at q; exact absurd rfl q
theorem oI_nnF {c s : Nat} (hc : c < 108) (h : oI (bs c s) = -1) : bs c s = none := by
  cases e : bs c s with
  | none => rfl
  | some o =>
    rw [e] at h
    exact absurd h (nI_nm1 (a := o) (by have := bs_lt hc e; omega))
theorem ntF_nm {f fl : Nat → Int32} {st : Int32} (h : ¬ oI (ntF f fl st 108) = -1) : ∃ c, ntF f fl st 108 = some c := by
  cases e : ntF f fl st 108 with
  | none => rw [e] at h; exact absurd rfl h
  | some c => exact ⟨c, rfl⟩
set_option maxHeartbeats 4000000 in
set_option maxRecDepth 100000 in
theorem L_Mm_nextToFill9_32 (g : zG) (m mp mf mh mn mt mz mc_ mq mgr ml mi mr mm mu mk mx : Nat) (th pt cl wa co_ fi bu ho lh mg wd fpi fal : Int32) (po de : Int64) (b : Nat) (f : Nat → Int32) (fl : Nat → Int32) (st : Int32) (w0 : zW) (n : Nat) (y x : Nat) (hy : y < 9) (hx : x < 12) (K : DV g M_Mm_nextToFill (fun o cs1 => o = .inl (some (.int (oI (ntF f fl st 108)))) ∧ cs1 = [(m, .inr (12, [.int th, .ref mp, .int pt, .ref mf, .ref mh, .ref mn, .ref mt, .ref mz, .ref mc_, .ref mq, .ref mgr, .int cl, .int wa, .int co_, .int fi, .int bu, .int ho, .ref ml, .ref mi, .ref mr, .int lh, .int mg, .int wd, .int fpi, .int fal, .ref mm, .ref mu, .ref mk, .ref mx, .long po, .long de])), (b, .inl (1, 108, .inl f)), (mf, .inl (0, 108, .inl fl))]) w0 n 114 [(6, .int (z_bi (nfB f fl st (12 * y + x)))), (5, .int (nI (12 * y + x))), (4, .int (nI x)), (3, .int (nI y)), (0, .ref m), (1, .ref b), (2, .int st)] [] [(m, .inr (12, [.int th, .ref mp, .int pt, .ref mf, .ref mh, .ref mn, .ref mt, .ref mz, .ref mc_, .ref mq, .ref mgr, .int cl, .int wa, .int co_, .int fi, .int bu, .int ho, .ref ml, .ref mi, .ref mr, .int lh, .int mg, .int wd, .int fpi, .int fal, .ref mm, .ref mu, .ref mk, .ref mx, .long po, .long de])), (b, .inl (1, 108, .inl f)), (mf, .inl (0, 108, .inl fl))] 0 0) : ∀ (d i : Nat), i ≤ 4 → 4 < i + d → i = 0 ∨ (tmB (f (12 * y + x)) = true ∧ fl (12 * y + x) = -1) → DV g M_Mm_nextToFill (fun o cs1 => o = .inl (some (.int (oI (ntF f fl st 108)))) ∧ cs1 = [(m, .inr (12, [.int th, .ref mp, .int pt, .ref mf, .ref mh, .ref mn, .ref mt, .ref mz, .ref mc_, .ref mq, .ref mgr, .int cl, .int wa, .int co_, .int fi, .int bu, .int ho, .ref ml, .ref mi, .ref mr, .int lh, .int mg, .int wd, .int fpi, .int fal, .ref mm, .ref mu, .ref mk, .ref mx, .long po, .long de])), (b, .inl (1, 108, .inl f)), (mf, .inl (0, 108, .inl fl))]) w0 n 32 [(7, .int (nI i)), (6, .int (z_bi (canS fl (12 * y + x) st i))), (5, .int (nI (12 * y + x))), (4, .int (nI x)), (3, .int (nI y)), (0, .ref m), (1, .ref b), (2, .int st)] [] [(m, .inr (12, [.int th, .ref mp, .int pt, .ref mf, .ref mh, .ref mn, .ref mt, .ref mz, .ref mc_, .ref mq, .ref mgr, .int cl, .int wa, .int co_, .int fi, .int bu, .int ho, .ref ml, .ref mi, .ref mr, .int lh, .int mg, .int wd, .int fpi, .int fal, .ref mm, .ref mu, .ref mk, .ref mx, .long po, .long de])), (b, .inl (1, 108, .inl f)), (mf, .inl (0, 108, .inl fl))] 0 0 := by
  intro d
  induction d with
  | zero => intro i h1 h2 h3; exact absurd h2 (by omega)
  | succ d ih =>
    intro i h1 h2 h3
    refine r_iload d_Mm_nextToFill_32 0 rfl ?_
    refine r_iconst d_Mm_nextToFill_34 (v := 4) (by decide) ?_
    refine r_icmp_ge (tgt := 114) d_Mm_nextToFill_35 (by decide) (fun c_35 => ?_) (fun c_35 => ?_)
    · have hn := z_le (a := 4) (by omega) (by decide) c_35
      obtain rfl : i = 4 := by omega
      have hg := h3.resolve_left (by decide)
      have hk : nfB f fl st (12 * y + x) = canS fl (12 * y + x) st 4 := nfB_y hg.1 hg.2
      refine r_lv (lv' := [(6, .int (z_bi (canS fl (12 * y + x) st 4))), (5, .int (nI (12 * y + x))), (4, .int (nI x)), (3, .int (nI y)), (0, .ref m), (1, .ref b), (2, .int st)]) [1, 2, 3, 4, 5, 6, 7] rfl ?_
      refine r_lvE (lv2 := [(6, .int (z_bi (nfB f fl st (12 * y + x)))), (5, .int (nI (12 * y + x))), (4, .int (nI x)), (3, .int (nI y)), (0, .ref m), (1, .ref b), (2, .int st)]) (by rw [hk]) ?_
      exact K
    · have hn := z_nle (a := 4) (by omega) (by decide) c_35
      refine r_aload_n d_Mm_nextToFill_38 rfl 6 rfl ?_
      refine r_iload d_Mm_nextToFill_39 2 rfl ?_
      refine r_cald d_Mm_nextToFill_41 (q0 := 1) rfl (vp_in_nI (by omega) (by omega)) (v := f (12 * y + x)) (by rw [nI_clamp (by omega)]) ?_
      refine r_callS (As := [.int (f (12 * y + x))]) (rest := []) (csC := []) (is := []) ln_Mm_107 w_st_Mm_isMetal ok_Mm_nextToFill_Mm_isMetal d_Mm_nextToFill_42 (C_Mm_isMetal g (f (12 * y + x))) rfl rfl (Nat.le_of_ble_eq_true rfl) rfl (by decide) (by omega) (by omega) (fun E cs1 hx => ?_) (fun v cs1 hx => ?_)
      · exact absurd hx.1 (by simp)
      · obtain ⟨e1, rfl⟩ := hx
        cases e1
        refine ⟨rfl, ?_⟩
        refine r_st (st2 := [.int (z_bi (tmB (f (12 * y + x))))]) rfl ?_
        refine r_cs (cs2 := [(m, .inr (12, [.int th, .ref mp, .int pt, .ref mf, .ref mh, .ref mn, .ref mt, .ref mz, .ref mc_, .ref mq, .ref mgr, .int cl, .int wa, .int co_, .int fi, .int bu, .int ho, .ref ml, .ref mi, .ref mr, .int lh, .int mg, .int wd, .int fpi, .int fal, .ref mm, .ref mu, .ref mk, .ref mx, .long po, .long de])), (b, .inl (1, 108, .inl f)), (mf, .inl (0, 108, .inl fl))]) rfl ?_
        refine r_if_eq (tgt := 114) d_Mm_nextToFill_45 (by decide) (fun c_45 => ?_) (fun c_45 => ?_)
        · obtain rfl : i = 0 := h3.resolve_right (fun q => by have := z_bi0 c_45; rw [q.1] at this; cases this)
          have hk : nfB f fl st (12 * y + x) = canS fl (12 * y + x) st 0 := nfB_m (z_bi0 c_45)
          refine r_lv (lv' := [(6, .int (z_bi (canS fl (12 * y + x) st 0))), (5, .int (nI (12 * y + x))), (4, .int (nI x)), (3, .int (nI y)), (0, .ref m), (1, .ref b), (2, .int st)]) [1, 2, 3, 4, 5, 6, 7] rfl ?_
          refine r_lvE (lv2 := [(6, .int (z_bi (nfB f fl st (12 * y + x)))), (5, .int (nI (12 * y + x))), (4, .int (nI x)), (3, .int (nI y)), (0, .ref m), (1, .ref b), (2, .int st)]) (by rw [hk]) ?_
          exact K
        · refine r_aload_n d_Mm_nextToFill_48 rfl 5 rfl ?_
          refine r_get fs_Mm_17 d_Mm_nextToFill_49 (q0 := 0) rfl rfl ?_
          refine r_iload d_Mm_nextToFill_52 2 rfl ?_
          refine r_iald d_Mm_nextToFill_54 (q0 := 2) rfl (vp_in_nI (by omega) (by omega)) (v := fl (12 * y + x)) (by rw [nI_clamp (by omega)]) ?_
          refine r_iconst d_Mm_nextToFill_55 (v := (-1)) (by decide) ?_
          refine r_icmp_ne (tgt := 114) d_Mm_nextToFill_56 (by decide) (fun c_56 => ?_) (fun c_56 => ?_)
          · obtain rfl : i = 0 := h3.resolve_right (fun q => c_56 q.2)
            have hk : nfB f fl st (12 * y + x) = canS fl (12 * y + x) st 0 := nfB_x c_56
            refine r_lv (lv' := [(6, .int (z_bi (canS fl (12 * y + x) st 0))), (5, .int (nI (12 * y + x))), (4, .int (nI x)), (3, .int (nI y)), (0, .ref m), (1, .ref b), (2, .int st)]) [1, 2, 3, 4, 5, 6, 7] rfl ?_
            refine r_lvE (lv2 := [(6, .int (z_bi (nfB f fl st (12 * y + x)))), (5, .int (nI (12 * y + x))), (4, .int (nI x)), (3, .int (nI y)), (0, .ref m), (1, .ref b), (2, .int st)]) (by rw [hk]) ?_
            exact K
          · refine r_iload d_Mm_nextToFill_59 2 rfl ?_
            refine r_iload d_Mm_nextToFill_61 0 rfl ?_
            refine r_callS (As := [.int (nI (12 * y + x)), .int (nI i)]) (rest := []) (csC := []) (is := []) ln_Mm_119 w_st_Mm_beside ok_Mm_nextToFill_Mm_beside d_Mm_nextToFill_63 (C_Mm_beside g (12 * y + x) i (by omega) (by omega)) rfl rfl (Nat.le_of_ble_eq_true rfl) rfl (by decide) (by omega) (by omega) (fun E cs1 hx => ?_) (fun v cs1 hx => ?_)
            · exact absurd hx.1 (by simp)
            · obtain ⟨e1, rfl⟩ := hx
              cases e1
              refine ⟨rfl, ?_⟩
              refine r_st (st2 := [.int (oI (bs (12 * y + x) i))]) rfl ?_
              refine r_cs (cs2 := [(m, .inr (12, [.int th, .ref mp, .int pt, .ref mf, .ref mh, .ref mn, .ref mt, .ref mz, .ref mc_, .ref mq, .ref mgr, .int cl, .int wa, .int co_, .int fi, .int bu, .int ho, .ref ml, .ref mi, .ref mr, .int lh, .int mg, .int wd, .int fpi, .int fal, .ref mm, .ref mu, .ref mk, .ref mx, .long po, .long de])), (b, .inl (1, 108, .inl f)), (mf, .inl (0, 108, .inl fl))]) rfl ?_
              refine r_istore (lv' := [(8, .int (oI (bs (12 * y + x) i))), (7, .int (nI i)), (6, .int (z_bi (canS fl (12 * y + x) st i))), (5, .int (nI (12 * y + x))), (4, .int (nI x)), (3, .int (nI y)), (0, .ref m), (1, .ref b), (2, .int st)]) d_Mm_nextToFill_66 (by decide) rfl ?_
              refine r_iload d_Mm_nextToFill_68 2 rfl ?_
              refine r_if_ne (tgt := 101) d_Mm_nextToFill_70 (by decide) (fun c_70 => ?_) (fun c_70 => ?_)
              · have hs : canS fl (12 * y + x) st (i + 1) = true := canS_t (z_bi1 c_70)
                refine r_iconst d_Mm_nextToFill_101 (v := 1) (by decide) ?_
                refine r_goto (tgt := 106) d_Mm_nextToFill_102 (by decide) ?_
                refine r_istore (lv' := [(6, .int 1), (8, .int (oI (bs (12 * y + x) i))), (7, .int (nI i)), (5, .int (nI (12 * y + x))), (4, .int (nI x)), (3, .int (nI y)), (0, .ref m), (1, .ref b), (2, .int st)]) d_Mm_nextToFill_106 (by decide) rfl ?_
                refine r_iinc (lv' := [(7, .int (nI (i + 1))), (6, .int 1), (8, .int (oI (bs (12 * y + x) i))), (5, .int (nI (12 * y + x))), (4, .int (nI x)), (3, .int (nI y)), (0, .ref m), (1, .ref b), (2, .int st)]) (v := nI (i + 1)) d_Mm_nextToFill_108 (j := 2) rfl (nI_add _ _) (by decide) rfl ?_
                refine r_goto (tgt := 32) d_Mm_nextToFill_111 (by decide) ?_
                refine r_lv (lv' := [(7, .int (nI (i + 1))), (6, .int 1), (5, .int (nI (12 * y + x))), (4, .int (nI x)), (3, .int (nI y)), (0, .ref m), (1, .ref b), (2, .int st)]) [0, 1, 3, 4, 5, 6, 7, 8] rfl ?_
                refine r_lvE (lv2 := [(7, .int (nI (i + 1))), (6, .int (z_bi (canS fl (12 * y + x) st (i + 1)))), (5, .int (nI (12 * y + x))), (4, .int (nI x)), (3, .int (nI y)), (0, .ref m), (1, .ref b), (2, .int st)]) (by rw [hs] <;> rfl) ?_
                refine r_cs (cs2 := [(m, .inr (12, [.int th, .ref mp, .int pt, .ref mf, .ref mh, .ref mn, .ref mt, .ref mz, .ref mc_, .ref mq, .ref mgr, .int cl, .int wa, .int co_, .int fi, .int bu, .int ho, .ref ml, .ref mi, .ref mr, .int lh, .int mg, .int wd, .int fpi, .int fal, .ref mm, .ref mu, .ref mk, .ref mx, .long po, .long de])), (b, .inl (1, 108, .inl f)), (mf, .inl (0, 108, .inl fl))]) (rfl) ?_
                exact ih (i + 1) (by omega) (by omega) (Or.inr ⟨z_bi1 c_45, c_56⟩)
              · refine r_iload d_Mm_nextToFill_73 0 rfl ?_
                refine r_iconst d_Mm_nextToFill_75 (v := (-1)) (by decide) ?_
                refine r_icmp_eq (tgt := 105) d_Mm_nextToFill_76 (by decide) (fun c_76 => ?_) (fun c_76 => ?_)
                · have hs : canS fl (12 * y + x) st (i + 1) = false := canS_f (z_bi0 c_70) (chkM_n (oI_nnF (show (12 * y + x) < 108 by omega) c_76))
                  refine r_iconst d_Mm_nextToFill_105 (v := 0) (by decide) ?_
                  refine r_istore (lv' := [(6, .int 0), (8, .int (oI (bs (12 * y + x) i))), (7, .int (nI i)), (5, .int (nI (12 * y + x))), (4, .int (nI x)), (3, .int (nI y)), (0, .ref m), (1, .ref b), (2, .int st)]) d_Mm_nextToFill_106 (by decide) rfl ?_
                  refine r_iinc (lv' := [(7, .int (nI (i + 1))), (6, .int 0), (8, .int (oI (bs (12 * y + x) i))), (5, .int (nI (12 * y + x))), (4, .int (nI x)), (3, .int (nI y)), (0, .ref m), (1, .ref b), (2, .int st)]) (v := nI (i + 1)) d_Mm_nextToFill_108 (j := 2) rfl (nI_add _ _) (by decide) rfl ?_
                  refine r_goto (tgt := 32) d_Mm_nextToFill_111 (by decide) ?_
                  refine r_lv (lv' := [(7, .int (nI (i + 1))), (6, .int 0), (5, .int (nI (12 * y + x))), (4, .int (nI x)), (3, .int (nI y)), (0, .ref m), (1, .ref b), (2, .int st)]) [0, 1, 3, 4, 5, 6, 7, 8] rfl ?_
                  refine r_lvE (lv2 := [(7, .int (nI (i + 1))), (6, .int (z_bi (canS fl (12 * y + x) st (i + 1)))), (5, .int (nI (12 * y + x))), (4, .int (nI x)), (3, .int (nI y)), (0, .ref m), (1, .ref b), (2, .int st)]) (by rw [hs] <;> rfl) ?_
                  refine r_cs (cs2 := [(m, .inr (12, [.int th, .ref mp, .int pt, .ref mf, .ref mh, .ref mn, .ref mt, .ref mz, .ref mc_, .ref mq, .ref mgr, .int cl, .int wa, .int co_, .int fi, .int bu, .int ho, .ref ml, .ref mi, .ref mr, .int lh, .int mg, .int wd, .int fpi, .int fal, .ref mm, .ref mu, .ref mk, .ref mx, .long po, .long de])), (b, .inl (1, 108, .inl f)), (mf, .inl (0, 108, .inl fl))]) (rfl) ?_
                  exact ih (i + 1) (by omega) (by omega) (Or.inr ⟨z_bi1 c_45, c_56⟩)
                · obtain ⟨oo, ho9⟩ := oI_nm c_76
                  have hol := bs_lt (show (12 * y + x) < 108 by omega) ho9
                  rw [ho9, show oI (some oo) = nI oo from rfl]
                  refine r_aload_n d_Mm_nextToFill_79 rfl 6 rfl ?_
                  refine r_get fs_Mm_17 d_Mm_nextToFill_80 (q0 := 0) rfl rfl ?_
                  refine r_iload d_Mm_nextToFill_83 0 rfl ?_
                  refine r_iald d_Mm_nextToFill_85 (q0 := 2) rfl (vp_in_nI (by omega) (by omega)) (v := fl oo) (by rw [nI_clamp (by omega)]) ?_
                  refine r_iconst d_Mm_nextToFill_86 (v := (-1)) (by decide) ?_
                  refine r_icmp_eq (tgt := 105) d_Mm_nextToFill_87 (by decide) (fun c_87 => ?_) (fun c_87 => ?_)
                  · have hs : canS fl (12 * y + x) st (i + 1) = false := canS_f (z_bi0 c_70) ((chkM_s ho9).trans (decide_eq_false (fun q => q.1 c_87)))
                    refine r_iconst d_Mm_nextToFill_105 (v := 0) (by decide) ?_
                    refine r_istore (lv' := [(6, .int 0), (8, .int (nI oo)), (7, .int (nI i)), (5, .int (nI (12 * y + x))), (4, .int (nI x)), (3, .int (nI y)), (0, .ref m), (1, .ref b), (2, .int st)]) d_Mm_nextToFill_106 (by decide) rfl ?_
                    refine r_iinc (lv' := [(7, .int (nI (i + 1))), (6, .int 0), (8, .int (nI oo)), (5, .int (nI (12 * y + x))), (4, .int (nI x)), (3, .int (nI y)), (0, .ref m), (1, .ref b), (2, .int st)]) (v := nI (i + 1)) d_Mm_nextToFill_108 (j := 2) rfl (nI_add _ _) (by decide) rfl ?_
                    refine r_goto (tgt := 32) d_Mm_nextToFill_111 (by decide) ?_
                    refine r_lv (lv' := [(7, .int (nI (i + 1))), (6, .int 0), (5, .int (nI (12 * y + x))), (4, .int (nI x)), (3, .int (nI y)), (0, .ref m), (1, .ref b), (2, .int st)]) [0, 1, 3, 4, 5, 6, 7, 8] rfl ?_
                    refine r_lvE (lv2 := [(7, .int (nI (i + 1))), (6, .int (z_bi (canS fl (12 * y + x) st (i + 1)))), (5, .int (nI (12 * y + x))), (4, .int (nI x)), (3, .int (nI y)), (0, .ref m), (1, .ref b), (2, .int st)]) (by rw [hs] <;> rfl) ?_
                    refine r_cs (cs2 := [(m, .inr (12, [.int th, .ref mp, .int pt, .ref mf, .ref mh, .ref mn, .ref mt, .ref mz, .ref mc_, .ref mq, .ref mgr, .int cl, .int wa, .int co_, .int fi, .int bu, .int ho, .ref ml, .ref mi, .ref mr, .int lh, .int mg, .int wd, .int fpi, .int fal, .ref mm, .ref mu, .ref mk, .ref mx, .long po, .long de])), (b, .inl (1, 108, .inl f)), (mf, .inl (0, 108, .inl fl))]) (rfl) ?_
                    exact ih (i + 1) (by omega) (by omega) (Or.inr ⟨z_bi1 c_45, c_56⟩)
                  · refine r_aload_n d_Mm_nextToFill_90 rfl 6 rfl ?_
                    refine r_get fs_Mm_17 d_Mm_nextToFill_91 (q0 := 0) rfl rfl ?_
                    refine r_iload d_Mm_nextToFill_94 0 rfl ?_
                    refine r_iald d_Mm_nextToFill_96 (q0 := 2) rfl (vp_in_nI (by omega) (by omega)) (v := fl oo) (by rw [nI_clamp (by omega)]) ?_
                    refine r_iload_n d_Mm_nextToFill_97 rfl 8 rfl ?_
                    refine r_icmp_ge (tgt := 105) d_Mm_nextToFill_98 (by decide) (fun c_98 => ?_) (fun c_98 => ?_)
                    · have hs : canS fl (12 * y + x) st (i + 1) = false := canS_f (z_bi0 c_70) ((chkM_s ho9).trans (decide_eq_false (fun q => Int32.not_lt.mpr c_98 q.2)))
                      refine r_iconst d_Mm_nextToFill_105 (v := 0) (by decide) ?_
                      refine r_istore (lv' := [(6, .int 0), (8, .int (nI oo)), (7, .int (nI i)), (5, .int (nI (12 * y + x))), (4, .int (nI x)), (3, .int (nI y)), (0, .ref m), (1, .ref b), (2, .int st)]) d_Mm_nextToFill_106 (by decide) rfl ?_
                      refine r_iinc (lv' := [(7, .int (nI (i + 1))), (6, .int 0), (8, .int (nI oo)), (5, .int (nI (12 * y + x))), (4, .int (nI x)), (3, .int (nI y)), (0, .ref m), (1, .ref b), (2, .int st)]) (v := nI (i + 1)) d_Mm_nextToFill_108 (j := 2) rfl (nI_add _ _) (by decide) rfl ?_
                      refine r_goto (tgt := 32) d_Mm_nextToFill_111 (by decide) ?_
                      refine r_lv (lv' := [(7, .int (nI (i + 1))), (6, .int 0), (5, .int (nI (12 * y + x))), (4, .int (nI x)), (3, .int (nI y)), (0, .ref m), (1, .ref b), (2, .int st)]) [0, 1, 3, 4, 5, 6, 7, 8] rfl ?_
                      refine r_lvE (lv2 := [(7, .int (nI (i + 1))), (6, .int (z_bi (canS fl (12 * y + x) st (i + 1)))), (5, .int (nI (12 * y + x))), (4, .int (nI x)), (3, .int (nI y)), (0, .ref m), (1, .ref b), (2, .int st)]) (by rw [hs] <;> rfl) ?_
                      refine r_cs (cs2 := [(m, .inr (12, [.int th, .ref mp, .int pt, .ref mf, .ref mh, .ref mn, .ref mt, .ref mz, .ref mc_, .ref mq, .ref mgr, .int cl, .int wa, .int co_, .int fi, .int bu, .int ho, .ref ml, .ref mi, .ref mr, .int lh, .int mg, .int wd, .int fpi, .int fal, .ref mm, .ref mu, .ref mk, .ref mx, .long po, .long de])), (b, .inl (1, 108, .inl f)), (mf, .inl (0, 108, .inl fl))]) (rfl) ?_
                      exact ih (i + 1) (by omega) (by omega) (Or.inr ⟨z_bi1 c_45, c_56⟩)
                    · have hs : canS fl (12 * y + x) st (i + 1) = true := canS_h ((chkM_s ho9).trans (decide_eq_true ⟨c_87, Int32.not_le.mp c_98⟩))
                      refine r_iconst d_Mm_nextToFill_101 (v := 1) (by decide) ?_
                      refine r_goto (tgt := 106) d_Mm_nextToFill_102 (by decide) ?_
                      refine r_istore (lv' := [(6, .int 1), (8, .int (nI oo)), (7, .int (nI i)), (5, .int (nI (12 * y + x))), (4, .int (nI x)), (3, .int (nI y)), (0, .ref m), (1, .ref b), (2, .int st)]) d_Mm_nextToFill_106 (by decide) rfl ?_
                      refine r_iinc (lv' := [(7, .int (nI (i + 1))), (6, .int 1), (8, .int (nI oo)), (5, .int (nI (12 * y + x))), (4, .int (nI x)), (3, .int (nI y)), (0, .ref m), (1, .ref b), (2, .int st)]) (v := nI (i + 1)) d_Mm_nextToFill_108 (j := 2) rfl (nI_add _ _) (by decide) rfl ?_
                      refine r_goto (tgt := 32) d_Mm_nextToFill_111 (by decide) ?_
                      refine r_lv (lv' := [(7, .int (nI (i + 1))), (6, .int 1), (5, .int (nI (12 * y + x))), (4, .int (nI x)), (3, .int (nI y)), (0, .ref m), (1, .ref b), (2, .int st)]) [0, 1, 3, 4, 5, 6, 7, 8] rfl ?_
                      refine r_lvE (lv2 := [(7, .int (nI (i + 1))), (6, .int (z_bi (canS fl (12 * y + x) st (i + 1)))), (5, .int (nI (12 * y + x))), (4, .int (nI x)), (3, .int (nI y)), (0, .ref m), (1, .ref b), (2, .int st)]) (by rw [hs] <;> rfl) ?_
                      refine r_cs (cs2 := [(m, .inr (12, [.int th, .ref mp, .int pt, .ref mf, .ref mh, .ref mn, .ref mt, .ref mz, .ref mc_, .ref mq, .ref mgr, .int cl, .int wa, .int co_, .int fi, .int bu, .int ho, .ref ml, .ref mi, .ref mr, .int lh, .int mg, .int wd, .int fpi, .int fal, .ref mm, .ref mu, .ref mk, .ref mx, .long po, .long de])), (b, .inl (1, 108, .inl f)), (mf, .inl (0, 108, .inl fl))]) (rfl) ?_
                      exact ih (i + 1) (by omega) (by omega) (Or.inr ⟨z_bi1 c_45, c_56⟩)
set_option maxHeartbeats 4000000 in
set_option maxRecDepth 100000 in
theorem L_Mm_nextToFill9_10 (g : zG) (m mp mf mh mn mt mz mc_ mq mgr ml mi mr mm mu mk mx : Nat) (th pt cl wa co_ fi bu ho lh mg wd fpi fal : Int32) (po de : Int64) (b : Nat) (f : Nat → Int32) (fl : Nat → Int32) (st : Int32) (w0 : zW) (n : Nat) (y : Nat) (hy : y < 9) (K : (∀ k, k < 12 * (8 - y) + 12 → nfB f fl st (scC k) = false) → DV g M_Mm_nextToFill (fun o cs1 => o = .inl (some (.int (oI (ntF f fl st 108)))) ∧ cs1 = [(m, .inr (12, [.int th, .ref mp, .int pt, .ref mf, .ref mh, .ref mn, .ref mt, .ref mz, .ref mc_, .ref mq, .ref mgr, .int cl, .int wa, .int co_, .int fi, .int bu, .int ho, .ref ml, .ref mi, .ref mr, .int lh, .int mg, .int wd, .int fpi, .int fal, .ref mm, .ref mu, .ref mk, .ref mx, .long po, .long de])), (b, .inl (1, 108, .inl f)), (mf, .inl (0, 108, .inl fl))]) w0 n 128 [(3, .int (nI y)), (0, .ref m), (1, .ref b), (2, .int st)] [] [(m, .inr (12, [.int th, .ref mp, .int pt, .ref mf, .ref mh, .ref mn, .ref mt, .ref mz, .ref mc_, .ref mq, .ref mgr, .int cl, .int wa, .int co_, .int fi, .int bu, .int ho, .ref ml, .ref mi, .ref mr, .int lh, .int mg, .int wd, .int fpi, .int fal, .ref mm, .ref mu, .ref mk, .ref mx, .long po, .long de])), (b, .inl (1, 108, .inl f)), (mf, .inl (0, 108, .inl fl))] 0 0) : ∀ (d x : Nat), x ≤ 12 → 12 < x + d → (∀ k, k < 12 * (8 - y) + x → nfB f fl st (scC k) = false) → DV g M_Mm_nextToFill (fun o cs1 => o = .inl (some (.int (oI (ntF f fl st 108)))) ∧ cs1 = [(m, .inr (12, [.int th, .ref mp, .int pt, .ref mf, .ref mh, .ref mn, .ref mt, .ref mz, .ref mc_, .ref mq, .ref mgr, .int cl, .int wa, .int co_, .int fi, .int bu, .int ho, .ref ml, .ref mi, .ref mr, .int lh, .int mg, .int wd, .int fpi, .int fal, .ref mm, .ref mu, .ref mk, .ref mx, .long po, .long de])), (b, .inl (1, 108, .inl f)), (mf, .inl (0, 108, .inl fl))]) w0 n 10 [(4, .int (nI x)), (3, .int (nI y)), (0, .ref m), (1, .ref b), (2, .int st)] [] [(m, .inr (12, [.int th, .ref mp, .int pt, .ref mf, .ref mh, .ref mn, .ref mt, .ref mz, .ref mc_, .ref mq, .ref mgr, .int cl, .int wa, .int co_, .int fi, .int bu, .int ho, .ref ml, .ref mi, .ref mr, .int lh, .int mg, .int wd, .int fpi, .int fal, .ref mm, .ref mu, .ref mk, .ref mx, .long po, .long de])), (b, .inl (1, 108, .inl f)), (mf, .inl (0, 108, .inl fl))] 0 0 := by
  intro d
  induction d with
  | zero => intro x h1 h2 h3; exact absurd h2 (by omega)
  | succ d ih =>
    intro x h1 h2 h3
    refine r_iload d_Mm_nextToFill_10 0 rfl ?_
    refine r_bipush d_Mm_nextToFill_12 (v := 12) (by decide) ?_
    refine r_icmp_ge (tgt := 128) d_Mm_nextToFill_14 (by decide) (fun c_14 => ?_) (fun c_14 => ?_)
    · have hn := z_le (a := 12) (by omega) (by decide) c_14
      obtain rfl : x = 12 := by omega
      refine r_lv (lv' := [(3, .int (nI y)), (0, .ref m), (1, .ref b), (2, .int st)]) [1, 2, 3, 4] rfl ?_
      exact K h3
    · have hn := z_nle (a := 12) (by omega) (by decide) c_14
      refine r_bipush d_Mm_nextToFill_17 (v := 12) (by decide) ?_
      refine r_iload_n d_Mm_nextToFill_19 rfl 1 rfl ?_
      refine r_imul d_Mm_nextToFill_20 (v := nI (12 * y)) (pk_mul _ _) ?_
      refine r_iload d_Mm_nextToFill_21 0 rfl ?_
      refine r_iadd d_Mm_nextToFill_23 (v := nI (12 * y + x)) (nI_add _ _) ?_
      refine r_istore (lv' := [(5, .int (nI (12 * y + x))), (4, .int (nI x)), (3, .int (nI y)), (0, .ref m), (1, .ref b), (2, .int st)]) d_Mm_nextToFill_24 (by decide) rfl ?_
      refine r_iconst d_Mm_nextToFill_26 (v := 0) (by decide) ?_
      refine r_istore (lv' := [(6, .int 0), (5, .int (nI (12 * y + x))), (4, .int (nI x)), (3, .int (nI y)), (0, .ref m), (1, .ref b), (2, .int st)]) d_Mm_nextToFill_27 (by decide) rfl ?_
      refine r_iconst d_Mm_nextToFill_29 (v := 0) (by decide) ?_
      refine r_istore (lv' := [(7, .int 0), (6, .int 0), (5, .int (nI (12 * y + x))), (4, .int (nI x)), (3, .int (nI y)), (0, .ref m), (1, .ref b), (2, .int st)]) d_Mm_nextToFill_30 (by decide) rfl ?_
      refine r_lvE (lv2 := [(7, .int (nI 0)), (6, .int (z_bi (canS fl (12 * y + x) st 0))), (5, .int (nI (12 * y + x))), (4, .int (nI x)), (3, .int (nI y)), (0, .ref m), (1, .ref b), (2, .int st)]) (rfl) ?_
      refine r_cs (cs2 := [(m, .inr (12, [.int th, .ref mp, .int pt, .ref mf, .ref mh, .ref mn, .ref mt, .ref mz, .ref mc_, .ref mq, .ref mgr, .int cl, .int wa, .int co_, .int fi, .int bu, .int ho, .ref ml, .ref mi, .ref mr, .int lh, .int mg, .int wd, .int fpi, .int fal, .ref mm, .ref mu, .ref mk, .ref mx, .long po, .long de])), (b, .inl (1, 108, .inl f)), (mf, .inl (0, 108, .inl fl))]) (rfl) ?_
      refine L_Mm_nextToFill9_32 g m mp mf mh mn mt mz mc_ mq mgr ml mi mr mm mu mk mx th pt cl wa co_ fi bu ho lh mg wd fpi fal po de b f fl st w0 _ y x hy (by omega) (?_) (4 + 1) 0 (Nat.zero_le _) (by omega) (Or.inl rfl)
      refine r_iload d_Mm_nextToFill_114 0 rfl ?_
      refine r_if_eq (tgt := 122) d_Mm_nextToFill_116 (by decide) (fun c_116 => ?_) (fun c_116 => ?_)
      · have hx9 : (∀ k, k < 12 * (8 - y) + x + 1 → nfB f fl st (scC k) = false) := fun k hk => (Nat.lt_or_ge k (12 * (8 - y) + x)).elim (h3 k) (fun q => by rw [show k = 12 * (8 - y) + x by omega, scC_e (by omega), show 8 - (8 - y) = y by omega]; exact z_bi0 c_116)
        refine r_iinc (lv' := [(4, .int (nI (x + 1))), (6, .int (z_bi (nfB f fl st (12 * y + x)))), (5, .int (nI (12 * y + x))), (3, .int (nI y)), (0, .ref m), (1, .ref b), (2, .int st)]) (v := nI (x + 1)) d_Mm_nextToFill_122 (j := 2) rfl (nI_add _ _) (by decide) rfl ?_
        refine r_goto (tgt := 10) d_Mm_nextToFill_125 (by decide) ?_
        refine r_lv (lv' := [(4, .int (nI (x + 1))), (3, .int (nI y)), (0, .ref m), (1, .ref b), (2, .int st)]) [0, 3, 4, 5, 6] rfl ?_
        refine r_lvE (lv2 := [(4, .int (nI (x + 1))), (3, .int (nI y)), (0, .ref m), (1, .ref b), (2, .int st)]) (rfl) ?_
        refine r_cs (cs2 := [(m, .inr (12, [.int th, .ref mp, .int pt, .ref mf, .ref mh, .ref mn, .ref mt, .ref mz, .ref mc_, .ref mq, .ref mgr, .int cl, .int wa, .int co_, .int fi, .int bu, .int ho, .ref ml, .ref mi, .ref mr, .int lh, .int mg, .int wd, .int fpi, .int fal, .ref mm, .ref mu, .ref mk, .ref mx, .long po, .long de])), (b, .inl (1, 108, .inl f)), (mf, .inl (0, 108, .inl fl))]) (rfl) ?_
        exact ih (x + 1) (by omega) (by omega) hx9
      · refine r_iload d_Mm_nextToFill_119 1 rfl ?_
        refine r_iret d_Mm_nextToFill_121 rfl rfl ?_
        exact ⟨by rw [ntF_hit (f := f) (fl := fl) (st := st) (n := 12 * (8 - y) + x) (by omega) h3 (by rw [scC_e (by omega), show 8 - (8 - y) = y by omega]; exact z_bi1 c_116), scC_e (by omega), show 8 - (8 - y) = y by omega] <;> rfl, rfl⟩
set_option maxHeartbeats 4000000 in
set_option maxRecDepth 100000 in
theorem L_Mm_nextToFill9_3 (g : zG) (m mp mf mh mn mt mz mc_ mq mgr ml mi mr mm mu mk mx : Nat) (th pt cl wa co_ fi bu ho lh mg wd fpi fal : Int32) (po de : Int64) (b : Nat) (f : Nat → Int32) (fl : Nat → Int32) (st : Int32) (w0 : zW) (n : Nat) : ∀ (d j : Nat), j ≤ 9 → 9 < j + d → (∀ k, k < 12 * j → nfB f fl st (scC k) = false) → DV g M_Mm_nextToFill (fun o cs1 => o = .inl (some (.int (oI (ntF f fl st 108)))) ∧ cs1 = [(m, .inr (12, [.int th, .ref mp, .int pt, .ref mf, .ref mh, .ref mn, .ref mt, .ref mz, .ref mc_, .ref mq, .ref mgr, .int cl, .int wa, .int co_, .int fi, .int bu, .int ho, .ref ml, .ref mi, .ref mr, .int lh, .int mg, .int wd, .int fpi, .int fal, .ref mm, .ref mu, .ref mk, .ref mx, .long po, .long de])), (b, .inl (1, 108, .inl f)), (mf, .inl (0, 108, .inl fl))]) w0 n 3 [(3, .int (dyI j)), (0, .ref m), (1, .ref b), (2, .int st)] [] [(m, .inr (12, [.int th, .ref mp, .int pt, .ref mf, .ref mh, .ref mn, .ref mt, .ref mz, .ref mc_, .ref mq, .ref mgr, .int cl, .int wa, .int co_, .int fi, .int bu, .int ho, .ref ml, .ref mi, .ref mr, .int lh, .int mg, .int wd, .int fpi, .int fal, .ref mm, .ref mu, .ref mk, .ref mx, .long po, .long de])), (b, .inl (1, 108, .inl f)), (mf, .inl (0, 108, .inl fl))] 0 0 := by
  intro d
  induction d with
  | zero => intro j h1 h2 h3; exact absurd h2 (by omega)
  | succ d ih =>
    intro j h1 h2 h3
    refine r_iload_n d_Mm_nextToFill_3 rfl 0 rfl ?_
    refine r_if_lt (tgt := 134) d_Mm_nextToFill_4 (by decide) (fun c_4 => ?_) (fun c_4 => ?_)
    · have hj9 := (dyF j (by omega)).1 c_4
      subst hj9
      refine r_iconst d_Mm_nextToFill_134 (v := (-1)) (by decide) ?_
      refine r_iret d_Mm_nextToFill_135 rfl rfl ?_
      exact ⟨by rw [ntF_n 108 h3] <;> rfl, rfl⟩
    · obtain ⟨hj9, hj8⟩ := (dyF j (by omega)).2 c_4
      rw [hj8]
      refine r_iconst d_Mm_nextToFill_7 (v := 0) (by decide) ?_
      refine r_istore (lv' := [(4, .int 0), (3, .int (nI (8 - j))), (0, .ref m), (1, .ref b), (2, .int st)]) d_Mm_nextToFill_8 (by decide) rfl ?_
      refine r_lvE (lv2 := [(4, .int (nI 0)), (3, .int (nI (8 - j))), (0, .ref m), (1, .ref b), (2, .int st)]) (rfl) ?_
      refine r_cs (cs2 := [(m, .inr (12, [.int th, .ref mp, .int pt, .ref mf, .ref mh, .ref mn, .ref mt, .ref mz, .ref mc_, .ref mq, .ref mgr, .int cl, .int wa, .int co_, .int fi, .int bu, .int ho, .ref ml, .ref mi, .ref mr, .int lh, .int mg, .int wd, .int fpi, .int fal, .ref mm, .ref mu, .ref mk, .ref mx, .long po, .long de])), (b, .inl (1, 108, .inl f)), (mf, .inl (0, 108, .inl fl))]) (rfl) ?_
      refine L_Mm_nextToFill9_10 g m mp mf mh mn mt mz mc_ mq mgr ml mi mr mm mu mk mx th pt cl wa co_ fi bu ho lh mg wd fpi fal po de b f fl st w0 _ (8 - j) (by omega) (fun h128 => ?_) (12 + 1) 0 (Nat.zero_le _) (by omega) (fun k hk => h3 k (by omega))
      refine r_iinc (lv' := [(3, .int (dyI (j + 1))), (0, .ref m), (1, .ref b), (2, .int st)]) (v := dyI (j + 1)) d_Mm_nextToFill_128 (j := 0) rfl (dyS j hj9) (by decide) rfl ?_
      refine r_goto (tgt := 3) d_Mm_nextToFill_131 (by decide) ?_
      refine r_lvE (lv2 := [(3, .int (dyI (j + 1))), (0, .ref m), (1, .ref b), (2, .int st)]) (rfl) ?_
      refine r_cs (cs2 := [(m, .inr (12, [.int th, .ref mp, .int pt, .ref mf, .ref mh, .ref mn, .ref mt, .ref mz, .ref mc_, .ref mq, .ref mgr, .int cl, .int wa, .int co_, .int fi, .int bu, .int ho, .ref ml, .ref mi, .ref mr, .int lh, .int mg, .int wd, .int fpi, .int fal, .ref mm, .ref mu, .ref mk, .ref mx, .long po, .long de])), (b, .inl (1, 108, .inl f)), (mf, .inl (0, 108, .inl fl))]) (rfl) ?_
      exact ih (j + 1) (by omega) (by omega) (fun k hk => h128 k (by omega))
set_option maxHeartbeats 4000000 in
set_option maxRecDepth 100000 in
theorem C_Mm_nextToFill9 (g : zG) (m mp mf mh mn mt mz mc_ mq mgr ml mi mr mm mu mk mx : Nat) (th pt cl wa co_ fi bu ho lh mg wd fpi fal : Int32) (po de : Int64) (b : Nat) (f : Nat → Int32) (fl : Nat → Int32) (st : Int32) : CT g M_Mm_nextToFill [.ref m, .ref b, .int st] [(m, .inr (12, [.int th, .ref mp, .int pt, .ref mf, .ref mh, .ref mn, .ref mt, .ref mz, .ref mc_, .ref mq, .ref mgr, .int cl, .int wa, .int co_, .int fi, .int bu, .int ho, .ref ml, .ref mi, .ref mr, .int lh, .int mg, .int wd, .int fpi, .int fal, .ref mm, .ref mu, .ref mk, .ref mx, .long po, .long de])), (b, .inl (1, 108, .inl f)), (mf, .inl (0, 108, .inl fl))] (fun o cs1 => o = .inl (some (.int (oI (ntF f fl st 108)))) ∧ cs1 = [(m, .inr (12, [.int th, .ref mp, .int pt, .ref mf, .ref mh, .ref mn, .ref mt, .ref mz, .ref mc_, .ref mq, .ref mgr, .int cl, .int wa, .int co_, .int fi, .int bu, .int ho, .ref ml, .ref mi, .ref mr, .int lh, .int mg, .int wd, .int fpi, .int fal, .ref mm, .ref mu, .ref mk, .ref mx, .long po, .long de])), (b, .inl (1, 108, .inl f)), (mf, .inl (0, 108, .inl fl))]) 0 0 := by
  refine z_of (by decide) rfl (Nat.le_of_ble_eq_true rfl) (fun w0 => ?_)
  refine r_lvE (lv2 := [(0, .ref m), (1, .ref b), (2, .int st)]) rfl ?_
  refine r_bipush d_Mm_nextToFill_0 (v := 8) (by decide) ?_
  refine r_istore_n (lv' := [(3, .int 8), (0, .ref m), (1, .ref b), (2, .int st)]) d_Mm_nextToFill_2 rfl (by decide) rfl ?_
  refine r_lvE (lv2 := [(3, .int (dyI 0)), (0, .ref m), (1, .ref b), (2, .int st)]) (rfl) ?_
  refine r_cs (cs2 := [(m, .inr (12, [.int th, .ref mp, .int pt, .ref mf, .ref mh, .ref mn, .ref mt, .ref mz, .ref mc_, .ref mq, .ref mgr, .int cl, .int wa, .int co_, .int fi, .int bu, .int ho, .ref ml, .ref mi, .ref mr, .int lh, .int mg, .int wd, .int fpi, .int fal, .ref mm, .ref mu, .ref mk, .ref mx, .long po, .long de])), (b, .inl (1, 108, .inl f)), (mf, .inl (0, 108, .inl fl))]) (rfl) ?_
  exact L_Mm_nextToFill9_3 g m mp mf mh mn mt mz mc_ mq mgr ml mi mr mm mu mk mx th pt cl wa co_ fi bu ho lh mg wd fpi fal po de b f fl st w0 _  (9 + 1) 0 (Nat.zero_le _) (by omega) (fun k hk => absurd hk (Nat.not_lt_zero k))
set_option maxHeartbeats 4000000 in
set_option maxRecDepth 100000 in
theorem L_Mm_fill9_84 (g : zG) (m mp mf mh mn mt mz mc_ mq mgr ml mi mr mm mu mk mx : Nat) (th pt cl wa co_ fi bu ho lh mg wd fpi fal : Int32) (po de : Int64) (b : Nat) (f : Nat → Int32) (fl : Nat → Int32) (w0 : zW) (n : Nat) (t : Nat) (ht : t < 109) (K : DV g M_Mm_fill (fun o cs1 => o = .inl none ∧ cs1 = [(m, .inr (12, [.int th, .ref mp, .int pt, .ref mf, .ref mh, .ref mn, .ref mt, .ref mz, .ref mc_, .ref mq, .ref mgr, .int cl, .int wa, .int co_, .int fi, .int bu, .int ho, .ref ml, .ref mi, .ref mr, .int lh, .int mg, .int wd, .int fpi, .int fal, .ref mm, .ref mu, .ref mk, .ref mx, .long po, .long de])), (b, .inl (1, 108, .inl f)), (mf, .inl (0, 108, .inl (flC f fl)))]) w0 n 122 [(3, .int ((rfS f (nI (t + 1)) (rfT f (fa_cnt (fun k => decide (f k = 103)) 12) (ogS f (fa_fill (fun _ => -1) fl 108) 12).1 (if 0 < fa_cnt (fun k => decide (f k = 103)) 12 then 1 else 0) t).1 (fa_cnt (fun k => decide (f k = 103)) 12)).2)), (4, .int (nI (t + 1))), (2, .int (nI (fa_cnt (fun k => decide (f k = 103)) 12))), (0, .ref m), (1, .ref b)] [] [(m, .inr (12, [.int th, .ref mp, .int pt, .ref mf, .ref mh, .ref mn, .ref mt, .ref mz, .ref mc_, .ref mq, .ref mgr, .int cl, .int wa, .int co_, .int fi, .int bu, .int ho, .ref ml, .ref mi, .ref mr, .int lh, .int mg, .int wd, .int fpi, .int fal, .ref mm, .ref mu, .ref mk, .ref mx, .long po, .long de])), (b, .inl (1, 108, .inl f)), (mf, .inl (0, 108, .inl ((rfS f (nI (t + 1)) (rfT f (fa_cnt (fun k => decide (f k = 103)) 12) (ogS f (fa_fill (fun _ => -1) fl 108) 12).1 (if 0 < fa_cnt (fun k => decide (f k = 103)) 12 then 1 else 0) t).1 (fa_cnt (fun k => decide (f k = 103)) 12)).1)))] 0 0) : ∀ (d z : Nat), z ≤ fa_cnt (fun k => decide (f k = 103)) 12 → fa_cnt (fun k => decide (f k = 103)) 12 < z + d → DV g M_Mm_fill (fun o cs1 => o = .inl none ∧ cs1 = [(m, .inr (12, [.int th, .ref mp, .int pt, .ref mf, .ref mh, .ref mn, .ref mt, .ref mz, .ref mc_, .ref mq, .ref mgr, .int cl, .int wa, .int co_, .int fi, .int bu, .int ho, .ref ml, .ref mi, .ref mr, .int lh, .int mg, .int wd, .int fpi, .int fal, .ref mm, .ref mu, .ref mk, .ref mx, .long po, .long de])), (b, .inl (1, 108, .inl f)), (mf, .inl (0, 108, .inl (flC f fl)))]) w0 n 84 [(5, .int (nI z)), (3, .int ((rfS f (nI (t + 1)) (rfT f (fa_cnt (fun k => decide (f k = 103)) 12) (ogS f (fa_fill (fun _ => -1) fl 108) 12).1 (if 0 < fa_cnt (fun k => decide (f k = 103)) 12 then 1 else 0) t).1 z).2)), (4, .int (nI (t + 1))), (2, .int (nI (fa_cnt (fun k => decide (f k = 103)) 12))), (0, .ref m), (1, .ref b)] [] [(m, .inr (12, [.int th, .ref mp, .int pt, .ref mf, .ref mh, .ref mn, .ref mt, .ref mz, .ref mc_, .ref mq, .ref mgr, .int cl, .int wa, .int co_, .int fi, .int bu, .int ho, .ref ml, .ref mi, .ref mr, .int lh, .int mg, .int wd, .int fpi, .int fal, .ref mm, .ref mu, .ref mk, .ref mx, .long po, .long de])), (b, .inl (1, 108, .inl f)), (mf, .inl (0, 108, .inl ((rfS f (nI (t + 1)) (rfT f (fa_cnt (fun k => decide (f k = 103)) 12) (ogS f (fa_fill (fun _ => -1) fl 108) 12).1 (if 0 < fa_cnt (fun k => decide (f k = 103)) 12 then 1 else 0) t).1 z).1)))] 0 0 := by
  intro d
  induction d with
  | zero => intro z h1 h2 ; exact absurd h2 (by omega)
  | succ d ih =>
    intro z h1 h2 
    refine r_iload d_Mm_fill_84 0 rfl ?_
    refine r_iload_n d_Mm_fill_86 rfl 3 rfl ?_
    refine r_icmp_ge (tgt := 122) d_Mm_fill_87 (by decide) (fun c_87 => ?_) (fun c_87 => ?_)
    · have hgl := fa_cnt_le (fun k => decide (f k = 103)) 12
      have hn := z_le (a := fa_cnt (fun k => decide (f k = 103)) 12) (by omega) (by omega) c_87
      obtain hz9 : z = fa_cnt (fun k => decide (f k = 103)) 12 := by omega
      rw [hz9]
      refine r_lv (lv' := [(3, .int ((rfS f (nI (t + 1)) (rfT f (fa_cnt (fun k => decide (f k = 103)) 12) (ogS f (fa_fill (fun _ => -1) fl 108) 12).1 (if 0 < fa_cnt (fun k => decide (f k = 103)) 12 then 1 else 0) t).1 (fa_cnt (fun k => decide (f k = 103)) 12)).2)), (4, .int (nI (t + 1))), (2, .int (nI (fa_cnt (fun k => decide (f k = 103)) 12))), (0, .ref m), (1, .ref b)]) [1, 2, 3, 4, 5] rfl ?_
      exact K
    · have hgl := fa_cnt_le (fun k => decide (f k = 103)) 12
      have hn := z_nle (a := fa_cnt (fun k => decide (f k = 103)) 12) (by omega) (by omega) c_87
      refine r_aload_n d_Mm_fill_90 rfl 4 rfl ?_
      refine r_aload_n d_Mm_fill_91 rfl 5 rfl ?_
      refine r_iload d_Mm_fill_92 2 rfl ?_
      refine r_callV (As := [.ref b, .int (nI (t + 1))]) (rest := []) (csC := [(m, .inr (12, [.int th, .ref mp, .int pt, .ref mf, .ref mh, .ref mn, .ref mt, .ref mz, .ref mc_, .ref mq, .ref mgr, .int cl, .int wa, .int co_, .int fi, .int bu, .int ho, .ref ml, .ref mi, .ref mr, .int lh, .int mg, .int wd, .int fpi, .int fal, .ref mm, .ref mu, .ref mk, .ref mx, .long po, .long de])), (b, .inl (1, 108, .inl f)), (mf, .inl (0, 108, .inl ((rfS f (nI (t + 1)) (rfT f (fa_cnt (fun k => decide (f k = 103)) 12) (ogS f (fa_fill (fun _ => -1) fl 108) 12).1 (if 0 < fa_cnt (fun k => decide (f k = 103)) 12 then 1 else 0) t).1 z).1)))]) (is := [0, 1, 2]) (q0 := 0) rfl rfl ln_Mm_140 w_im_Mm_nextToFill w_se_Mm_nextToFill ok_Mm_fill_Mm_nextToFill d_Mm_fill_94 (C_Mm_nextToFill9 g m mp mf mh mn mt mz mc_ mq mgr ml mi mr mm mu mk mx th pt cl wa co_ fi bu ho lh mg wd fpi fal po de b f (rfS f (nI (t + 1)) (rfT f (fa_cnt (fun k => decide (f k = 103)) 12) (ogS f (fa_fill (fun _ => -1) fl 108) 12).1 (if 0 < fa_cnt (fun k => decide (f k = 103)) 12 then 1 else 0) t).1 z).1 (nI (t + 1))) rfl rfl (Nat.le_of_ble_eq_true rfl) rfl (by decide) (by omega) (by omega) (fun E cs1 hx => ?_) (fun v cs1 hx => ?_)
      · exact absurd hx.1 (by simp)
      · obtain ⟨e1, rfl⟩ := hx
        cases e1
        refine ⟨rfl, ?_⟩
        refine r_st (st2 := [.int (oI (ntF f (rfS f (nI (t + 1)) (rfT f (fa_cnt (fun k => decide (f k = 103)) 12) (ogS f (fa_fill (fun _ => -1) fl 108) 12).1 (if 0 < fa_cnt (fun k => decide (f k = 103)) 12 then 1 else 0) t).1 z).1 (nI (t + 1)) 108))]) rfl ?_
        refine r_cs (cs2 := [(m, .inr (12, [.int th, .ref mp, .int pt, .ref mf, .ref mh, .ref mn, .ref mt, .ref mz, .ref mc_, .ref mq, .ref mgr, .int cl, .int wa, .int co_, .int fi, .int bu, .int ho, .ref ml, .ref mi, .ref mr, .int lh, .int mg, .int wd, .int fpi, .int fal, .ref mm, .ref mu, .ref mk, .ref mx, .long po, .long de])), (b, .inl (1, 108, .inl f)), (mf, .inl (0, 108, .inl ((rfS f (nI (t + 1)) (rfT f (fa_cnt (fun k => decide (f k = 103)) 12) (ogS f (fa_fill (fun _ => -1) fl 108) 12).1 (if 0 < fa_cnt (fun k => decide (f k = 103)) 12 then 1 else 0) t).1 z).1)))]) rfl ?_
        refine r_istore (lv' := [(6, .int (oI (ntF f (rfS f (nI (t + 1)) (rfT f (fa_cnt (fun k => decide (f k = 103)) 12) (ogS f (fa_fill (fun _ => -1) fl 108) 12).1 (if 0 < fa_cnt (fun k => decide (f k = 103)) 12 then 1 else 0) t).1 z).1 (nI (t + 1)) 108))), (5, .int (nI z)), (3, .int ((rfS f (nI (t + 1)) (rfT f (fa_cnt (fun k => decide (f k = 103)) 12) (ogS f (fa_fill (fun _ => -1) fl 108) 12).1 (if 0 < fa_cnt (fun k => decide (f k = 103)) 12 then 1 else 0) t).1 z).2)), (4, .int (nI (t + 1))), (2, .int (nI (fa_cnt (fun k => decide (f k = 103)) 12))), (0, .ref m), (1, .ref b)]) d_Mm_fill_97 (by decide) rfl ?_
        refine r_iload d_Mm_fill_99 0 rfl ?_
        refine r_iconst d_Mm_fill_101 (v := (-1)) (by decide) ?_
        refine r_icmp_eq (tgt := 116) d_Mm_fill_102 (by decide) (fun c_102 => ?_) (fun c_102 => ?_)
        · have hk := rfS_n (f := f) (st := nI (t + 1)) (a := (rfT f (fa_cnt (fun k => decide (f k = 103)) 12) (ogS f (fa_fill (fun _ => -1) fl 108) 12).1 (if 0 < fa_cnt (fun k => decide (f k = 103)) 12 then 1 else 0) t).1) (z := z) (by cases e9 : ntF f (rfS f (nI (t + 1)) (rfT f (fa_cnt (fun k => decide (f k = 103)) 12) (ogS f (fa_fill (fun _ => -1) fl 108) 12).1 (if 0 < fa_cnt (fun k => decide (f k = 103)) 12 then 1 else 0) t).1 z).1 (nI (t + 1)) 108 with | none => rfl | some c9 => rw [e9] at c_102; exact absurd c_102 (nI_nm1 (a := c9) (by have := (ntF_s 108 (Nat.le_refl _) e9).1; omega)))
          refine r_iinc (lv' := [(5, .int (nI (z + 1))), (6, .int (oI (ntF f (rfS f (nI (t + 1)) (rfT f (fa_cnt (fun k => decide (f k = 103)) 12) (ogS f (fa_fill (fun _ => -1) fl 108) 12).1 (if 0 < fa_cnt (fun k => decide (f k = 103)) 12 then 1 else 0) t).1 z).1 (nI (t + 1)) 108))), (3, .int ((rfS f (nI (t + 1)) (rfT f (fa_cnt (fun k => decide (f k = 103)) 12) (ogS f (fa_fill (fun _ => -1) fl 108) 12).1 (if 0 < fa_cnt (fun k => decide (f k = 103)) 12 then 1 else 0) t).1 z).2)), (4, .int (nI (t + 1))), (2, .int (nI (fa_cnt (fun k => decide (f k = 103)) 12))), (0, .ref m), (1, .ref b)]) (v := nI (z + 1)) d_Mm_fill_116 (j := 1) rfl (nI_add _ _) (by decide) rfl ?_
          refine r_goto (tgt := 84) d_Mm_fill_119 (by decide) ?_
          refine r_lv (lv' := [(5, .int (nI (z + 1))), (3, .int ((rfS f (nI (t + 1)) (rfT f (fa_cnt (fun k => decide (f k = 103)) 12) (ogS f (fa_fill (fun _ => -1) fl 108) 12).1 (if 0 < fa_cnt (fun k => decide (f k = 103)) 12 then 1 else 0) t).1 z).2)), (4, .int (nI (t + 1))), (2, .int (nI (fa_cnt (fun k => decide (f k = 103)) 12))), (0, .ref m), (1, .ref b)]) [0, 2, 3, 4, 5, 6] rfl ?_
          refine r_lvE (lv2 := [(5, .int (nI (z + 1))), (3, .int ((rfS f (nI (t + 1)) (rfT f (fa_cnt (fun k => decide (f k = 103)) 12) (ogS f (fa_fill (fun _ => -1) fl 108) 12).1 (if 0 < fa_cnt (fun k => decide (f k = 103)) 12 then 1 else 0) t).1 (z + 1)).2)), (4, .int (nI (t + 1))), (2, .int (nI (fa_cnt (fun k => decide (f k = 103)) 12))), (0, .ref m), (1, .ref b)]) (by rw [hk] <;> rfl) ?_
          refine r_cs (cs2 := [(m, .inr (12, [.int th, .ref mp, .int pt, .ref mf, .ref mh, .ref mn, .ref mt, .ref mz, .ref mc_, .ref mq, .ref mgr, .int cl, .int wa, .int co_, .int fi, .int bu, .int ho, .ref ml, .ref mi, .ref mr, .int lh, .int mg, .int wd, .int fpi, .int fal, .ref mm, .ref mu, .ref mk, .ref mx, .long po, .long de])), (b, .inl (1, 108, .inl f)), (mf, .inl (0, 108, .inl ((rfS f (nI (t + 1)) (rfT f (fa_cnt (fun k => decide (f k = 103)) 12) (ogS f (fa_fill (fun _ => -1) fl 108) 12).1 (if 0 < fa_cnt (fun k => decide (f k = 103)) 12 then 1 else 0) t).1 (z + 1)).1)))]) (by rw [hk] <;> rfl) ?_
          exact ih (z + 1) (by omega) (by omega)
        · obtain ⟨c9, he9⟩ := ntF_nm c_102
          have hc9 := (ntF_s 108 (Nat.le_refl _) he9).1
          have hk := rfS_s (f := f) (st := nI (t + 1)) (a := (rfT f (fa_cnt (fun k => decide (f k = 103)) 12) (ogS f (fa_fill (fun _ => -1) fl 108) 12).1 (if 0 < fa_cnt (fun k => decide (f k = 103)) 12 then 1 else 0) t).1) (z := z) he9
          rw [he9, show oI (some c9) = nI c9 from rfl]
          refine r_aload_n d_Mm_fill_105 rfl 5 rfl ?_
          refine r_get fs_Mm_17 d_Mm_fill_106 (q0 := 0) rfl rfl ?_
          refine r_iload d_Mm_fill_109 0 rfl ?_
          refine r_iload d_Mm_fill_111 3 rfl ?_
          refine r_iast d_Mm_fill_113 (q0 := 2) rfl (vp_in_nI (by omega) (by omega)) (f' := upd (rfS f (nI (t + 1)) (rfT f (fa_cnt (fun k => decide (f k = 103)) 12) (ogS f (fa_fill (fun _ => -1) fl 108) 12).1 (if 0 < fa_cnt (fun k => decide (f k = 103)) 12 then 1 else 0) t).1 z).1 c9 (nI (t + 1))) (by rw [nI_clamp (by omega)] <;> rfl) (cs' := [(m, .inr (12, [.int th, .ref mp, .int pt, .ref mf, .ref mh, .ref mn, .ref mt, .ref mz, .ref mc_, .ref mq, .ref mgr, .int cl, .int wa, .int co_, .int fi, .int bu, .int ho, .ref ml, .ref mi, .ref mr, .int lh, .int mg, .int wd, .int fpi, .int fal, .ref mm, .ref mu, .ref mk, .ref mx, .long po, .long de])), (b, .inl (1, 108, .inl f)), (mf, .inl (0, 108, .inl (upd (rfS f (nI (t + 1)) (rfT f (fa_cnt (fun k => decide (f k = 103)) 12) (ogS f (fa_fill (fun _ => -1) fl 108) 12).1 (if 0 < fa_cnt (fun k => decide (f k = 103)) 12 then 1 else 0) t).1 z).1 c9 (nI (t + 1)))))]) rfl ?_
          refine r_iconst d_Mm_fill_114 (v := 1) (by decide) ?_
          refine r_istore_n (lv' := [(3, .int 1), (6, .int (nI c9)), (5, .int (nI z)), (4, .int (nI (t + 1))), (2, .int (nI (fa_cnt (fun k => decide (f k = 103)) 12))), (0, .ref m), (1, .ref b)]) d_Mm_fill_115 rfl (by decide) rfl ?_
          refine r_iinc (lv' := [(5, .int (nI (z + 1))), (3, .int 1), (6, .int (nI c9)), (4, .int (nI (t + 1))), (2, .int (nI (fa_cnt (fun k => decide (f k = 103)) 12))), (0, .ref m), (1, .ref b)]) (v := nI (z + 1)) d_Mm_fill_116 (j := 2) rfl (nI_add _ _) (by decide) rfl ?_
          refine r_goto (tgt := 84) d_Mm_fill_119 (by decide) ?_
          refine r_lv (lv' := [(5, .int (nI (z + 1))), (3, .int 1), (4, .int (nI (t + 1))), (2, .int (nI (fa_cnt (fun k => decide (f k = 103)) 12))), (0, .ref m), (1, .ref b)]) [0, 1, 3, 4, 5, 6] rfl ?_
          refine r_lvE (lv2 := [(5, .int (nI (z + 1))), (3, .int ((rfS f (nI (t + 1)) (rfT f (fa_cnt (fun k => decide (f k = 103)) 12) (ogS f (fa_fill (fun _ => -1) fl 108) 12).1 (if 0 < fa_cnt (fun k => decide (f k = 103)) 12 then 1 else 0) t).1 (z + 1)).2)), (4, .int (nI (t + 1))), (2, .int (nI (fa_cnt (fun k => decide (f k = 103)) 12))), (0, .ref m), (1, .ref b)]) (by rw [hk] <;> rfl) ?_
          refine r_cs (cs2 := [(m, .inr (12, [.int th, .ref mp, .int pt, .ref mf, .ref mh, .ref mn, .ref mt, .ref mz, .ref mc_, .ref mq, .ref mgr, .int cl, .int wa, .int co_, .int fi, .int bu, .int ho, .ref ml, .ref mi, .ref mr, .int lh, .int mg, .int wd, .int fpi, .int fal, .ref mm, .ref mu, .ref mk, .ref mx, .long po, .long de])), (b, .inl (1, 108, .inl f)), (mf, .inl (0, 108, .inl ((rfS f (nI (t + 1)) (rfT f (fa_cnt (fun k => decide (f k = 103)) 12) (ogS f (fa_fill (fun _ => -1) fl 108) 12).1 (if 0 < fa_cnt (fun k => decide (f k = 103)) 12 then 1 else 0) t).1 (z + 1)).1)))]) (by rw [hk] <;> rfl) ?_
          exact ih (z + 1) (by omega) (by omega)
set_option maxHeartbeats 4000000 in
set_option maxRecDepth 100000 in
theorem L_Mm_fill9_75 (g : zG) (m mp mf mh mn mt mz mc_ mq mgr ml mi mr mm mu mk mx : Nat) (th pt cl wa co_ fi bu ho lh mg wd fpi fal : Int32) (po de : Int64) (b : Nat) (f : Nat → Int32) (fl : Nat → Int32) (w0 : zW) (n : Nat) : ∀ (d t : Nat), t ≤ 109 → 109 < t + d → DV g M_Mm_fill (fun o cs1 => o = .inl none ∧ cs1 = [(m, .inr (12, [.int th, .ref mp, .int pt, .ref mf, .ref mh, .ref mn, .ref mt, .ref mz, .ref mc_, .ref mq, .ref mgr, .int cl, .int wa, .int co_, .int fi, .int bu, .int ho, .ref ml, .ref mi, .ref mr, .int lh, .int mg, .int wd, .int fpi, .int fal, .ref mm, .ref mu, .ref mk, .ref mx, .long po, .long de])), (b, .inl (1, 108, .inl f)), (mf, .inl (0, 108, .inl (flC f fl)))]) w0 n 75 [(3, .int ((rfT f (fa_cnt (fun k => decide (f k = 103)) 12) (ogS f (fa_fill (fun _ => -1) fl 108) 12).1 (if 0 < fa_cnt (fun k => decide (f k = 103)) 12 then 1 else 0) t).2)), (4, .int (nI (t + 1))), (2, .int (nI (fa_cnt (fun k => decide (f k = 103)) 12))), (0, .ref m), (1, .ref b)] [] [(m, .inr (12, [.int th, .ref mp, .int pt, .ref mf, .ref mh, .ref mn, .ref mt, .ref mz, .ref mc_, .ref mq, .ref mgr, .int cl, .int wa, .int co_, .int fi, .int bu, .int ho, .ref ml, .ref mi, .ref mr, .int lh, .int mg, .int wd, .int fpi, .int fal, .ref mm, .ref mu, .ref mk, .ref mx, .long po, .long de])), (b, .inl (1, 108, .inl f)), (mf, .inl (0, 108, .inl ((rfT f (fa_cnt (fun k => decide (f k = 103)) 12) (ogS f (fa_fill (fun _ => -1) fl 108) 12).1 (if 0 < fa_cnt (fun k => decide (f k = 103)) 12 then 1 else 0) t).1)))] 0 0 := by
  intro d
  induction d with
  | zero => intro t h1 h2 ; exact absurd h2 (by omega)
  | succ d ih =>
    intro t h1 h2 
    refine r_iload_n d_Mm_fill_75 rfl 0 rfl ?_
    refine r_if_eq (tgt := 128) d_Mm_fill_76 (by decide) (fun c_76 => ?_) (fun c_76 => ?_)
    · have hx : flC f fl = (rfT f (fa_cnt (fun k => decide (f k = 103)) 12) (ogS f (fa_fill (fun _ => -1) fl 108) 12).1 (if 0 < fa_cnt (fun k => decide (f k = 103)) 12 then 1 else 0) t).1 := by unfold flC; have := rfT_stop c_76 (109 - t); rw [show t + (109 - t) = 109 by omega] at this; rw [this]
      refine r_vret d_Mm_fill_128 rfl ?_
      exact ⟨rfl, by rw [hx]⟩
    · have hm9 := flC_m (f := f) (fl := fl) (T := t) h1 c_76
      refine r_iconst d_Mm_fill_79 (v := 0) (by decide) ?_
      refine r_istore_n (lv' := [(3, .int 0), (4, .int (nI (t + 1))), (2, .int (nI (fa_cnt (fun k => decide (f k = 103)) 12))), (0, .ref m), (1, .ref b)]) d_Mm_fill_80 rfl (by decide) rfl ?_
      refine r_iconst d_Mm_fill_81 (v := 0) (by decide) ?_
      refine r_istore (lv' := [(5, .int 0), (3, .int 0), (4, .int (nI (t + 1))), (2, .int (nI (fa_cnt (fun k => decide (f k = 103)) 12))), (0, .ref m), (1, .ref b)]) d_Mm_fill_82 (by decide) rfl ?_
      refine r_lvE (lv2 := [(5, .int (nI 0)), (3, .int ((rfS f (nI (t + 1)) (rfT f (fa_cnt (fun k => decide (f k = 103)) 12) (ogS f (fa_fill (fun _ => -1) fl 108) 12).1 (if 0 < fa_cnt (fun k => decide (f k = 103)) 12 then 1 else 0) t).1 0).2)), (4, .int (nI (t + 1))), (2, .int (nI (fa_cnt (fun k => decide (f k = 103)) 12))), (0, .ref m), (1, .ref b)]) (rfl) ?_
      refine r_cs (cs2 := [(m, .inr (12, [.int th, .ref mp, .int pt, .ref mf, .ref mh, .ref mn, .ref mt, .ref mz, .ref mc_, .ref mq, .ref mgr, .int cl, .int wa, .int co_, .int fi, .int bu, .int ho, .ref ml, .ref mi, .ref mr, .int lh, .int mg, .int wd, .int fpi, .int fal, .ref mm, .ref mu, .ref mk, .ref mx, .long po, .long de])), (b, .inl (1, 108, .inl f)), (mf, .inl (0, 108, .inl ((rfS f (nI (t + 1)) (rfT f (fa_cnt (fun k => decide (f k = 103)) 12) (ogS f (fa_fill (fun _ => -1) fl 108) 12).1 (if 0 < fa_cnt (fun k => decide (f k = 103)) 12 then 1 else 0) t).1 0).1)))]) (rfl) ?_
      refine L_Mm_fill9_84 g m mp mf mh mn mt mz mc_ mq mgr ml mi mr mm mu mk mx th pt cl wa co_ fi bu ho lh mg wd fpi fal po de b f fl w0 _ t (by omega) (?_) (fa_cnt (fun k => decide (f k = 103)) 12 + 1) 0 (Nat.zero_le _) (by omega)
      refine r_iinc (lv' := [(4, .int (nI ((t + 1) + 1))), (3, .int ((rfS f (nI (t + 1)) (rfT f (fa_cnt (fun k => decide (f k = 103)) 12) (ogS f (fa_fill (fun _ => -1) fl 108) 12).1 (if 0 < fa_cnt (fun k => decide (f k = 103)) 12 then 1 else 0) t).1 (fa_cnt (fun k => decide (f k = 103)) 12)).2)), (2, .int (nI (fa_cnt (fun k => decide (f k = 103)) 12))), (0, .ref m), (1, .ref b)]) (v := nI ((t + 1) + 1)) d_Mm_fill_122 (j := 1) rfl (nI_add _ _) (by decide) rfl ?_
      refine r_goto (tgt := 75) d_Mm_fill_125 (by decide) ?_
      refine r_lv (lv' := [(3, .int ((rfS f (nI (t + 1)) (rfT f (fa_cnt (fun k => decide (f k = 103)) 12) (ogS f (fa_fill (fun _ => -1) fl 108) 12).1 (if 0 < fa_cnt (fun k => decide (f k = 103)) 12 then 1 else 0) t).1 (fa_cnt (fun k => decide (f k = 103)) 12)).2)), (4, .int (nI ((t + 1) + 1))), (2, .int (nI (fa_cnt (fun k => decide (f k = 103)) 12))), (0, .ref m), (1, .ref b)]) [1, 0, 2, 3, 4] rfl ?_
      refine r_lvE (lv2 := [(3, .int ((rfT f (fa_cnt (fun k => decide (f k = 103)) 12) (ogS f (fa_fill (fun _ => -1) fl 108) 12).1 (if 0 < fa_cnt (fun k => decide (f k = 103)) 12 then 1 else 0) (t + 1)).2)), (4, .int (nI ((t + 1) + 1))), (2, .int (nI (fa_cnt (fun k => decide (f k = 103)) 12))), (0, .ref m), (1, .ref b)]) (by rw [rfT_n c_76] <;> rfl) ?_
      refine r_cs (cs2 := [(m, .inr (12, [.int th, .ref mp, .int pt, .ref mf, .ref mh, .ref mn, .ref mt, .ref mz, .ref mc_, .ref mq, .ref mgr, .int cl, .int wa, .int co_, .int fi, .int bu, .int ho, .ref ml, .ref mi, .ref mr, .int lh, .int mg, .int wd, .int fpi, .int fal, .ref mm, .ref mu, .ref mk, .ref mx, .long po, .long de])), (b, .inl (1, 108, .inl f)), (mf, .inl (0, 108, .inl ((rfT f (fa_cnt (fun k => decide (f k = 103)) 12) (ogS f (fa_fill (fun _ => -1) fl 108) 12).1 (if 0 < fa_cnt (fun k => decide (f k = 103)) 12 then 1 else 0) (t + 1)).1)))]) (by rw [rfT_n c_76] <;> rfl) ?_
      exact ih (t + 1) (by omega) (by omega)
set_option maxHeartbeats 4000000 in
set_option maxRecDepth 100000 in
theorem L_Mm_fill9_28 (g : zG) (m mp mf mh mn mt mz mc_ mq mgr ml mi mr mm mu mk mx : Nat) (th pt cl wa co_ fi bu ho lh mg wd fpi fal : Int32) (po de : Int64) (b : Nat) (f : Nat → Int32) (fl : Nat → Int32) (w0 : zW) (n : Nat) (K : DV g M_Mm_fill (fun o cs1 => o = .inl none ∧ cs1 = [(m, .inr (12, [.int th, .ref mp, .int pt, .ref mf, .ref mh, .ref mn, .ref mt, .ref mz, .ref mc_, .ref mq, .ref mgr, .int cl, .int wa, .int co_, .int fi, .int bu, .int ho, .ref ml, .ref mi, .ref mr, .int lh, .int mg, .int wd, .int fpi, .int fal, .ref mm, .ref mu, .ref mk, .ref mx, .long po, .long de])), (b, .inl (1, 108, .inl f)), (mf, .inl (0, 108, .inl (flC f fl)))]) w0 n 62 [(2, .int (nI (fa_cnt (fun k => decide (f k = 103)) 12))), (0, .ref m), (1, .ref b)] [] [(m, .inr (12, [.int th, .ref mp, .int pt, .ref mf, .ref mh, .ref mn, .ref mt, .ref mz, .ref mc_, .ref mq, .ref mgr, .int cl, .int wa, .int co_, .int fi, .int bu, .int ho, .ref ml, .ref mi, .ref mr, .int lh, .int mg, .int wd, .int fpi, .int fal, .ref mm, .ref mu, .ref mk, .ref mx, .long po, .long de])), (b, .inl (1, 108, .inl f)), (mf, .inl (0, 108, .inl ((ogS f (fa_fill (fun _ => -1) fl 108) 12).1)))] 0 0) : ∀ (d x : Nat), x ≤ 12 → 12 < x + d → (∀ k, k < x → ¬ f k = 103) → DV g M_Mm_fill (fun o cs1 => o = .inl none ∧ cs1 = [(m, .inr (12, [.int th, .ref mp, .int pt, .ref mf, .ref mh, .ref mn, .ref mt, .ref mz, .ref mc_, .ref mq, .ref mgr, .int cl, .int wa, .int co_, .int fi, .int bu, .int ho, .ref ml, .ref mi, .ref mr, .int lh, .int mg, .int wd, .int fpi, .int fal, .ref mm, .ref mu, .ref mk, .ref mx, .long po, .long de])), (b, .inl (1, 108, .inl f)), (mf, .inl (0, 108, .inl (flC f fl)))]) w0 n 28 [(3, .int (nI x)), (2, .int (nI (fa_cnt (fun k => decide (f k = 103)) 12))), (0, .ref m), (1, .ref b)] [] [(m, .inr (12, [.int th, .ref mp, .int pt, .ref mf, .ref mh, .ref mn, .ref mt, .ref mz, .ref mc_, .ref mq, .ref mgr, .int cl, .int wa, .int co_, .int fi, .int bu, .int ho, .ref ml, .ref mi, .ref mr, .int lh, .int mg, .int wd, .int fpi, .int fal, .ref mm, .ref mu, .ref mk, .ref mx, .long po, .long de])), (b, .inl (1, 108, .inl f)), (mf, .inl (0, 108, .inl (fa_fill (fun _ => -1) fl 108)))] 0 0 := by
  intro d
  induction d with
  | zero => intro x h1 h2 h3; exact absurd h2 (by omega)
  | succ d ih =>
    intro x h1 h2 h3
    refine r_iload_n d_Mm_fill_28 rfl 0 rfl ?_
    refine r_bipush d_Mm_fill_29 (v := 12) (by decide) ?_
    refine r_icmp_ge (tgt := 62) d_Mm_fill_31 (by decide) (fun c_31 => ?_) (fun c_31 => ?_)
    · have hn := z_le (a := 12) (by omega) (by decide) c_31
      obtain rfl : x = 12 := by omega
      have hog : (ogS f (fa_fill (fun _ => -1) fl 108) 12).1 = (fa_fill (fun _ => -1) fl 108) := by rw [ogS_no 12 h3]
      refine r_lv (lv' := [(2, .int (nI (fa_cnt (fun k => decide (f k = 103)) 12))), (0, .ref m), (1, .ref b)]) [1, 2, 3] rfl ?_
      refine r_cs (cs2 := [(m, .inr (12, [.int th, .ref mp, .int pt, .ref mf, .ref mh, .ref mn, .ref mt, .ref mz, .ref mc_, .ref mq, .ref mgr, .int cl, .int wa, .int co_, .int fi, .int bu, .int ho, .ref ml, .ref mi, .ref mr, .int lh, .int mg, .int wd, .int fpi, .int fal, .ref mm, .ref mu, .ref mk, .ref mx, .long po, .long de])), (b, .inl (1, 108, .inl f)), (mf, .inl (0, 108, .inl ((ogS f (fa_fill (fun _ => -1) fl 108) 12).1)))]) (by rw [hog]) ?_
      exact K
    · have hn := z_nle (a := 12) (by omega) (by decide) c_31
      refine r_iload_n d_Mm_fill_34 rfl 1 rfl ?_
      refine r_if_le (tgt := 62) d_Mm_fill_35 (by decide) (fun c_35 => ?_) (fun c_35 => ?_)
      · have hgl := fa_cnt_le (fun k => decide (f k = 103)) 12
        have hz9 := z_le (b := 0) (by decide) (by omega) c_35
        have hog : (ogS f (fa_fill (fun _ => -1) fl 108) 12).1 = (fa_fill (fun _ => -1) fl 108) := by rw [ogS_no 12 (fun k hk => of_decide_eq_false (cnt_0 (p := fun k => decide (f k = 103)) 12 (by omega) k hk))]
        refine r_lv (lv' := [(2, .int (nI (fa_cnt (fun k => decide (f k = 103)) 12))), (0, .ref m), (1, .ref b)]) [1, 2, 3] rfl ?_
        refine r_cs (cs2 := [(m, .inr (12, [.int th, .ref mp, .int pt, .ref mf, .ref mh, .ref mn, .ref mt, .ref mz, .ref mc_, .ref mq, .ref mgr, .int cl, .int wa, .int co_, .int fi, .int bu, .int ho, .ref ml, .ref mi, .ref mr, .int lh, .int mg, .int wd, .int fpi, .int fal, .ref mm, .ref mu, .ref mk, .ref mx, .long po, .long de])), (b, .inl (1, 108, .inl f)), (mf, .inl (0, 108, .inl ((ogS f (fa_fill (fun _ => -1) fl 108) 12).1)))]) (by rw [hog]) ?_
        exact K
      · refine r_aload_n d_Mm_fill_38 rfl 3 rfl ?_
        refine r_iload_n d_Mm_fill_39 rfl 0 rfl ?_
        refine r_cald d_Mm_fill_40 (q0 := 1) rfl (vp_in_nI (by omega) (by omega)) (v := f x) (by rw [nI_clamp (by omega)]) ?_
        refine r_bipush d_Mm_fill_41 (v := 103) (by decide) ?_
        refine r_icmp_ne (tgt := 56) d_Mm_fill_43 (by decide) (fun c_43 => ?_) (fun c_43 => ?_)
        · refine r_iinc (lv' := [(3, .int (nI (x + 1))), (2, .int (nI (fa_cnt (fun k => decide (f k = 103)) 12))), (0, .ref m), (1, .ref b)]) (v := nI (x + 1)) d_Mm_fill_56 (j := 0) rfl (nI_add _ _) (by decide) rfl ?_
          refine r_goto (tgt := 28) d_Mm_fill_59 (by decide) ?_
          refine r_lvE (lv2 := [(3, .int (nI (x + 1))), (2, .int (nI (fa_cnt (fun k => decide (f k = 103)) 12))), (0, .ref m), (1, .ref b)]) (rfl) ?_
          refine r_cs (cs2 := [(m, .inr (12, [.int th, .ref mp, .int pt, .ref mf, .ref mh, .ref mn, .ref mt, .ref mz, .ref mc_, .ref mq, .ref mgr, .int cl, .int wa, .int co_, .int fi, .int bu, .int ho, .ref ml, .ref mi, .ref mr, .int lh, .int mg, .int wd, .int fpi, .int fal, .ref mm, .ref mu, .ref mk, .ref mx, .long po, .long de])), (b, .inl (1, 108, .inl f)), (mf, .inl (0, 108, .inl (fa_fill (fun _ => -1) fl 108)))]) (rfl) ?_
          exact ih (x + 1) (by omega) (by omega) (fun k hk => (Nat.lt_or_ge k x).elim (h3 k) (fun q => by rw [show k = x by omega]; exact c_43))
        · have hog : (ogS f (fa_fill (fun _ => -1) fl 108) 12).1 = upd (fa_fill (fun _ => -1) fl 108) x 0 := ogS_h12 hn h3 c_43
          refine r_aload_n d_Mm_fill_46 rfl 2 rfl ?_
          refine r_get fs_Mm_17 d_Mm_fill_47 (q0 := 0) rfl rfl ?_
          refine r_iload_n d_Mm_fill_50 rfl 0 rfl ?_
          refine r_iconst d_Mm_fill_51 (v := 0) (by decide) ?_
          refine r_iast d_Mm_fill_52 (q0 := 2) rfl (vp_in_nI (by omega) (by omega)) (f' := upd (fa_fill (fun _ => -1) fl 108) x 0) (by rw [nI_clamp (by omega)] <;> rfl) (cs' := [(m, .inr (12, [.int th, .ref mp, .int pt, .ref mf, .ref mh, .ref mn, .ref mt, .ref mz, .ref mc_, .ref mq, .ref mgr, .int cl, .int wa, .int co_, .int fi, .int bu, .int ho, .ref ml, .ref mi, .ref mr, .int lh, .int mg, .int wd, .int fpi, .int fal, .ref mm, .ref mu, .ref mk, .ref mx, .long po, .long de])), (b, .inl (1, 108, .inl f)), (mf, .inl (0, 108, .inl (upd (fa_fill (fun _ => -1) fl 108) x 0)))]) rfl ?_
          refine r_goto (tgt := 62) d_Mm_fill_53 (by decide) ?_
          refine r_lv (lv' := [(2, .int (nI (fa_cnt (fun k => decide (f k = 103)) 12))), (0, .ref m), (1, .ref b)]) [1, 2, 3] rfl ?_
          refine r_cs (cs2 := [(m, .inr (12, [.int th, .ref mp, .int pt, .ref mf, .ref mh, .ref mn, .ref mt, .ref mz, .ref mc_, .ref mq, .ref mgr, .int cl, .int wa, .int co_, .int fi, .int bu, .int ho, .ref ml, .ref mi, .ref mr, .int lh, .int mg, .int wd, .int fpi, .int fal, .ref mm, .ref mu, .ref mk, .ref mx, .long po, .long de])), (b, .inl (1, 108, .inl f)), (mf, .inl (0, 108, .inl ((ogS f (fa_fill (fun _ => -1) fl 108) 12).1)))]) (by rw [hog]) ?_
          exact K
set_option maxHeartbeats 4000000 in
set_option maxRecDepth 100000 in
theorem L_Mm_fill9_2 (g : zG) (m mp mf mh mn mt mz mc_ mq mgr ml mi mr mm mu mk mx : Nat) (th pt cl wa co_ fi bu ho lh mg wd fpi fal : Int32) (po de : Int64) (b : Nat) (f : Nat → Int32) (fl : Nat → Int32) (w0 : zW) (n : Nat) : ∀ (d i : Nat), i ≤ 108 → 108 < i + d → DV g M_Mm_fill (fun o cs1 => o = .inl none ∧ cs1 = [(m, .inr (12, [.int th, .ref mp, .int pt, .ref mf, .ref mh, .ref mn, .ref mt, .ref mz, .ref mc_, .ref mq, .ref mgr, .int cl, .int wa, .int co_, .int fi, .int bu, .int ho, .ref ml, .ref mi, .ref mr, .int lh, .int mg, .int wd, .int fpi, .int fal, .ref mm, .ref mu, .ref mk, .ref mx, .long po, .long de])), (b, .inl (1, 108, .inl f)), (mf, .inl (0, 108, .inl (flC f fl)))]) w0 n 2 [(2, .int (nI i)), (0, .ref m), (1, .ref b)] [] [(m, .inr (12, [.int th, .ref mp, .int pt, .ref mf, .ref mh, .ref mn, .ref mt, .ref mz, .ref mc_, .ref mq, .ref mgr, .int cl, .int wa, .int co_, .int fi, .int bu, .int ho, .ref ml, .ref mi, .ref mr, .int lh, .int mg, .int wd, .int fpi, .int fal, .ref mm, .ref mu, .ref mk, .ref mx, .long po, .long de])), (b, .inl (1, 108, .inl f)), (mf, .inl (0, 108, .inl (fa_fill (fun _ => -1) fl i)))] 0 0 := by
  intro d
  induction d with
  | zero => intro i h1 h2 ; exact absurd h2 (by omega)
  | succ d ih =>
    intro i h1 h2 
    refine r_iload_n d_Mm_fill_2 rfl 0 rfl ?_
    refine r_bipush d_Mm_fill_3 (v := 108) (by decide) ?_
    refine r_icmp_ge (tgt := 21) d_Mm_fill_5 (by decide) (fun c_5 => ?_) (fun c_5 => ?_)
    · have hn := z_le (a := 108) (by omega) (by decide) c_5
      obtain rfl : i = 108 := by omega
      refine r_aload_n d_Mm_fill_21 rfl 2 rfl ?_
      refine r_callS (As := [.ref b]) (rest := []) (csC := [(b, .inl (1, 108, .inl f))]) (is := [1]) ln_Mm_137 w_st_Mm_gates ok_Mm_fill_Mm_gates d_Mm_fill_22 (C_Mm_gates g b f) rfl rfl (Nat.le_of_ble_eq_true rfl) rfl (by decide) (by omega) (by omega) (fun E cs1 hx => ?_) (fun v cs1 hx => ?_)
      · exact absurd hx.1 (by simp)
      · obtain ⟨e1, rfl⟩ := hx
        cases e1
        refine ⟨rfl, ?_⟩
        refine r_st (st2 := [.int (nI (fa_cnt (fun k => decide (f k = 103)) 12))]) rfl ?_
        refine r_cs (cs2 := [(m, .inr (12, [.int th, .ref mp, .int pt, .ref mf, .ref mh, .ref mn, .ref mt, .ref mz, .ref mc_, .ref mq, .ref mgr, .int cl, .int wa, .int co_, .int fi, .int bu, .int ho, .ref ml, .ref mi, .ref mr, .int lh, .int mg, .int wd, .int fpi, .int fal, .ref mm, .ref mu, .ref mk, .ref mx, .long po, .long de])), (b, .inl (1, 108, .inl f)), (mf, .inl (0, 108, .inl (fa_fill (fun _ => -1) fl 108)))]) rfl ?_
        refine r_istore_n (lv' := [(2, .int (nI (fa_cnt (fun k => decide (f k = 103)) 12))), (0, .ref m), (1, .ref b)]) d_Mm_fill_25 rfl (by decide) rfl ?_
        refine r_iconst d_Mm_fill_26 (v := 0) (by decide) ?_
        refine r_istore_n (lv' := [(3, .int 0), (2, .int (nI (fa_cnt (fun k => decide (f k = 103)) 12))), (0, .ref m), (1, .ref b)]) d_Mm_fill_27 rfl (by decide) rfl ?_
        refine r_lvE (lv2 := [(3, .int (nI 0)), (2, .int (nI (fa_cnt (fun k => decide (f k = 103)) 12))), (0, .ref m), (1, .ref b)]) (rfl) ?_
        refine r_cs (cs2 := [(m, .inr (12, [.int th, .ref mp, .int pt, .ref mf, .ref mh, .ref mn, .ref mt, .ref mz, .ref mc_, .ref mq, .ref mgr, .int cl, .int wa, .int co_, .int fi, .int bu, .int ho, .ref ml, .ref mi, .ref mr, .int lh, .int mg, .int wd, .int fpi, .int fal, .ref mm, .ref mu, .ref mk, .ref mx, .long po, .long de])), (b, .inl (1, 108, .inl f)), (mf, .inl (0, 108, .inl (fa_fill (fun _ => -1) fl 108)))]) (rfl) ?_
        refine L_Mm_fill9_28 g m mp mf mh mn mt mz mc_ mq mgr ml mi mr mm mu mk mx th pt cl wa co_ fi bu ho lh mg wd fpi fal po de b f fl w0 _   (?_) (12 + 1) 0 (Nat.zero_le _) (by omega) (fun k hk => absurd hk (Nat.not_lt_zero k))
        refine r_iload_n d_Mm_fill_62 rfl 0 rfl ?_
        refine r_if_le (tgt := 70) d_Mm_fill_63 (by decide) (fun c_63 => ?_) (fun c_63 => ?_)
        · have hgl := fa_cnt_le (fun k => decide (f k = 103)) 12
          have hz9 := z_le (b := 0) (by decide) (by omega) c_63
          have hg0 : (if 0 < fa_cnt (fun k => decide (f k = 103)) 12 then 1 else 0) = (0 : Int32) := if_neg (by omega)
          refine r_iconst d_Mm_fill_70 (v := 0) (by decide) ?_
          refine r_istore_n (lv' := [(3, .int 0), (2, .int (nI (fa_cnt (fun k => decide (f k = 103)) 12))), (0, .ref m), (1, .ref b)]) d_Mm_fill_71 rfl (by decide) rfl ?_
          refine r_iconst d_Mm_fill_72 (v := 1) (by decide) ?_
          refine r_istore (lv' := [(4, .int 1), (3, .int 0), (2, .int (nI (fa_cnt (fun k => decide (f k = 103)) 12))), (0, .ref m), (1, .ref b)]) d_Mm_fill_73 (by decide) rfl ?_
          refine r_lv (lv' := [(3, .int 0), (4, .int 1), (2, .int (nI (fa_cnt (fun k => decide (f k = 103)) 12))), (0, .ref m), (1, .ref b)]) [1, 0, 2, 3, 4] rfl ?_
          refine r_lvE (lv2 := [(3, .int ((rfT f (fa_cnt (fun k => decide (f k = 103)) 12) (ogS f (fa_fill (fun _ => -1) fl 108) 12).1 (if 0 < fa_cnt (fun k => decide (f k = 103)) 12 then 1 else 0) 0).2)), (4, .int (nI (0 + 1))), (2, .int (nI (fa_cnt (fun k => decide (f k = 103)) 12))), (0, .ref m), (1, .ref b)]) (by rw [show (rfT f (fa_cnt (fun k => decide (f k = 103)) 12) (ogS f (fa_fill (fun _ => -1) fl 108) 12).1 (if 0 < fa_cnt (fun k => decide (f k = 103)) 12 then 1 else 0) 0) = ((ogS f (fa_fill (fun _ => -1) fl 108) 12).1, (if 0 < fa_cnt (fun k => decide (f k = 103)) 12 then 1 else 0)) from rfl, hg0] <;> rfl) ?_
          refine r_cs (cs2 := [(m, .inr (12, [.int th, .ref mp, .int pt, .ref mf, .ref mh, .ref mn, .ref mt, .ref mz, .ref mc_, .ref mq, .ref mgr, .int cl, .int wa, .int co_, .int fi, .int bu, .int ho, .ref ml, .ref mi, .ref mr, .int lh, .int mg, .int wd, .int fpi, .int fal, .ref mm, .ref mu, .ref mk, .ref mx, .long po, .long de])), (b, .inl (1, 108, .inl f)), (mf, .inl (0, 108, .inl ((rfT f (fa_cnt (fun k => decide (f k = 103)) 12) (ogS f (fa_fill (fun _ => -1) fl 108) 12).1 (if 0 < fa_cnt (fun k => decide (f k = 103)) 12 then 1 else 0) 0).1)))]) (rfl) ?_
          exact L_Mm_fill9_75 g m mp mf mh mn mt mz mc_ mq mgr ml mi mr mm mu mk mx th pt cl wa co_ fi bu ho lh mg wd fpi fal po de b f fl w0 _  (109 + 1) 0 (Nat.zero_le _) (by omega)
        · have hgl := fa_cnt_le (fun k => decide (f k = 103)) 12
          have hz9 := z_nle (b := 0) (by decide) (by omega) c_63
          have hg0 : (if 0 < fa_cnt (fun k => decide (f k = 103)) 12 then 1 else 0) = (1 : Int32) := if_pos (by omega)
          refine r_iconst d_Mm_fill_66 (v := 1) (by decide) ?_
          refine r_goto (tgt := 71) d_Mm_fill_67 (by decide) ?_
          refine r_istore_n (lv' := [(3, .int 1), (2, .int (nI (fa_cnt (fun k => decide (f k = 103)) 12))), (0, .ref m), (1, .ref b)]) d_Mm_fill_71 rfl (by decide) rfl ?_
          refine r_iconst d_Mm_fill_72 (v := 1) (by decide) ?_
          refine r_istore (lv' := [(4, .int 1), (3, .int 1), (2, .int (nI (fa_cnt (fun k => decide (f k = 103)) 12))), (0, .ref m), (1, .ref b)]) d_Mm_fill_73 (by decide) rfl ?_
          refine r_lv (lv' := [(3, .int 1), (4, .int 1), (2, .int (nI (fa_cnt (fun k => decide (f k = 103)) 12))), (0, .ref m), (1, .ref b)]) [1, 0, 2, 3, 4] rfl ?_
          refine r_lvE (lv2 := [(3, .int ((rfT f (fa_cnt (fun k => decide (f k = 103)) 12) (ogS f (fa_fill (fun _ => -1) fl 108) 12).1 (if 0 < fa_cnt (fun k => decide (f k = 103)) 12 then 1 else 0) 0).2)), (4, .int (nI (0 + 1))), (2, .int (nI (fa_cnt (fun k => decide (f k = 103)) 12))), (0, .ref m), (1, .ref b)]) (by rw [show (rfT f (fa_cnt (fun k => decide (f k = 103)) 12) (ogS f (fa_fill (fun _ => -1) fl 108) 12).1 (if 0 < fa_cnt (fun k => decide (f k = 103)) 12 then 1 else 0) 0) = ((ogS f (fa_fill (fun _ => -1) fl 108) 12).1, (if 0 < fa_cnt (fun k => decide (f k = 103)) 12 then 1 else 0)) from rfl, hg0] <;> rfl) ?_
          refine r_cs (cs2 := [(m, .inr (12, [.int th, .ref mp, .int pt, .ref mf, .ref mh, .ref mn, .ref mt, .ref mz, .ref mc_, .ref mq, .ref mgr, .int cl, .int wa, .int co_, .int fi, .int bu, .int ho, .ref ml, .ref mi, .ref mr, .int lh, .int mg, .int wd, .int fpi, .int fal, .ref mm, .ref mu, .ref mk, .ref mx, .long po, .long de])), (b, .inl (1, 108, .inl f)), (mf, .inl (0, 108, .inl ((rfT f (fa_cnt (fun k => decide (f k = 103)) 12) (ogS f (fa_fill (fun _ => -1) fl 108) 12).1 (if 0 < fa_cnt (fun k => decide (f k = 103)) 12 then 1 else 0) 0).1)))]) (rfl) ?_
          exact L_Mm_fill9_75 g m mp mf mh mn mt mz mc_ mq mgr ml mi mr mm mu mk mx th pt cl wa co_ fi bu ho lh mg wd fpi fal po de b f fl w0 _  (109 + 1) 0 (Nat.zero_le _) (by omega)
    · have hn := z_nle (a := 108) (by omega) (by decide) c_5
      refine r_aload_n d_Mm_fill_8 rfl 1 rfl ?_
      refine r_get fs_Mm_17 d_Mm_fill_9 (q0 := 0) rfl rfl ?_
      refine r_iload_n d_Mm_fill_12 rfl 0 rfl ?_
      refine r_iconst d_Mm_fill_13 (v := (-1)) (by decide) ?_
      refine r_iast d_Mm_fill_14 (q0 := 2) rfl (vp_in_nI (by omega) (by omega)) (f' := fa_fill (fun _ => -1) fl (i + 1)) (by rw [nI_clamp (by omega)]; exact fill_nI (-1) fl i) (cs' := [(m, .inr (12, [.int th, .ref mp, .int pt, .ref mf, .ref mh, .ref mn, .ref mt, .ref mz, .ref mc_, .ref mq, .ref mgr, .int cl, .int wa, .int co_, .int fi, .int bu, .int ho, .ref ml, .ref mi, .ref mr, .int lh, .int mg, .int wd, .int fpi, .int fal, .ref mm, .ref mu, .ref mk, .ref mx, .long po, .long de])), (b, .inl (1, 108, .inl f)), (mf, .inl (0, 108, .inl (fa_fill (fun _ => -1) fl (i + 1))))]) rfl ?_
      refine r_iinc (lv' := [(2, .int (nI (i + 1))), (0, .ref m), (1, .ref b)]) (v := nI (i + 1)) d_Mm_fill_15 (j := 0) rfl (nI_add _ _) (by decide) rfl ?_
      refine r_goto (tgt := 2) d_Mm_fill_18 (by decide) ?_
      refine r_lvE (lv2 := [(2, .int (nI (i + 1))), (0, .ref m), (1, .ref b)]) (rfl) ?_
      refine r_cs (cs2 := [(m, .inr (12, [.int th, .ref mp, .int pt, .ref mf, .ref mh, .ref mn, .ref mt, .ref mz, .ref mc_, .ref mq, .ref mgr, .int cl, .int wa, .int co_, .int fi, .int bu, .int ho, .ref ml, .ref mi, .ref mr, .int lh, .int mg, .int wd, .int fpi, .int fal, .ref mm, .ref mu, .ref mk, .ref mx, .long po, .long de])), (b, .inl (1, 108, .inl f)), (mf, .inl (0, 108, .inl (fa_fill (fun _ => -1) fl (i + 1))))]) (rfl) ?_
      exact ih (i + 1) (by omega) (by omega)
set_option maxHeartbeats 4000000 in
set_option maxRecDepth 100000 in
theorem C_Mm_fill9 (g : zG) (m mp mf mh mn mt mz mc_ mq mgr ml mi mr mm mu mk mx : Nat) (th pt cl wa co_ fi bu ho lh mg wd fpi fal : Int32) (po de : Int64) (b : Nat) (f : Nat → Int32) (fl : Nat → Int32) : CT g M_Mm_fill [.ref m, .ref b] [(m, .inr (12, [.int th, .ref mp, .int pt, .ref mf, .ref mh, .ref mn, .ref mt, .ref mz, .ref mc_, .ref mq, .ref mgr, .int cl, .int wa, .int co_, .int fi, .int bu, .int ho, .ref ml, .ref mi, .ref mr, .int lh, .int mg, .int wd, .int fpi, .int fal, .ref mm, .ref mu, .ref mk, .ref mx, .long po, .long de])), (b, .inl (1, 108, .inl f)), (mf, .inl (0, 108, .inl fl))] (fun o cs1 => o = .inl none ∧ cs1 = [(m, .inr (12, [.int th, .ref mp, .int pt, .ref mf, .ref mh, .ref mn, .ref mt, .ref mz, .ref mc_, .ref mq, .ref mgr, .int cl, .int wa, .int co_, .int fi, .int bu, .int ho, .ref ml, .ref mi, .ref mr, .int lh, .int mg, .int wd, .int fpi, .int fal, .ref mm, .ref mu, .ref mk, .ref mx, .long po, .long de])), (b, .inl (1, 108, .inl f)), (mf, .inl (0, 108, .inl (flC f fl)))]) 0 0 := by
  refine z_of (by decide) rfl (Nat.le_of_ble_eq_true rfl) (fun w0 => ?_)
  refine r_lvE (lv2 := [(0, .ref m), (1, .ref b)]) rfl ?_
  refine r_iconst d_Mm_fill_0 (v := 0) (by decide) ?_
  refine r_istore_n (lv' := [(2, .int 0), (0, .ref m), (1, .ref b)]) d_Mm_fill_1 rfl (by decide) rfl ?_
  refine r_lvE (lv2 := [(2, .int (nI 0)), (0, .ref m), (1, .ref b)]) (rfl) ?_
  refine r_cs (cs2 := [(m, .inr (12, [.int th, .ref mp, .int pt, .ref mf, .ref mh, .ref mn, .ref mt, .ref mz, .ref mc_, .ref mq, .ref mgr, .int cl, .int wa, .int co_, .int fi, .int bu, .int ho, .ref ml, .ref mi, .ref mr, .int lh, .int mg, .int wd, .int fpi, .int fal, .ref mm, .ref mu, .ref mk, .ref mx, .long po, .long de])), (b, .inl (1, 108, .inl f)), (mf, .inl (0, 108, .inl (fa_fill (fun _ => -1) fl 0)))]) (rfl) ?_
  exact L_Mm_fill9_2 g m mp mf mh mn mt mz mc_ mq mgr ml mi mr mm mu mk mx th pt cl wa co_ fi bu ho lh mg wd fpi fal po de b f fl w0 _  (108 + 1) 0 (Nat.zero_le _) (by omega)
end
