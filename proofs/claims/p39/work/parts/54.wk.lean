theorem cn_lt {gp : Nat → Int32} {c : Nat} (h : ¬ gp c = -1) : ∀ n, c < n → fa_cnt (fun k => decide (gp k = -1)) n + 1 ≤ n
  | 0, q => absurd q (by omega)
  | n + 1, q => by
    by_cases hn : n = c
    · subst hn
      rw [fa_cnt_no (p := fun k => decide (gp k = -1)) (decide_eq_false h)]
      have := fa_cnt_le (fun k => decide (gp k = -1)) n
      omega
    · have ih := cn_lt h n (by omega)
      rw [fa_cnt]
      split <;> omega
def qG (gp : Nat → Int32) (qn : Nat → Nat) (e c : Nat) : Prop := (∀ k, k < e → qn k < 108) ∧ e + cnM gp ≤ 108 ∧ ¬ gp c = -1
theorem qG_up {gp : Nat → Int32} {qn : Nat → Nat} {e c oo : Nat} (hoo : oo < 108) (h0 : gp oo = -1) (h : qG gp qn e c) : qG (upd gp oo (gp c)) (updN qn e oo) (e + 1) c := by
  have h1 := cn_up hoo h0 h.2.2
  have h2 := h.2.1
  refine ⟨fun k hk => ?_, by omega, ?_⟩
  · unfold updN
    split
    · exact hoo
    · exact h.1 k (by omega)
  · have h3 := h.2.2
    unfold upd
    split
    · exact h3
    · exact h3
theorem qG_lt {gp : Nat → Int32} {qn : Nat → Nat} {e c oo : Nat} (hoo : oo < 108) (h0 : gp oo = -1) (h : qG gp qn e c) : e < 108 := by
  have h1 := cn_up hoo h0 h.2.2
  have h2 := h.2.1
  omega
theorem qG_1 {gp : Nat → Int32} {qn : Nat → Nat} {c : Nat} (hc : c < 108) (h : ¬ gp c = -1) : qG gp (updN qn 0 c) 1 c := by
  have h1 := cn_lt h 108 hc
  refine ⟨fun k hk => ?_, by unfold cnM; omega, h⟩
  unfold updN
  rw [if_pos (by omega)]
  exact hc
theorem qG_le {gp : Nat → Int32} {qn : Nat → Nat} {e c : Nat} (h : qG gp qn e c) : e ≤ 108 := by have := h.2.1; omega
abbrev M_Mm_spread : zM := (⟨"IronpourModel", "spread", "([CI)V"⟩, prog_14_method_14_code, 7, (Option.none : Option FieldType), 4, 86, [])
theorem d_Mm_spread_21 : decode prog_14_method_14_code 21 = .ok (.iload 5, 2) := zo_21 (d := 5) (zd_b zq_prog_14_method_14_code_0 21 rfl rfl rfl) (zd_b zq_prog_14_method_14_code_0 22 rfl rfl rfl)
theorem d_Mm_spread_23 : decode prog_14_method_14_code 23 = .ok (.iconst 4, 1) := zo_7 (zd_b zq_prog_14_method_14_code_0 23 rfl rfl rfl)
theorem d_Mm_spread_24 : decode prog_14_method_14_code 24 = .ok (.if_icmp .ge 73, 3) := zo_162 (d := 0) (e := 73) (zd_b zq_prog_14_method_14_code_0 24 rfl rfl rfl) (zd_b zq_prog_14_method_14_code_0 25 rfl rfl rfl) (zd_b zq_prog_14_method_14_code_0 26 rfl rfl rfl) (by decide +kernel)
theorem d_Mm_spread_27 : decode prog_14_method_14_code 27 = .ok (.aload_n 0, 1) := zo_42 (zd_b zq_prog_14_method_14_code_0 27 rfl rfl rfl)
theorem d_Mm_spread_28 : decode prog_14_method_14_code 28 = .ok (.getfield 37, 3) := zo_180 (d := 0) (e := 37) (zd_b zq_prog_14_method_14_code_0 28 rfl rfl rfl) (zd_b zq_prog_14_method_14_code_0 29 rfl rfl rfl) (zd_b zq_prog_14_method_14_code_0 30 rfl rfl rfl)
theorem d_Mm_spread_31 : decode prog_14_method_14_code 31 = .ok (.iload 4, 2) := zo_21 (d := 4) (zd_b zq_prog_14_method_14_code_0 31 rfl rfl rfl) (zd_b zq_prog_14_method_14_code_1 0 rfl rfl rfl)
theorem d_Mm_spread_33 : decode prog_14_method_14_code 33 = .ok (.iaload, 1) := zo_46 (zd_b zq_prog_14_method_14_code_1 1 rfl rfl rfl)
theorem d_Mm_spread_34 : decode prog_14_method_14_code 34 = .ok (.iload 5, 2) := zo_21 (d := 5) (zd_b zq_prog_14_method_14_code_1 2 rfl rfl rfl) (zd_b zq_prog_14_method_14_code_1 3 rfl rfl rfl)
theorem d_Mm_spread_36 : decode prog_14_method_14_code 36 = .ok (.invokestatic 119, 3) := zo_184 (d := 0) (e := 119) (zd_b zq_prog_14_method_14_code_1 4 rfl rfl rfl) (zd_b zq_prog_14_method_14_code_1 5 rfl rfl rfl) (zd_b zq_prog_14_method_14_code_1 6 rfl rfl rfl)
theorem ok_Mm_spread_Mm_beside : z_ok M_Mm_spread M_Mm_beside 2 := ⟨z_mj7 (i := 229) rfl (by decide +kernel), rfl, ⟨by decide +kernel, by decide +kernel, by decide +kernel⟩, ⟨by decide, by decide⟩, z_mj1 (i := 14) rfl (by decide +kernel), rfl⟩
theorem d_Mm_spread_39 : decode prog_14_method_14_code 39 = .ok (.istore 6, 2) := zo_54 (d := 6) (zd_b zq_prog_14_method_14_code_1 7 rfl rfl rfl) (zd_b zq_prog_14_method_14_code_1 8 rfl rfl rfl)
theorem d_Mm_spread_41 : decode prog_14_method_14_code 41 = .ok (.iload 6, 2) := zo_21 (d := 6) (zd_b zq_prog_14_method_14_code_1 9 rfl rfl rfl) (zd_b zq_prog_14_method_14_code_1 10 rfl rfl rfl)
theorem d_Mm_spread_43 : decode prog_14_method_14_code 43 = .ok (.iconst (-1), 1) := zo_2 (zd_b zq_prog_14_method_14_code_1 11 rfl rfl rfl)
theorem d_Mm_spread_44 : decode prog_14_method_14_code 44 = .ok (.if_icmp .eq 47, 3) := zo_159 (d := 0) (e := 47) (zd_b zq_prog_14_method_14_code_1 12 rfl rfl rfl) (zd_b zq_prog_14_method_14_code_1 13 rfl rfl rfl) (zd_b zq_prog_14_method_14_code_1 14 rfl rfl rfl) (by decide +kernel)
theorem d_Mm_spread_91 : decode prog_14_method_14_code 91 = .ok (.iinc 5 1, 3) := by decide +kernel
theorem d_Mm_spread_94 : decode prog_14_method_14_code 94 = .ok (.goto (-73), 3) := zo_167 (d := 255) (e := 183) (zd_b zq_prog_14_method_14_code_2 30 rfl rfl rfl) (zd_b zq_prog_14_method_14_code_2 31 rfl rfl rfl) (zd_b zq_prog_14_method_14_code_3 0 rfl rfl rfl) (by decide +kernel)
theorem d_Mm_spread_47 : decode prog_14_method_14_code 47 = .ok (.aload_n 1, 1) := zo_43 (zd_b zq_prog_14_method_14_code_1 15 rfl rfl rfl)
theorem d_Mm_spread_48 : decode prog_14_method_14_code 48 = .ok (.iload 6, 2) := zo_21 (d := 6) (zd_b zq_prog_14_method_14_code_1 16 rfl rfl rfl) (zd_b zq_prog_14_method_14_code_1 17 rfl rfl rfl)
theorem d_Mm_spread_50 : decode prog_14_method_14_code 50 = .ok (.caload, 1) := zo_52 (zd_b zq_prog_14_method_14_code_1 18 rfl rfl rfl)
theorem d_Mm_spread_51 : decode prog_14_method_14_code 51 = .ok (.bipush 111, 2) := zo_16 (d := 111) (zd_b zq_prog_14_method_14_code_1 19 rfl rfl rfl) (zd_b zq_prog_14_method_14_code_1 20 rfl rfl rfl) (by decide +kernel)
theorem d_Mm_spread_53 : decode prog_14_method_14_code 53 = .ok (.if_icmp .ne 38, 3) := zo_160 (d := 0) (e := 38) (zd_b zq_prog_14_method_14_code_1 21 rfl rfl rfl) (zd_b zq_prog_14_method_14_code_1 22 rfl rfl rfl) (zd_b zq_prog_14_method_14_code_1 23 rfl rfl rfl) (by decide +kernel)
theorem d_Mm_spread_56 : decode prog_14_method_14_code 56 = .ok (.aload_n 0, 1) := zo_42 (zd_b zq_prog_14_method_14_code_1 24 rfl rfl rfl)
theorem d_Mm_spread_57 : decode prog_14_method_14_code 57 = .ok (.getfield 40, 3) := zo_180 (d := 0) (e := 40) (zd_b zq_prog_14_method_14_code_1 25 rfl rfl rfl) (zd_b zq_prog_14_method_14_code_1 26 rfl rfl rfl) (zd_b zq_prog_14_method_14_code_1 27 rfl rfl rfl)
theorem d_Mm_spread_60 : decode prog_14_method_14_code 60 = .ok (.iload 6, 2) := zo_21 (d := 6) (zd_b zq_prog_14_method_14_code_1 28 rfl rfl rfl) (zd_b zq_prog_14_method_14_code_1 29 rfl rfl rfl)
theorem d_Mm_spread_62 : decode prog_14_method_14_code 62 = .ok (.iaload, 1) := zo_46 (zd_b zq_prog_14_method_14_code_1 30 rfl rfl rfl)
theorem d_Mm_spread_63 : decode prog_14_method_14_code 63 = .ok (.iconst (-1), 1) := zo_2 (zd_b zq_prog_14_method_14_code_1 31 rfl rfl rfl)
theorem d_Mm_spread_64 : decode prog_14_method_14_code 64 = .ok (.if_icmp .ne 27, 3) := zo_160 (d := 0) (e := 27) (zd_b zq_prog_14_method_14_code_2 0 rfl rfl rfl) (zd_b zq_prog_14_method_14_code_2 1 rfl rfl rfl) (zd_b zq_prog_14_method_14_code_2 2 rfl rfl rfl) (by decide +kernel)
theorem d_Mm_spread_67 : decode prog_14_method_14_code 67 = .ok (.aload_n 0, 1) := zo_42 (zd_b zq_prog_14_method_14_code_2 3 rfl rfl rfl)
theorem d_Mm_spread_68 : decode prog_14_method_14_code 68 = .ok (.getfield 40, 3) := zo_180 (d := 0) (e := 40) (zd_b zq_prog_14_method_14_code_2 4 rfl rfl rfl) (zd_b zq_prog_14_method_14_code_2 5 rfl rfl rfl) (zd_b zq_prog_14_method_14_code_2 6 rfl rfl rfl)
theorem d_Mm_spread_71 : decode prog_14_method_14_code 71 = .ok (.iload 6, 2) := zo_21 (d := 6) (zd_b zq_prog_14_method_14_code_2 7 rfl rfl rfl) (zd_b zq_prog_14_method_14_code_2 8 rfl rfl rfl)
theorem d_Mm_spread_73 : decode prog_14_method_14_code 73 = .ok (.aload_n 0, 1) := zo_42 (zd_b zq_prog_14_method_14_code_2 9 rfl rfl rfl)
theorem d_Mm_spread_74 : decode prog_14_method_14_code 74 = .ok (.getfield 40, 3) := zo_180 (d := 0) (e := 40) (zd_b zq_prog_14_method_14_code_2 10 rfl rfl rfl) (zd_b zq_prog_14_method_14_code_2 11 rfl rfl rfl) (zd_b zq_prog_14_method_14_code_2 12 rfl rfl rfl)
theorem d_Mm_spread_77 : decode prog_14_method_14_code 77 = .ok (.iload_n 2, 1) := zo_28 (zd_b zq_prog_14_method_14_code_2 13 rfl rfl rfl)
theorem d_Mm_spread_78 : decode prog_14_method_14_code 78 = .ok (.iaload, 1) := zo_46 (zd_b zq_prog_14_method_14_code_2 14 rfl rfl rfl)
theorem d_Mm_spread_79 : decode prog_14_method_14_code 79 = .ok (.iastore, 1) := zo_79 (zd_b zq_prog_14_method_14_code_2 15 rfl rfl rfl)
theorem d_Mm_spread_80 : decode prog_14_method_14_code 80 = .ok (.aload_n 0, 1) := zo_42 (zd_b zq_prog_14_method_14_code_2 16 rfl rfl rfl)
theorem d_Mm_spread_81 : decode prog_14_method_14_code 81 = .ok (.getfield 37, 3) := zo_180 (d := 0) (e := 37) (zd_b zq_prog_14_method_14_code_2 17 rfl rfl rfl) (zd_b zq_prog_14_method_14_code_2 18 rfl rfl rfl) (zd_b zq_prog_14_method_14_code_2 19 rfl rfl rfl)
theorem d_Mm_spread_84 : decode prog_14_method_14_code 84 = .ok (.iload_n 3, 1) := zo_29 (zd_b zq_prog_14_method_14_code_2 20 rfl rfl rfl)
theorem d_Mm_spread_85 : decode prog_14_method_14_code 85 = .ok (.iload 6, 2) := zo_21 (d := 6) (zd_b zq_prog_14_method_14_code_2 21 rfl rfl rfl) (zd_b zq_prog_14_method_14_code_2 22 rfl rfl rfl)
theorem d_Mm_spread_87 : decode prog_14_method_14_code 87 = .ok (.iastore, 1) := zo_79 (zd_b zq_prog_14_method_14_code_2 23 rfl rfl rfl)
theorem d_Mm_spread_88 : decode prog_14_method_14_code 88 = .ok (.iinc 3 1, 3) := by decide +kernel
theorem d_Mm_spread_12 : decode prog_14_method_14_code 12 = .ok (.iload 4, 2) := zo_21 (d := 4) (zd_b zq_prog_14_method_14_code_0 12 rfl rfl rfl) (zd_b zq_prog_14_method_14_code_0 13 rfl rfl rfl)
theorem d_Mm_spread_14 : decode prog_14_method_14_code 14 = .ok (.iload_n 3, 1) := zo_29 (zd_b zq_prog_14_method_14_code_0 14 rfl rfl rfl)
theorem d_Mm_spread_15 : decode prog_14_method_14_code 15 = .ok (.if_icmp .ge 88, 3) := zo_162 (d := 0) (e := 88) (zd_b zq_prog_14_method_14_code_0 15 rfl rfl rfl) (zd_b zq_prog_14_method_14_code_0 16 rfl rfl rfl) (zd_b zq_prog_14_method_14_code_0 17 rfl rfl rfl) (by decide +kernel)
theorem d_Mm_spread_103 : decode prog_14_method_14_code 103 = .ok (.return_, 1) := zo_177 (zd_b zq_prog_14_method_14_code_3 7 rfl rfl rfl)
theorem d_Mm_spread_18 : decode prog_14_method_14_code 18 = .ok (.iconst 0, 1) := zo_3 (zd_b zq_prog_14_method_14_code_0 18 rfl rfl rfl)
theorem d_Mm_spread_19 : decode prog_14_method_14_code 19 = .ok (.istore 5, 2) := zo_54 (d := 5) (zd_b zq_prog_14_method_14_code_0 19 rfl rfl rfl) (zd_b zq_prog_14_method_14_code_0 20 rfl rfl rfl)
theorem d_Mm_spread_97 : decode prog_14_method_14_code 97 = .ok (.iinc 4 1, 3) := by decide +kernel
theorem d_Mm_spread_100 : decode prog_14_method_14_code 100 = .ok (.goto (-88), 3) := zo_167 (d := 255) (e := 168) (zd_b zq_prog_14_method_14_code_3 4 rfl rfl rfl) (zd_b zq_prog_14_method_14_code_3 5 rfl rfl rfl) (zd_b zq_prog_14_method_14_code_3 6 rfl rfl rfl) (by decide +kernel)
theorem d_Mm_spread_0 : decode prog_14_method_14_code 0 = .ok (.aload_n 0, 1) := zo_42 (zd_b zq_prog_14_method_14_code_0 0 rfl rfl rfl)
theorem d_Mm_spread_1 : decode prog_14_method_14_code 1 = .ok (.getfield 37, 3) := zo_180 (d := 0) (e := 37) (zd_b zq_prog_14_method_14_code_0 1 rfl rfl rfl) (zd_b zq_prog_14_method_14_code_0 2 rfl rfl rfl) (zd_b zq_prog_14_method_14_code_0 3 rfl rfl rfl)
theorem d_Mm_spread_4 : decode prog_14_method_14_code 4 = .ok (.iconst 0, 1) := zo_3 (zd_b zq_prog_14_method_14_code_0 4 rfl rfl rfl)
theorem d_Mm_spread_5 : decode prog_14_method_14_code 5 = .ok (.iload_n 2, 1) := zo_28 (zd_b zq_prog_14_method_14_code_0 5 rfl rfl rfl)
theorem d_Mm_spread_6 : decode prog_14_method_14_code 6 = .ok (.iastore, 1) := zo_79 (zd_b zq_prog_14_method_14_code_0 6 rfl rfl rfl)
theorem d_Mm_spread_7 : decode prog_14_method_14_code 7 = .ok (.iconst 1, 1) := zo_4 (zd_b zq_prog_14_method_14_code_0 7 rfl rfl rfl)
theorem d_Mm_spread_8 : decode prog_14_method_14_code 8 = .ok (.istore_n 3, 1) := zo_62 (zd_b zq_prog_14_method_14_code_0 8 rfl rfl rfl)
theorem d_Mm_spread_9 : decode prog_14_method_14_code 9 = .ok (.iconst 0, 1) := zo_3 (zd_b zq_prog_14_method_14_code_0 9 rfl rfl rfl)
theorem d_Mm_spread_10 : decode prog_14_method_14_code 10 = .ok (.istore 4, 2) := zo_54 (d := 4) (zd_b zq_prog_14_method_14_code_0 10 rfl rfl rfl) (zd_b zq_prog_14_method_14_code_0 11 rfl rfl rfl)
set_option maxHeartbeats 4000000 in
set_option maxRecDepth 100000 in
theorem L_Mm_spreadW_21 (g : zG) (m mp mf mh mn mt mz mc_ mq mgr ml mi mr mm mu mk mx : Nat) (th pt cl wa co_ fi bu ho lh mg wd fpi fal : Int32) (po de : Int64) (b : Nat) (f : Nat → Int32) (gp0 : Nat → Int32) (qn : Nat → Nat) (c : Nat) (hc : c < 108) (hg : ¬ gp0 c = -1) (w0 : zW) (n : Nat) (j : Nat) (K : ∀ (gp : Nat → Int32) (qn : Nat → Nat) (e : Nat), qG gp qn e c → j < e → DV g M_Mm_spread (fun o cs1 => ∃ (gp9 : Nat → Int32) (qn9 : Nat → Nat), o = .inl none ∧ cs1 = [(m, .inr (12, [.int th, .ref mp, .int pt, .ref mf, .ref mh, .ref mn, .ref mt, .ref mz, .ref mc_, .ref mq, .ref mgr, .int cl, .int wa, .int co_, .int fi, .int bu, .int ho, .ref ml, .ref mi, .ref mr, .int lh, .int mg, .int wd, .int fpi, .int fal, .ref mm, .ref mu, .ref mk, .ref mx, .long po, .long de])), (b, .inl (1, 108, .inl f)), (mgr, .inl (0, 108, .inl gp9)), (mq, .inl (0, 108, .inl (fun k => nI (qn9 k))))]) w0 n 97 [(4, .int (nI j)), (3, .int (nI e)), (0, .ref m), (1, .ref b), (2, .int (nI c))] [] [(m, .inr (12, [.int th, .ref mp, .int pt, .ref mf, .ref mh, .ref mn, .ref mt, .ref mz, .ref mc_, .ref mq, .ref mgr, .int cl, .int wa, .int co_, .int fi, .int bu, .int ho, .ref ml, .ref mi, .ref mr, .int lh, .int mg, .int wd, .int fpi, .int fal, .ref mm, .ref mu, .ref mk, .ref mx, .long po, .long de])), (b, .inl (1, 108, .inl f)), (mgr, .inl (0, 108, .inl gp)), (mq, .inl (0, 108, .inl (fun k => nI (qn k))))] 0 0) : ∀ (d i : Nat) (gp : Nat → Int32) (qn : Nat → Nat) (e : Nat), i ≤ 4 → 4 < i + d → qG gp qn e c → j < e → DV g M_Mm_spread (fun o cs1 => ∃ (gp9 : Nat → Int32) (qn9 : Nat → Nat), o = .inl none ∧ cs1 = [(m, .inr (12, [.int th, .ref mp, .int pt, .ref mf, .ref mh, .ref mn, .ref mt, .ref mz, .ref mc_, .ref mq, .ref mgr, .int cl, .int wa, .int co_, .int fi, .int bu, .int ho, .ref ml, .ref mi, .ref mr, .int lh, .int mg, .int wd, .int fpi, .int fal, .ref mm, .ref mu, .ref mk, .ref mx, .long po, .long de])), (b, .inl (1, 108, .inl f)), (mgr, .inl (0, 108, .inl gp9)), (mq, .inl (0, 108, .inl (fun k => nI (qn9 k))))]) w0 n 21 [(5, .int (nI i)), (4, .int (nI j)), (3, .int (nI e)), (0, .ref m), (1, .ref b), (2, .int (nI c))] [] [(m, .inr (12, [.int th, .ref mp, .int pt, .ref mf, .ref mh, .ref mn, .ref mt, .ref mz, .ref mc_, .ref mq, .ref mgr, .int cl, .int wa, .int co_, .int fi, .int bu, .int ho, .ref ml, .ref mi, .ref mr, .int lh, .int mg, .int wd, .int fpi, .int fal, .ref mm, .ref mu, .ref mk, .ref mx, .long po, .long de])), (b, .inl (1, 108, .inl f)), (mgr, .inl (0, 108, .inl gp)), (mq, .inl (0, 108, .inl (fun k => nI (qn k))))] 0 0 := by
  intro d
  induction d with
  | zero => intro i gp qn e h1 h2 v1 v2; exact absurd h2 (by omega)
  | succ d ih =>
    intro i gp qn e h1 h2 v1 v2
    refine r_iload d_Mm_spread_21 0 rfl ?_
    refine r_iconst d_Mm_spread_23 (v := 4) (by decide) ?_
    refine r_icmp_ge (tgt := 97) d_Mm_spread_24 (by decide) (fun c_24 => ?_) (fun c_24 => ?_)
    · have hn := z_le (a := 4) (by omega) (by decide) c_24
      obtain rfl : i = 4 := by omega
      refine r_lv (lv' := [(4, .int (nI j)), (3, .int (nI e)), (0, .ref m), (1, .ref b), (2, .int (nI c))]) [1, 2, 3, 4, 5] rfl ?_
      exact K _ _ _ v1 v2
    · have he9 := qG_le v1
      have hn := z_nle (a := 4) (by omega) (by decide) c_24
      have hq9 := v1.1 j v2
      refine r_aload_n d_Mm_spread_27 rfl 3 rfl ?_
      refine r_get fs_Mm_37 d_Mm_spread_28 (q0 := 0) rfl rfl ?_
      refine r_iload d_Mm_spread_31 1 rfl ?_
      refine r_iald d_Mm_spread_33 (q0 := 3) rfl (vp_in_nI (by omega) (by omega)) (v := nI (qn j)) (by rw [nI_clamp (by omega)]) ?_
      refine r_iload d_Mm_spread_34 0 rfl ?_
      refine r_callS (As := [.int (nI (qn j)), .int (nI i)]) (rest := []) (csC := []) (is := []) ln_Mm_119 w_st_Mm_beside ok_Mm_spread_Mm_beside d_Mm_spread_36 (C_Mm_beside g (qn j) i (by omega) (by omega)) rfl rfl (Nat.le_of_ble_eq_true rfl) rfl (by decide) (by omega) (by omega) (fun E cs1 hx => ?_) (fun v cs1 hx => ?_)
      · exact absurd hx.1 (by simp)
      · obtain ⟨e1, rfl⟩ := hx
        cases e1
        refine ⟨rfl, ?_⟩
        refine r_st (st2 := [.int (oI (bs (qn j) i))]) rfl ?_
        refine r_cs (cs2 := [(m, .inr (12, [.int th, .ref mp, .int pt, .ref mf, .ref mh, .ref mn, .ref mt, .ref mz, .ref mc_, .ref mq, .ref mgr, .int cl, .int wa, .int co_, .int fi, .int bu, .int ho, .ref ml, .ref mi, .ref mr, .int lh, .int mg, .int wd, .int fpi, .int fal, .ref mm, .ref mu, .ref mk, .ref mx, .long po, .long de])), (b, .inl (1, 108, .inl f)), (mgr, .inl (0, 108, .inl gp)), (mq, .inl (0, 108, .inl (fun k => nI (qn k))))]) rfl ?_
        refine r_istore (lv' := [(6, .int (oI (bs (qn j) i))), (5, .int (nI i)), (4, .int (nI j)), (3, .int (nI e)), (0, .ref m), (1, .ref b), (2, .int (nI c))]) d_Mm_spread_39 (by decide) rfl ?_
        refine r_iload d_Mm_spread_41 0 rfl ?_
        refine r_iconst d_Mm_spread_43 (v := (-1)) (by decide) ?_
        refine r_icmp_eq (tgt := 91) d_Mm_spread_44 (by decide) (fun c_44 => ?_) (fun c_44 => ?_)
        · refine r_iinc (lv' := [(5, .int (nI (i + 1))), (6, .int (oI (bs (qn j) i))), (4, .int (nI j)), (3, .int (nI e)), (0, .ref m), (1, .ref b), (2, .int (nI c))]) (v := nI (i + 1)) d_Mm_spread_91 (j := 1) rfl (nI_add _ _) (by decide) rfl ?_
          refine r_goto (tgt := 21) d_Mm_spread_94 (by decide) ?_
          refine r_lv (lv' := [(5, .int (nI (i + 1))), (4, .int (nI j)), (3, .int (nI e)), (0, .ref m), (1, .ref b), (2, .int (nI c))]) [0, 2, 3, 4, 5, 6] rfl ?_
          exact ih (i + 1) _ _ _ (by omega) (by omega) v1 v2
        · obtain ⟨oo, ho9⟩ := oI_nm c_44
          have hol := bs_lt hq9 ho9
          rw [ho9, show oI (some oo) = nI oo from rfl]
          refine r_aload_n d_Mm_spread_47 rfl 5 rfl ?_
          refine r_iload d_Mm_spread_48 0 rfl ?_
          refine r_cald d_Mm_spread_50 (q0 := 1) rfl (vp_in_nI (by omega) (by omega)) (v := f oo) (by rw [nI_clamp (by omega)]) ?_
          refine r_bipush d_Mm_spread_51 (v := 111) (by decide) ?_
          refine r_icmp_ne (tgt := 91) d_Mm_spread_53 (by decide) (fun c_53 => ?_) (fun c_53 => ?_)
          · refine r_iinc (lv' := [(5, .int (nI (i + 1))), (6, .int (nI oo)), (4, .int (nI j)), (3, .int (nI e)), (0, .ref m), (1, .ref b), (2, .int (nI c))]) (v := nI (i + 1)) d_Mm_spread_91 (j := 1) rfl (nI_add _ _) (by decide) rfl ?_
            refine r_goto (tgt := 21) d_Mm_spread_94 (by decide) ?_
            refine r_lv (lv' := [(5, .int (nI (i + 1))), (4, .int (nI j)), (3, .int (nI e)), (0, .ref m), (1, .ref b), (2, .int (nI c))]) [0, 2, 3, 4, 5, 6] rfl ?_
            exact ih (i + 1) _ _ _ (by omega) (by omega) v1 v2
          · refine r_aload_n d_Mm_spread_56 rfl 4 rfl ?_
            refine r_get fs_Mm_40 d_Mm_spread_57 (q0 := 0) rfl rfl ?_
            refine r_iload d_Mm_spread_60 0 rfl ?_
            refine r_iald d_Mm_spread_62 (q0 := 2) rfl (vp_in_nI (by omega) (by omega)) (v := gp oo) (by rw [nI_clamp (by omega)]) ?_
            refine r_iconst d_Mm_spread_63 (v := (-1)) (by decide) ?_
            refine r_icmp_ne (tgt := 91) d_Mm_spread_64 (by decide) (fun c_64 => ?_) (fun c_64 => ?_)
            · refine r_iinc (lv' := [(5, .int (nI (i + 1))), (6, .int (nI oo)), (4, .int (nI j)), (3, .int (nI e)), (0, .ref m), (1, .ref b), (2, .int (nI c))]) (v := nI (i + 1)) d_Mm_spread_91 (j := 1) rfl (nI_add _ _) (by decide) rfl ?_
              refine r_goto (tgt := 21) d_Mm_spread_94 (by decide) ?_
              refine r_lv (lv' := [(5, .int (nI (i + 1))), (4, .int (nI j)), (3, .int (nI e)), (0, .ref m), (1, .ref b), (2, .int (nI c))]) [0, 2, 3, 4, 5, 6] rfl ?_
              exact ih (i + 1) _ _ _ (by omega) (by omega) v1 v2
            · have hel := qG_lt hol c_64 v1
              refine r_aload_n d_Mm_spread_67 rfl 4 rfl ?_
              refine r_get fs_Mm_40 d_Mm_spread_68 (q0 := 0) rfl rfl ?_
              refine r_iload d_Mm_spread_71 0 rfl ?_
              refine r_aload_n d_Mm_spread_73 rfl 4 rfl ?_
              refine r_get fs_Mm_40 d_Mm_spread_74 (q0 := 0) rfl rfl ?_
              refine r_iload_n d_Mm_spread_77 rfl 6 rfl ?_
              refine r_iald d_Mm_spread_78 (q0 := 2) rfl (vp_in_nI (by omega) (by omega)) (v := gp c) (by rw [nI_clamp (by omega)]) ?_
              refine r_iast d_Mm_spread_79 (q0 := 2) rfl (vp_in_nI (by omega) (by omega)) (f' := upd gp oo (gp c)) (by rw [nI_clamp (by omega)]) (cs' := [(m, .inr (12, [.int th, .ref mp, .int pt, .ref mf, .ref mh, .ref mn, .ref mt, .ref mz, .ref mc_, .ref mq, .ref mgr, .int cl, .int wa, .int co_, .int fi, .int bu, .int ho, .ref ml, .ref mi, .ref mr, .int lh, .int mg, .int wd, .int fpi, .int fal, .ref mm, .ref mu, .ref mk, .ref mx, .long po, .long de])), (b, .inl (1, 108, .inl f)), (mgr, .inl (0, 108, .inl (upd gp oo (gp c)))), (mq, .inl (0, 108, .inl (fun k => nI (qn k))))]) rfl ?_
              refine r_aload_n d_Mm_spread_80 rfl 4 rfl ?_
              refine r_get fs_Mm_37 d_Mm_spread_81 (q0 := 0) rfl rfl ?_
              refine r_iload_n d_Mm_spread_84 rfl 3 rfl ?_
              refine r_iload d_Mm_spread_85 0 rfl ?_
              refine r_iast d_Mm_spread_87 (q0 := 3) rfl (vp_in_nI (by omega) (by omega)) (f' := fun k => nI (updN qn e oo k)) (by rw [nI_clamp (by omega)]; exact upd_qn) (cs' := [(m, .inr (12, [.int th, .ref mp, .int pt, .ref mf, .ref mh, .ref mn, .ref mt, .ref mz, .ref mc_, .ref mq, .ref mgr, .int cl, .int wa, .int co_, .int fi, .int bu, .int ho, .ref ml, .ref mi, .ref mr, .int lh, .int mg, .int wd, .int fpi, .int fal, .ref mm, .ref mu, .ref mk, .ref mx, .long po, .long de])), (b, .inl (1, 108, .inl f)), (mgr, .inl (0, 108, .inl (upd gp oo (gp c)))), (mq, .inl (0, 108, .inl (fun k => nI (updN qn e oo k))))]) rfl ?_
              refine r_iinc (lv' := [(3, .int (nI (e + 1))), (6, .int (nI oo)), (5, .int (nI i)), (4, .int (nI j)), (0, .ref m), (1, .ref b), (2, .int (nI c))]) (v := nI (e + 1)) d_Mm_spread_88 (j := 3) rfl (nI_add _ _) (by decide) rfl ?_
              refine r_iinc (lv' := [(5, .int (nI (i + 1))), (3, .int (nI (e + 1))), (6, .int (nI oo)), (4, .int (nI j)), (0, .ref m), (1, .ref b), (2, .int (nI c))]) (v := nI (i + 1)) d_Mm_spread_91 (j := 2) rfl (nI_add _ _) (by decide) rfl ?_
              refine r_goto (tgt := 21) d_Mm_spread_94 (by decide) ?_
              refine r_lv (lv' := [(5, .int (nI (i + 1))), (4, .int (nI j)), (3, .int (nI (e + 1))), (0, .ref m), (1, .ref b), (2, .int (nI c))]) [0, 3, 1, 4, 5, 6] rfl ?_
              exact ih (i + 1) _ _ _ (by omega) (by omega) (qG_up hol c_64 v1) (by omega)
set_option maxHeartbeats 4000000 in
set_option maxRecDepth 100000 in
theorem L_Mm_spreadW_12 (g : zG) (m mp mf mh mn mt mz mc_ mq mgr ml mi mr mm mu mk mx : Nat) (th pt cl wa co_ fi bu ho lh mg wd fpi fal : Int32) (po de : Int64) (b : Nat) (f : Nat → Int32) (gp0 : Nat → Int32) (qn : Nat → Nat) (c : Nat) (hc : c < 108) (hg : ¬ gp0 c = -1) (w0 : zW) (n : Nat) : ∀ (d j e : Nat) (gp : Nat → Int32) (qn : Nat → Nat), qG gp qn e c → j ≤ e → 108 < j + d → DV g M_Mm_spread (fun o cs1 => ∃ (gp9 : Nat → Int32) (qn9 : Nat → Nat), o = .inl none ∧ cs1 = [(m, .inr (12, [.int th, .ref mp, .int pt, .ref mf, .ref mh, .ref mn, .ref mt, .ref mz, .ref mc_, .ref mq, .ref mgr, .int cl, .int wa, .int co_, .int fi, .int bu, .int ho, .ref ml, .ref mi, .ref mr, .int lh, .int mg, .int wd, .int fpi, .int fal, .ref mm, .ref mu, .ref mk, .ref mx, .long po, .long de])), (b, .inl (1, 108, .inl f)), (mgr, .inl (0, 108, .inl gp9)), (mq, .inl (0, 108, .inl (fun k => nI (qn9 k))))]) w0 n 12 [(4, .int (nI j)), (3, .int (nI e)), (0, .ref m), (1, .ref b), (2, .int (nI c))] [] [(m, .inr (12, [.int th, .ref mp, .int pt, .ref mf, .ref mh, .ref mn, .ref mt, .ref mz, .ref mc_, .ref mq, .ref mgr, .int cl, .int wa, .int co_, .int fi, .int bu, .int ho, .ref ml, .ref mi, .ref mr, .int lh, .int mg, .int wd, .int fpi, .int fal, .ref mm, .ref mu, .ref mk, .ref mx, .long po, .long de])), (b, .inl (1, 108, .inl f)), (mgr, .inl (0, 108, .inl gp)), (mq, .inl (0, 108, .inl (fun k => nI (qn k))))] 0 0 := by
  intro d
  induction d with
  | zero => intro j e gp qn v1 v2 h1; exact absurd h1 (by have := qG_le v1; omega)
  | succ d ih =>
    intro j e gp qn v1 v2 h1
    refine r_iload d_Mm_spread_12 0 rfl ?_
    refine r_iload_n d_Mm_spread_14 rfl 1 rfl ?_
    refine r_icmp_ge (tgt := 103) d_Mm_spread_15 (by decide) (fun c_15 => ?_) (fun c_15 => ?_)
    · refine r_vret d_Mm_spread_103 rfl ?_
      exact ⟨_, _, rfl, rfl⟩
    · have he9 := qG_le v1
      have hn := z_nle (a := e) (by omega) (by omega) c_15
      have hq9 := v1.1 j hn
      refine r_iconst d_Mm_spread_18 (v := 0) (by decide) ?_
      refine r_istore (lv' := [(5, .int 0), (4, .int (nI j)), (3, .int (nI e)), (0, .ref m), (1, .ref b), (2, .int (nI c))]) d_Mm_spread_19 (by decide) rfl ?_
      refine L_Mm_spreadW_21 g m mp mf mh mn mt mz mc_ mq mgr ml mi mr mm mu mk mx th pt cl wa co_ fi bu ho lh mg wd fpi fal po de b f gp0 qn c hc hg w0 _ j (fun gp qn e k21_1 k21_2 => ?_) (4 + 1) 0 _ _ _ (Nat.zero_le _) (by omega) v1 hn
      refine r_iinc (lv' := [(4, .int (nI (j + 1))), (3, .int (nI e)), (0, .ref m), (1, .ref b), (2, .int (nI c))]) (v := nI (j + 1)) d_Mm_spread_97 (j := 0) rfl (nI_add _ _) (by decide) rfl ?_
      refine r_goto (tgt := 12) d_Mm_spread_100 (by decide) ?_
      exact ih (j + 1) _ _ _ k21_1 k21_2 (by omega)
set_option maxHeartbeats 4000000 in
set_option maxRecDepth 100000 in
theorem C_Mm_spreadW (g : zG) (m mp mf mh mn mt mz mc_ mq mgr ml mi mr mm mu mk mx : Nat) (th pt cl wa co_ fi bu ho lh mg wd fpi fal : Int32) (po de : Int64) (b : Nat) (f : Nat → Int32) (gp0 : Nat → Int32) (qn : Nat → Nat) (c : Nat) (hc : c < 108) (hg : ¬ gp0 c = -1) : CT g M_Mm_spread [.ref m, .ref b, .int (nI c)] [(m, .inr (12, [.int th, .ref mp, .int pt, .ref mf, .ref mh, .ref mn, .ref mt, .ref mz, .ref mc_, .ref mq, .ref mgr, .int cl, .int wa, .int co_, .int fi, .int bu, .int ho, .ref ml, .ref mi, .ref mr, .int lh, .int mg, .int wd, .int fpi, .int fal, .ref mm, .ref mu, .ref mk, .ref mx, .long po, .long de])), (b, .inl (1, 108, .inl f)), (mgr, .inl (0, 108, .inl gp0)), (mq, .inl (0, 108, .inl (fun k => nI (qn k))))] (fun o cs1 => ∃ (gp9 : Nat → Int32) (qn9 : Nat → Nat), o = .inl none ∧ cs1 = [(m, .inr (12, [.int th, .ref mp, .int pt, .ref mf, .ref mh, .ref mn, .ref mt, .ref mz, .ref mc_, .ref mq, .ref mgr, .int cl, .int wa, .int co_, .int fi, .int bu, .int ho, .ref ml, .ref mi, .ref mr, .int lh, .int mg, .int wd, .int fpi, .int fal, .ref mm, .ref mu, .ref mk, .ref mx, .long po, .long de])), (b, .inl (1, 108, .inl f)), (mgr, .inl (0, 108, .inl gp9)), (mq, .inl (0, 108, .inl (fun k => nI (qn9 k))))]) 0 0 := by
  refine z_of (by decide) rfl (Nat.le_of_ble_eq_true rfl) (fun w0 => ?_)
  refine r_lvE (lv2 := [(0, .ref m), (1, .ref b), (2, .int (nI c))]) rfl ?_
  refine r_aload_n d_Mm_spread_0 rfl 0 rfl ?_
  refine r_get fs_Mm_37 d_Mm_spread_1 (q0 := 0) rfl rfl ?_
  refine r_iconst d_Mm_spread_4 (v := 0) (by decide) ?_
  refine r_iload_n d_Mm_spread_5 rfl 2 rfl ?_
  refine r_iast d_Mm_spread_6 (q0 := 3) rfl (fun q => q.elim (by decide) (by decide)) (f' := fun k => nI (updN qn 0 c k)) upd_qn (cs' := [(m, .inr (12, [.int th, .ref mp, .int pt, .ref mf, .ref mh, .ref mn, .ref mt, .ref mz, .ref mc_, .ref mq, .ref mgr, .int cl, .int wa, .int co_, .int fi, .int bu, .int ho, .ref ml, .ref mi, .ref mr, .int lh, .int mg, .int wd, .int fpi, .int fal, .ref mm, .ref mu, .ref mk, .ref mx, .long po, .long de])), (b, .inl (1, 108, .inl f)), (mgr, .inl (0, 108, .inl gp0)), (mq, .inl (0, 108, .inl (fun k => nI (updN qn 0 c k))))]) rfl ?_
  refine r_iconst d_Mm_spread_7 (v := 1) (by decide) ?_
  refine r_istore_n (lv' := [(3, .int 1), (0, .ref m), (1, .ref b), (2, .int (nI c))]) d_Mm_spread_8 rfl (by decide) rfl ?_
  refine r_iconst d_Mm_spread_9 (v := 0) (by decide) ?_
  refine r_istore (lv' := [(4, .int 0), (3, .int 1), (0, .ref m), (1, .ref b), (2, .int (nI c))]) d_Mm_spread_10 (by decide) rfl ?_
  exact L_Mm_spreadW_12 g m mp mf mh mn mt mz mc_ mq mgr ml mi mr mm mu mk mx th pt cl wa co_ fi bu ho lh mg wd fpi fal po de b f gp0 qn c hc hg w0 _ 109 0 1 _ _ (qG_1 hc hg) (by omega) (by omega)
theorem d_Mm_groupIn_39 : decode prog_14_method_13_code 39 = .ok (.aload_n 0, 1) := zo_42 (zd_b zq_prog_14_method_13_code_1 7 rfl rfl rfl)
theorem d_Mm_groupIn_40 : decode prog_14_method_13_code 40 = .ok (.getfield 40, 3) := zo_180 (d := 0) (e := 40) (zd_b zq_prog_14_method_13_code_1 8 rfl rfl rfl) (zd_b zq_prog_14_method_13_code_1 9 rfl rfl rfl) (zd_b zq_prog_14_method_13_code_1 10 rfl rfl rfl)
theorem d_Mm_groupIn_43 : decode prog_14_method_13_code 43 = .ok (.iload_n 3, 1) := zo_29 (zd_b zq_prog_14_method_13_code_1 11 rfl rfl rfl)
theorem d_Mm_groupIn_44 : decode prog_14_method_13_code 44 = .ok (.iaload, 1) := zo_46 (zd_b zq_prog_14_method_13_code_1 12 rfl rfl rfl)
theorem d_Mm_groupIn_45 : decode prog_14_method_13_code 45 = .ok (.iconst (-1), 1) := zo_2 (zd_b zq_prog_14_method_13_code_1 13 rfl rfl rfl)
theorem d_Mm_groupIn_46 : decode prog_14_method_13_code 46 = .ok (.if_icmp .ne 19, 3) := zo_160 (d := 0) (e := 19) (zd_b zq_prog_14_method_13_code_1 14 rfl rfl rfl) (zd_b zq_prog_14_method_13_code_1 15 rfl rfl rfl) (zd_b zq_prog_14_method_13_code_1 16 rfl rfl rfl) (by decide +kernel)
theorem d_Mm_groupIn_49 : decode prog_14_method_13_code 49 = .ok (.aload_n 0, 1) := zo_42 (zd_b zq_prog_14_method_13_code_1 17 rfl rfl rfl)
theorem d_Mm_groupIn_50 : decode prog_14_method_13_code 50 = .ok (.getfield 40, 3) := zo_180 (d := 0) (e := 40) (zd_b zq_prog_14_method_13_code_1 18 rfl rfl rfl) (zd_b zq_prog_14_method_13_code_1 19 rfl rfl rfl) (zd_b zq_prog_14_method_13_code_1 20 rfl rfl rfl)
theorem d_Mm_groupIn_53 : decode prog_14_method_13_code 53 = .ok (.iload_n 3, 1) := zo_29 (zd_b zq_prog_14_method_13_code_1 21 rfl rfl rfl)
theorem d_Mm_groupIn_54 : decode prog_14_method_13_code 54 = .ok (.iload_n 2, 1) := zo_28 (zd_b zq_prog_14_method_13_code_1 22 rfl rfl rfl)
theorem d_Mm_groupIn_55 : decode prog_14_method_13_code 55 = .ok (.iastore, 1) := zo_79 (zd_b zq_prog_14_method_13_code_1 23 rfl rfl rfl)
theorem d_Mm_groupIn_56 : decode prog_14_method_13_code 56 = .ok (.aload_n 0, 1) := zo_42 (zd_b zq_prog_14_method_13_code_1 24 rfl rfl rfl)
theorem d_Mm_groupIn_57 : decode prog_14_method_13_code 57 = .ok (.aload_n 1, 1) := zo_43 (zd_b zq_prog_14_method_13_code_1 25 rfl rfl rfl)
theorem d_Mm_groupIn_58 : decode prog_14_method_13_code 58 = .ok (.iload_n 3, 1) := zo_29 (zd_b zq_prog_14_method_13_code_1 26 rfl rfl rfl)
theorem d_Mm_groupIn_59 : decode prog_14_method_13_code 59 = .ok (.invokevirtual 115, 3) := zo_182 (d := 0) (e := 115) (zd_b zq_prog_14_method_13_code_1 27 rfl rfl rfl) (zd_b zq_prog_14_method_13_code_1 28 rfl rfl rfl) (zd_b zq_prog_14_method_13_code_1 29 rfl rfl rfl)
theorem ok_Mm_groupIn_Mm_spread : z_ok M_Mm_groupIn M_Mm_spread 2 := ⟨z_mj7 (i := 226) rfl (by decide +kernel), rfl, ⟨by decide +kernel, by decide +kernel, by decide +kernel⟩, ⟨by decide, by decide⟩, z_mj1 (i := 14) rfl (by decide +kernel), rfl⟩
theorem ln_Mm_115 : Cond.methodLink "IronpourModel" 115 M_Mm_spread.1 ∈ z_gw := z_mj7 (i := 223) rfl (by decide +kernel)
theorem w_im_Mm_spread : Cond.instanceMethod M_Mm_spread.1 ∈ z_gw := z_mj7 (i := 225) rfl (by decide +kernel)
theorem w_se_Mm_spread : Cond.selects M_Mm_spread.1.cls M_Mm_spread.1 M_Mm_spread.1 ∈ z_gw := z_mem (i := 31) (by decide +kernel) (by decide +kernel)
theorem d_Mm_groupIn_62 : decode prog_14_method_13_code 62 = .ok (.iinc 2 1, 3) := by decide +kernel
set_option maxHeartbeats 4000000 in
set_option maxRecDepth 100000 in
theorem L_Mm_groupInW_25 (g : zG) (m mp mf mh mn mt mz mc_ mq mgr ml mi mr mm mu mk mx : Nat) (th pt cl wa co_ fi bu ho lh mg wd fpi fal : Int32) (po de : Int64) (b : Nat) (f : Nat → Int32) (gp : Nat → Int32) (qn : Nat → Nat) (w0 : zW) (n : Nat) : ∀ (d i : Nat) (gp : Nat → Int32) (qn : Nat → Nat) (nn : Nat), i ≤ 108 → 108 < i + d → nn ≤ i → DV g M_Mm_groupIn (fun o cs1 => ∃ (nn9 : Nat) (gp9 : Nat → Int32) (qn9 : Nat → Nat), nn9 ≤ 108 ∧ o = .inl (some (.int (nI nn9))) ∧ cs1 = [(m, .inr (12, [.int th, .ref mp, .int pt, .ref mf, .ref mh, .ref mn, .ref mt, .ref mz, .ref mc_, .ref mq, .ref mgr, .int cl, .int wa, .int co_, .int fi, .int bu, .int ho, .ref ml, .ref mi, .ref mr, .int lh, .int mg, .int wd, .int fpi, .int fal, .ref mm, .ref mu, .ref mk, .ref mx, .long po, .long de])), (b, .inl (1, 108, .inl f)), (mgr, .inl (0, 108, .inl gp9)), (mq, .inl (0, 108, .inl (fun k => nI (qn9 k))))]) w0 n 25 [(3, .int (nI i)), (2, .int (nI nn)), (0, .ref m), (1, .ref b)] [] [(m, .inr (12, [.int th, .ref mp, .int pt, .ref mf, .ref mh, .ref mn, .ref mt, .ref mz, .ref mc_, .ref mq, .ref mgr, .int cl, .int wa, .int co_, .int fi, .int bu, .int ho, .ref ml, .ref mi, .ref mr, .int lh, .int mg, .int wd, .int fpi, .int fal, .ref mm, .ref mu, .ref mk, .ref mx, .long po, .long de])), (b, .inl (1, 108, .inl f)), (mgr, .inl (0, 108, .inl gp)), (mq, .inl (0, 108, .inl (fun k => nI (qn k))))] 0 0 := by
  intro d
  induction d with
  | zero => intro i gp qn nn h1 h2 v1; exact absurd h2 (by omega)
  | succ d ih =>
    intro i gp qn nn h1 h2 v1
    refine r_iload_n d_Mm_groupIn_25 rfl 0 rfl ?_
    refine r_bipush d_Mm_groupIn_26 (v := 108) (by decide) ?_
    refine r_icmp_ge (tgt := 71) d_Mm_groupIn_28 (by decide) (fun c_28 => ?_) (fun c_28 => ?_)
    · have hn := z_le (a := 108) (by omega) (by decide) c_28
      refine r_iload_n d_Mm_groupIn_71 rfl 1 rfl ?_
      refine r_iret d_Mm_groupIn_72 rfl rfl ?_
      exact ⟨nn, _, _, by omega, rfl, rfl⟩
    · have hn := z_nle (a := 108) (by omega) (by decide) c_28
      refine r_aload_n d_Mm_groupIn_31 rfl 3 rfl ?_
      refine r_iload_n d_Mm_groupIn_32 rfl 0 rfl ?_
      refine r_cald d_Mm_groupIn_33 (q0 := 1) rfl (vp_in_nI (by omega) (by omega)) (v := f i) (by rw [nI_clamp (by omega)]) ?_
      refine r_bipush d_Mm_groupIn_34 (v := 111) (by decide) ?_
      refine r_icmp_ne (tgt := 65) d_Mm_groupIn_36 (by decide) (fun c_36 => ?_) (fun c_36 => ?_)
      · refine r_iinc (lv' := [(3, .int (nI (i + 1))), (2, .int (nI nn)), (0, .ref m), (1, .ref b)]) (v := nI (i + 1)) d_Mm_groupIn_65 (j := 0) rfl (nI_add _ _) (by decide) rfl ?_
        refine r_goto (tgt := 25) d_Mm_groupIn_68 (by decide) ?_
        exact ih (i + 1) _ _ _ (by omega) (by omega) (by omega)
      · refine r_aload_n d_Mm_groupIn_39 rfl 2 rfl ?_
        refine r_get fs_Mm_40 d_Mm_groupIn_40 (q0 := 0) rfl rfl ?_
        refine r_iload_n d_Mm_groupIn_43 rfl 0 rfl ?_
        refine r_iald d_Mm_groupIn_44 (q0 := 2) rfl (vp_in_nI (by omega) (by omega)) (v := gp i) (by rw [nI_clamp (by omega)]) ?_
        refine r_iconst d_Mm_groupIn_45 (v := (-1)) (by decide) ?_
        refine r_icmp_ne (tgt := 65) d_Mm_groupIn_46 (by decide) (fun c_46 => ?_) (fun c_46 => ?_)
        · refine r_iinc (lv' := [(3, .int (nI (i + 1))), (2, .int (nI nn)), (0, .ref m), (1, .ref b)]) (v := nI (i + 1)) d_Mm_groupIn_65 (j := 0) rfl (nI_add _ _) (by decide) rfl ?_
          refine r_goto (tgt := 25) d_Mm_groupIn_68 (by decide) ?_
          exact ih (i + 1) _ _ _ (by omega) (by omega) (by omega)
        · refine r_aload_n d_Mm_groupIn_49 rfl 2 rfl ?_
          refine r_get fs_Mm_40 d_Mm_groupIn_50 (q0 := 0) rfl rfl ?_
          refine r_iload_n d_Mm_groupIn_53 rfl 0 rfl ?_
          refine r_iload_n d_Mm_groupIn_54 rfl 1 rfl ?_
          refine r_iast d_Mm_groupIn_55 (q0 := 2) rfl (vp_in_nI (by omega) (by omega)) (f' := upd gp i (nI nn)) (by rw [nI_clamp (by omega)]) (cs' := [(m, .inr (12, [.int th, .ref mp, .int pt, .ref mf, .ref mh, .ref mn, .ref mt, .ref mz, .ref mc_, .ref mq, .ref mgr, .int cl, .int wa, .int co_, .int fi, .int bu, .int ho, .ref ml, .ref mi, .ref mr, .int lh, .int mg, .int wd, .int fpi, .int fal, .ref mm, .ref mu, .ref mk, .ref mx, .long po, .long de])), (b, .inl (1, 108, .inl f)), (mgr, .inl (0, 108, .inl (upd gp i (nI nn)))), (mq, .inl (0, 108, .inl (fun k => nI (qn k))))]) rfl ?_
          refine r_aload_n d_Mm_groupIn_56 rfl 2 rfl ?_
          refine r_aload_n d_Mm_groupIn_57 rfl 3 rfl ?_
          refine r_iload_n d_Mm_groupIn_58 rfl 0 rfl ?_
          refine r_callV (As := [.ref b, .int (nI i)]) (rest := []) (csC := [(m, .inr (12, [.int th, .ref mp, .int pt, .ref mf, .ref mh, .ref mn, .ref mt, .ref mz, .ref mc_, .ref mq, .ref mgr, .int cl, .int wa, .int co_, .int fi, .int bu, .int ho, .ref ml, .ref mi, .ref mr, .int lh, .int mg, .int wd, .int fpi, .int fal, .ref mm, .ref mu, .ref mk, .ref mx, .long po, .long de])), (b, .inl (1, 108, .inl f)), (mgr, .inl (0, 108, .inl (upd gp i (nI nn)))), (mq, .inl (0, 108, .inl (fun k => nI (qn k))))]) (is := [0, 1, 2, 3]) (q0 := 0) rfl rfl ln_Mm_115 w_im_Mm_spread w_se_Mm_spread ok_Mm_groupIn_Mm_spread d_Mm_groupIn_59 (C_Mm_spreadW g m mp mf mh mn mt mz mc_ mq mgr ml mi mr mm mu mk mx th pt cl wa co_ fi bu ho lh mg wd fpi fal po de b f (upd gp i (nI nn)) qn i (by omega) (by rw [show upd gp i (nI nn) i = nI nn from if_pos rfl]; exact nI_nm1 (by omega))) rfl rfl (Nat.le_of_ble_eq_true rfl) rfl (by decide) (by omega) (by omega) (fun E cs1 hx => ?_) (fun v cs1 hx => ?_)
          · obtain ⟨gp9, qn9, e1, -⟩ := hx
            cases e1
          · obtain ⟨gp9, qn9, e1, rfl⟩ := hx
            cases e1
            refine ⟨rfl, ?_⟩
            refine r_st (st2 := []) rfl ?_
            refine r_cs (cs2 := [(m, .inr (12, [.int th, .ref mp, .int pt, .ref mf, .ref mh, .ref mn, .ref mt, .ref mz, .ref mc_, .ref mq, .ref mgr, .int cl, .int wa, .int co_, .int fi, .int bu, .int ho, .ref ml, .ref mi, .ref mr, .int lh, .int mg, .int wd, .int fpi, .int fal, .ref mm, .ref mu, .ref mk, .ref mx, .long po, .long de])), (b, .inl (1, 108, .inl f)), (mgr, .inl (0, 108, .inl gp9)), (mq, .inl (0, 108, .inl (fun k => nI (qn9 k))))]) rfl ?_
            refine r_iinc (lv' := [(2, .int (nI (nn + 1))), (3, .int (nI i)), (0, .ref m), (1, .ref b)]) (v := nI (nn + 1)) d_Mm_groupIn_62 (j := 1) rfl (nI_add _ _) (by decide) rfl ?_
            refine r_iinc (lv' := [(3, .int (nI (i + 1))), (2, .int (nI (nn + 1))), (0, .ref m), (1, .ref b)]) (v := nI (i + 1)) d_Mm_groupIn_65 (j := 1) rfl (nI_add _ _) (by decide) rfl ?_
            refine r_goto (tgt := 25) d_Mm_groupIn_68 (by decide) ?_
            exact ih (i + 1) _ _ _ (by omega) (by omega) (by omega)
set_option maxHeartbeats 4000000 in
set_option maxRecDepth 100000 in
theorem L_Mm_groupInW_4 (g : zG) (m mp mf mh mn mt mz mc_ mq mgr ml mi mr mm mu mk mx : Nat) (th pt cl wa co_ fi bu ho lh mg wd fpi fal : Int32) (po de : Int64) (b : Nat) (f : Nat → Int32) (gp : Nat → Int32) (qn : Nat → Nat) (w0 : zW) (n : Nat) : ∀ (d i : Nat) (gp : Nat → Int32), i ≤ 108 → 108 < i + d → DV g M_Mm_groupIn (fun o cs1 => ∃ (nn9 : Nat) (gp9 : Nat → Int32) (qn9 : Nat → Nat), nn9 ≤ 108 ∧ o = .inl (some (.int (nI nn9))) ∧ cs1 = [(m, .inr (12, [.int th, .ref mp, .int pt, .ref mf, .ref mh, .ref mn, .ref mt, .ref mz, .ref mc_, .ref mq, .ref mgr, .int cl, .int wa, .int co_, .int fi, .int bu, .int ho, .ref ml, .ref mi, .ref mr, .int lh, .int mg, .int wd, .int fpi, .int fal, .ref mm, .ref mu, .ref mk, .ref mx, .long po, .long de])), (b, .inl (1, 108, .inl f)), (mgr, .inl (0, 108, .inl gp9)), (mq, .inl (0, 108, .inl (fun k => nI (qn9 k))))]) w0 n 4 [(3, .int (nI i)), (2, .int 0), (0, .ref m), (1, .ref b)] [] [(m, .inr (12, [.int th, .ref mp, .int pt, .ref mf, .ref mh, .ref mn, .ref mt, .ref mz, .ref mc_, .ref mq, .ref mgr, .int cl, .int wa, .int co_, .int fi, .int bu, .int ho, .ref ml, .ref mi, .ref mr, .int lh, .int mg, .int wd, .int fpi, .int fal, .ref mm, .ref mu, .ref mk, .ref mx, .long po, .long de])), (b, .inl (1, 108, .inl f)), (mgr, .inl (0, 108, .inl gp)), (mq, .inl (0, 108, .inl (fun k => nI (qn k))))] 0 0 := by
  intro d
  induction d with
  | zero => intro i gp h1 h2 ; exact absurd h2 (by omega)
  | succ d ih =>
    intro i gp h1 h2 
    refine r_iload_n d_Mm_groupIn_4 rfl 0 rfl ?_
    refine r_bipush d_Mm_groupIn_5 (v := 108) (by decide) ?_
    refine r_icmp_ge (tgt := 23) d_Mm_groupIn_7 (by decide) (fun c_7 => ?_) (fun c_7 => ?_)
    · have hn := z_le (a := 108) (by omega) (by decide) c_7
      obtain rfl : i = 108 := by omega
      refine r_iconst d_Mm_groupIn_23 (v := 0) (by decide) ?_
      refine r_istore_n (lv' := [(3, .int 0), (2, .int 0), (0, .ref m), (1, .ref b)]) d_Mm_groupIn_24 rfl (by decide) rfl ?_
      exact L_Mm_groupInW_25 g m mp mf mh mn mt mz mc_ mq mgr ml mi mr mm mu mk mx th pt cl wa co_ fi bu ho lh mg wd fpi fal po de b f gp qn w0 _  (108 + 1) 0 _ _ 0 (Nat.zero_le _) (by omega) (Nat.zero_le _)
    · have hn := z_nle (a := 108) (by omega) (by decide) c_7
      refine r_aload_n d_Mm_groupIn_10 rfl 2 rfl ?_
      refine r_get fs_Mm_40 d_Mm_groupIn_11 (q0 := 0) rfl rfl ?_
      refine r_iload_n d_Mm_groupIn_14 rfl 0 rfl ?_
      refine r_iconst d_Mm_groupIn_15 (v := (-1)) (by decide) ?_
      refine r_iast d_Mm_groupIn_16 (q0 := 2) rfl (vp_in_nI (by omega) (by omega)) (f' := upd gp i (-1)) (by rw [nI_clamp (by omega)]) (cs' := [(m, .inr (12, [.int th, .ref mp, .int pt, .ref mf, .ref mh, .ref mn, .ref mt, .ref mz, .ref mc_, .ref mq, .ref mgr, .int cl, .int wa, .int co_, .int fi, .int bu, .int ho, .ref ml, .ref mi, .ref mr, .int lh, .int mg, .int wd, .int fpi, .int fal, .ref mm, .ref mu, .ref mk, .ref mx, .long po, .long de])), (b, .inl (1, 108, .inl f)), (mgr, .inl (0, 108, .inl (upd gp i (-1)))), (mq, .inl (0, 108, .inl (fun k => nI (qn k))))]) rfl ?_
      refine r_iinc (lv' := [(3, .int (nI (i + 1))), (2, .int 0), (0, .ref m), (1, .ref b)]) (v := nI (i + 1)) d_Mm_groupIn_17 (j := 0) rfl (nI_add _ _) (by decide) rfl ?_
      refine r_goto (tgt := 4) d_Mm_groupIn_20 (by decide) ?_
      exact ih (i + 1) _ (by omega) (by omega)
set_option maxHeartbeats 4000000 in
set_option maxRecDepth 100000 in
theorem C_Mm_groupInW (g : zG) (m mp mf mh mn mt mz mc_ mq mgr ml mi mr mm mu mk mx : Nat) (th pt cl wa co_ fi bu ho lh mg wd fpi fal : Int32) (po de : Int64) (b : Nat) (f : Nat → Int32) (gp : Nat → Int32) (qn : Nat → Nat) : CT g M_Mm_groupIn [.ref m, .ref b] [(m, .inr (12, [.int th, .ref mp, .int pt, .ref mf, .ref mh, .ref mn, .ref mt, .ref mz, .ref mc_, .ref mq, .ref mgr, .int cl, .int wa, .int co_, .int fi, .int bu, .int ho, .ref ml, .ref mi, .ref mr, .int lh, .int mg, .int wd, .int fpi, .int fal, .ref mm, .ref mu, .ref mk, .ref mx, .long po, .long de])), (b, .inl (1, 108, .inl f)), (mgr, .inl (0, 108, .inl gp)), (mq, .inl (0, 108, .inl (fun k => nI (qn k))))] (fun o cs1 => ∃ (nn9 : Nat) (gp9 : Nat → Int32) (qn9 : Nat → Nat), nn9 ≤ 108 ∧ o = .inl (some (.int (nI nn9))) ∧ cs1 = [(m, .inr (12, [.int th, .ref mp, .int pt, .ref mf, .ref mh, .ref mn, .ref mt, .ref mz, .ref mc_, .ref mq, .ref mgr, .int cl, .int wa, .int co_, .int fi, .int bu, .int ho, .ref ml, .ref mi, .ref mr, .int lh, .int mg, .int wd, .int fpi, .int fal, .ref mm, .ref mu, .ref mk, .ref mx, .long po, .long de])), (b, .inl (1, 108, .inl f)), (mgr, .inl (0, 108, .inl gp9)), (mq, .inl (0, 108, .inl (fun k => nI (qn9 k))))]) 0 0 := by
  refine z_of (by decide) rfl (Nat.le_of_ble_eq_true rfl) (fun w0 => ?_)
  refine r_lvE (lv2 := [(0, .ref m), (1, .ref b)]) rfl ?_
  refine r_iconst d_Mm_groupIn_0 (v := 0) (by decide) ?_
  refine r_istore_n (lv' := [(2, .int 0), (0, .ref m), (1, .ref b)]) d_Mm_groupIn_1 rfl (by decide) rfl ?_
  refine r_iconst d_Mm_groupIn_2 (v := 0) (by decide) ?_
  refine r_istore_n (lv' := [(3, .int 0), (2, .int 0), (0, .ref m), (1, .ref b)]) d_Mm_groupIn_3 rfl (by decide) rfl ?_
  exact L_Mm_groupInW_4 g m mp mf mh mn mt mz mc_ mq mgr ml mi mr mm mu mk mx th pt cl wa co_ fi bu ho lh mg wd fpi fal po de b f gp qn w0 _  (108 + 1) 0 _ (Nat.zero_le _) (by omega)
abbrev M_Mm_isBesideSand : zM := (⟨"IronpourModel", "isBesideSand", "([CI)Z"⟩, prog_14_method_16_code, 5, (Option.some FieldType.boolean), 4, 86, [])
theorem d_Mm_isBesideSand_4 : decode prog_14_method_16_code 4 = .ok (.iload_n 3, 1) := zo_29 (zd_b zq_prog_14_method_16_code_0 4 rfl rfl rfl)
theorem d_Mm_isBesideSand_5 : decode prog_14_method_16_code 5 = .ok (.iconst 4, 1) := zo_7 (zd_b zq_prog_14_method_16_code_0 5 rfl rfl rfl)
theorem d_Mm_isBesideSand_6 : decode prog_14_method_16_code 6 = .ok (.if_icmp .ge 41, 3) := zo_162 (d := 0) (e := 41) (zd_b zq_prog_14_method_16_code_0 6 rfl rfl rfl) (zd_b zq_prog_14_method_16_code_0 7 rfl rfl rfl) (zd_b zq_prog_14_method_16_code_0 8 rfl rfl rfl) (by decide +kernel)
theorem d_Mm_isBesideSand_47 : decode prog_14_method_16_code 47 = .ok (.iload_n 2, 1) := zo_28 (zd_b zq_prog_14_method_16_code_1 15 rfl rfl rfl)
theorem d_Mm_isBesideSand_48 : decode prog_14_method_16_code 48 = .ok (.ireturn, 1) := zo_172 (zd_b zq_prog_14_method_16_code_1 16 rfl rfl rfl)
theorem d_Mm_isBesideSand_9 : decode prog_14_method_16_code 9 = .ok (.iload_n 1, 1) := zo_27 (zd_b zq_prog_14_method_16_code_0 9 rfl rfl rfl)
theorem d_Mm_isBesideSand_10 : decode prog_14_method_16_code 10 = .ok (.iload_n 3, 1) := zo_29 (zd_b zq_prog_14_method_16_code_0 10 rfl rfl rfl)
theorem d_Mm_isBesideSand_11 : decode prog_14_method_16_code 11 = .ok (.invokestatic 119, 3) := zo_184 (d := 0) (e := 119) (zd_b zq_prog_14_method_16_code_0 11 rfl rfl rfl) (zd_b zq_prog_14_method_16_code_0 12 rfl rfl rfl) (zd_b zq_prog_14_method_16_code_0 13 rfl rfl rfl)
theorem ok_Mm_isBesideSand_Mm_beside : z_ok M_Mm_isBesideSand M_Mm_beside 2 := ⟨z_mj7 (i := 229) rfl (by decide +kernel), rfl, ⟨by decide +kernel, by decide +kernel, by decide +kernel⟩, ⟨by decide, by decide⟩, z_mj1 (i := 14) rfl (by decide +kernel), rfl⟩
theorem d_Mm_isBesideSand_14 : decode prog_14_method_16_code 14 = .ok (.istore 4, 2) := zo_54 (d := 4) (zd_b zq_prog_14_method_16_code_0 14 rfl rfl rfl) (zd_b zq_prog_14_method_16_code_0 15 rfl rfl rfl)
theorem d_Mm_isBesideSand_16 : decode prog_14_method_16_code 16 = .ok (.iload_n 2, 1) := zo_28 (zd_b zq_prog_14_method_16_code_0 16 rfl rfl rfl)
theorem d_Mm_isBesideSand_17 : decode prog_14_method_16_code 17 = .ok (.ifCond .ne 18, 3) := zo_154 (d := 0) (e := 18) (zd_b zq_prog_14_method_16_code_0 17 rfl rfl rfl) (zd_b zq_prog_14_method_16_code_0 18 rfl rfl rfl) (zd_b zq_prog_14_method_16_code_0 19 rfl rfl rfl) (by decide +kernel)
theorem d_Mm_isBesideSand_35 : decode prog_14_method_16_code 35 = .ok (.iconst 1, 1) := zo_4 (zd_b zq_prog_14_method_16_code_1 3 rfl rfl rfl)
theorem d_Mm_isBesideSand_36 : decode prog_14_method_16_code 36 = .ok (.goto 4, 3) := zo_167 (d := 0) (e := 4) (zd_b zq_prog_14_method_16_code_1 4 rfl rfl rfl) (zd_b zq_prog_14_method_16_code_1 5 rfl rfl rfl) (zd_b zq_prog_14_method_16_code_1 6 rfl rfl rfl) (by decide +kernel)
theorem d_Mm_isBesideSand_40 : decode prog_14_method_16_code 40 = .ok (.istore_n 2, 1) := zo_61 (zd_b zq_prog_14_method_16_code_1 8 rfl rfl rfl)
theorem d_Mm_isBesideSand_41 : decode prog_14_method_16_code 41 = .ok (.iinc 3 1, 3) := by decide +kernel
theorem d_Mm_isBesideSand_44 : decode prog_14_method_16_code 44 = .ok (.goto (-40), 3) := zo_167 (d := 255) (e := 216) (zd_b zq_prog_14_method_16_code_1 12 rfl rfl rfl) (zd_b zq_prog_14_method_16_code_1 13 rfl rfl rfl) (zd_b zq_prog_14_method_16_code_1 14 rfl rfl rfl) (by decide +kernel)
theorem d_Mm_isBesideSand_20 : decode prog_14_method_16_code 20 = .ok (.iload 4, 2) := zo_21 (d := 4) (zd_b zq_prog_14_method_16_code_0 20 rfl rfl rfl) (zd_b zq_prog_14_method_16_code_0 21 rfl rfl rfl)
theorem d_Mm_isBesideSand_22 : decode prog_14_method_16_code 22 = .ok (.iconst (-1), 1) := zo_2 (zd_b zq_prog_14_method_16_code_0 22 rfl rfl rfl)
theorem d_Mm_isBesideSand_23 : decode prog_14_method_16_code 23 = .ok (.if_icmp .eq 12, 3) := zo_159 (d := 0) (e := 12) (zd_b zq_prog_14_method_16_code_0 23 rfl rfl rfl) (zd_b zq_prog_14_method_16_code_0 24 rfl rfl rfl) (zd_b zq_prog_14_method_16_code_0 25 rfl rfl rfl) (by decide +kernel)
theorem d_Mm_isBesideSand_26 : decode prog_14_method_16_code 26 = .ok (.aload_n 0, 1) := zo_42 (zd_b zq_prog_14_method_16_code_0 26 rfl rfl rfl)
theorem d_Mm_isBesideSand_27 : decode prog_14_method_16_code 27 = .ok (.iload 4, 2) := zo_21 (d := 4) (zd_b zq_prog_14_method_16_code_0 27 rfl rfl rfl) (zd_b zq_prog_14_method_16_code_0 28 rfl rfl rfl)
theorem d_Mm_isBesideSand_29 : decode prog_14_method_16_code 29 = .ok (.caload, 1) := zo_52 (zd_b zq_prog_14_method_16_code_0 29 rfl rfl rfl)
theorem d_Mm_isBesideSand_30 : decode prog_14_method_16_code 30 = .ok (.bipush 46, 2) := zo_16 (d := 46) (zd_b zq_prog_14_method_16_code_0 30 rfl rfl rfl) (zd_b zq_prog_14_method_16_code_0 31 rfl rfl rfl) (by decide +kernel)
theorem d_Mm_isBesideSand_32 : decode prog_14_method_16_code 32 = .ok (.if_icmp .ne 7, 3) := zo_160 (d := 0) (e := 7) (zd_b zq_prog_14_method_16_code_1 0 rfl rfl rfl) (zd_b zq_prog_14_method_16_code_1 1 rfl rfl rfl) (zd_b zq_prog_14_method_16_code_1 2 rfl rfl rfl) (by decide +kernel)
theorem d_Mm_isBesideSand_39 : decode prog_14_method_16_code 39 = .ok (.iconst 0, 1) := zo_3 (zd_b zq_prog_14_method_16_code_1 7 rfl rfl rfl)
theorem d_Mm_isBesideSand_0 : decode prog_14_method_16_code 0 = .ok (.iconst 0, 1) := zo_3 (zd_b zq_prog_14_method_16_code_0 0 rfl rfl rfl)
theorem d_Mm_isBesideSand_1 : decode prog_14_method_16_code 1 = .ok (.istore_n 2, 1) := zo_61 (zd_b zq_prog_14_method_16_code_0 1 rfl rfl rfl)
theorem d_Mm_isBesideSand_2 : decode prog_14_method_16_code 2 = .ok (.iconst 0, 1) := zo_3 (zd_b zq_prog_14_method_16_code_0 2 rfl rfl rfl)
theorem d_Mm_isBesideSand_3 : decode prog_14_method_16_code 3 = .ok (.istore_n 3, 1) := zo_62 (zd_b zq_prog_14_method_16_code_0 3 rfl rfl rfl)
set_option maxHeartbeats 4000000 in
set_option maxRecDepth 100000 in
theorem L_Mm_isBesideSandW_4 (g : zG) (b : Nat) (f : Nat → Int32) (c : Nat) (hc : c < 108) (w0 : zW) (n : Nat) : ∀ (d i : Nat) (lf : Int32), i ≤ 4 → 4 < i + d → (lf = 0 ∨ lf = 1) → DV g M_Mm_isBesideSand (fun o cs1 => ∃ (v9 : Int32), (v9 = 0 ∨ v9 = 1) ∧ o = .inl (some (.int v9)) ∧ cs1 = [(b, .inl (1, 108, .inl f))]) w0 n 4 [(3, .int (nI i)), (2, .int lf), (0, .ref b), (1, .int (nI c))] [] [(b, .inl (1, 108, .inl f))] 0 0 := by
  intro d
  induction d with
  | zero => intro i lf h1 h2 v1; exact absurd h2 (by omega)
  | succ d ih =>
    intro i lf h1 h2 v1
    refine r_iload_n d_Mm_isBesideSand_4 rfl 0 rfl ?_
    refine r_iconst d_Mm_isBesideSand_5 (v := 4) (by decide) ?_
    refine r_icmp_ge (tgt := 47) d_Mm_isBesideSand_6 (by decide) (fun c_6 => ?_) (fun c_6 => ?_)
    · have hn := z_le (a := 4) (by omega) (by decide) c_6
      obtain rfl : i = 4 := by omega
      refine r_iload_n d_Mm_isBesideSand_47 rfl 1 rfl ?_
      refine r_iret d_Mm_isBesideSand_48 rfl (z_nar01 v1) ?_
      exact ⟨_, v1, rfl, rfl⟩
    · have hn := z_nle (a := 4) (by omega) (by decide) c_6
      refine r_iload_n d_Mm_isBesideSand_9 rfl 3 rfl ?_
      refine r_iload_n d_Mm_isBesideSand_10 rfl 0 rfl ?_
      refine r_callS (As := [.int (nI c), .int (nI i)]) (rest := []) (csC := []) (is := []) ln_Mm_119 w_st_Mm_beside ok_Mm_isBesideSand_Mm_beside d_Mm_isBesideSand_11 (C_Mm_beside g c i (by omega) (by omega)) rfl rfl (Nat.le_of_ble_eq_true rfl) rfl (by decide) (by omega) (by omega) (fun E cs1 hx => ?_) (fun v cs1 hx => ?_)
      · exact absurd hx.1 (by simp)
      · obtain ⟨e1, rfl⟩ := hx
        cases e1
        refine ⟨rfl, ?_⟩
        refine r_st (st2 := [.int (oI (bs c i))]) rfl ?_
        refine r_cs (cs2 := [(b, .inl (1, 108, .inl f))]) rfl ?_
        refine r_istore (lv' := [(4, .int (oI (bs c i))), (3, .int (nI i)), (2, .int lf), (0, .ref b), (1, .int (nI c))]) d_Mm_isBesideSand_14 (by decide) rfl ?_
        refine r_iload_n d_Mm_isBesideSand_16 rfl 2 rfl ?_
        refine r_if_ne (tgt := 35) d_Mm_isBesideSand_17 (by decide) (fun c_17 => ?_) (fun c_17 => ?_)
        · refine r_iconst d_Mm_isBesideSand_35 (v := 1) (by decide) ?_
          refine r_goto (tgt := 40) d_Mm_isBesideSand_36 (by decide) ?_
          refine r_istore_n (lv' := [(2, .int 1), (4, .int (oI (bs c i))), (3, .int (nI i)), (0, .ref b), (1, .int (nI c))]) d_Mm_isBesideSand_40 rfl (by decide) rfl ?_
          refine r_iinc (lv' := [(3, .int (nI (i + 1))), (2, .int 1), (4, .int (oI (bs c i))), (0, .ref b), (1, .int (nI c))]) (v := nI (i + 1)) d_Mm_isBesideSand_41 (j := 2) rfl (nI_add _ _) (by decide) rfl ?_
          refine r_goto (tgt := 4) d_Mm_isBesideSand_44 (by decide) ?_
          refine r_lv (lv' := [(3, .int (nI (i + 1))), (2, .int 1), (0, .ref b), (1, .int (nI c))]) [0, 1, 3, 4] rfl ?_
          exact ih (i + 1) _ (by omega) (by omega) (Or.inr rfl)
        · refine r_iload d_Mm_isBesideSand_20 0 rfl ?_
          refine r_iconst d_Mm_isBesideSand_22 (v := (-1)) (by decide) ?_
          refine r_icmp_eq (tgt := 35) d_Mm_isBesideSand_23 (by decide) (fun c_23 => ?_) (fun c_23 => ?_)
          · refine r_iconst d_Mm_isBesideSand_35 (v := 1) (by decide) ?_
            refine r_goto (tgt := 40) d_Mm_isBesideSand_36 (by decide) ?_
            refine r_istore_n (lv' := [(2, .int 1), (4, .int (oI (bs c i))), (3, .int (nI i)), (0, .ref b), (1, .int (nI c))]) d_Mm_isBesideSand_40 rfl (by decide) rfl ?_
            refine r_iinc (lv' := [(3, .int (nI (i + 1))), (2, .int 1), (4, .int (oI (bs c i))), (0, .ref b), (1, .int (nI c))]) (v := nI (i + 1)) d_Mm_isBesideSand_41 (j := 2) rfl (nI_add _ _) (by decide) rfl ?_
            refine r_goto (tgt := 4) d_Mm_isBesideSand_44 (by decide) ?_
            refine r_lv (lv' := [(3, .int (nI (i + 1))), (2, .int 1), (0, .ref b), (1, .int (nI c))]) [0, 1, 3, 4] rfl ?_
            exact ih (i + 1) _ (by omega) (by omega) (Or.inr rfl)
          · obtain ⟨oo, ho9⟩ := oI_nm c_23
            have hol := bs_lt hc ho9
            rw [ho9, show oI (some oo) = nI oo from rfl]
            refine r_aload_n d_Mm_isBesideSand_26 rfl 3 rfl ?_
            refine r_iload d_Mm_isBesideSand_27 0 rfl ?_
            refine r_cald d_Mm_isBesideSand_29 (q0 := 0) rfl (vp_in_nI (by omega) (by omega)) (v := f oo) (by rw [nI_clamp (by omega)]) ?_
            refine r_bipush d_Mm_isBesideSand_30 (v := 46) (by decide) ?_
            refine r_icmp_ne (tgt := 39) d_Mm_isBesideSand_32 (by decide) (fun c_32 => ?_) (fun c_32 => ?_)
            · refine r_iconst d_Mm_isBesideSand_39 (v := 0) (by decide) ?_
              refine r_istore_n (lv' := [(2, .int 0), (4, .int (nI oo)), (3, .int (nI i)), (0, .ref b), (1, .int (nI c))]) d_Mm_isBesideSand_40 rfl (by decide) rfl ?_
              refine r_iinc (lv' := [(3, .int (nI (i + 1))), (2, .int 0), (4, .int (nI oo)), (0, .ref b), (1, .int (nI c))]) (v := nI (i + 1)) d_Mm_isBesideSand_41 (j := 2) rfl (nI_add _ _) (by decide) rfl ?_
              refine r_goto (tgt := 4) d_Mm_isBesideSand_44 (by decide) ?_
              refine r_lv (lv' := [(3, .int (nI (i + 1))), (2, .int 0), (0, .ref b), (1, .int (nI c))]) [0, 1, 3, 4] rfl ?_
              exact ih (i + 1) _ (by omega) (by omega) (Or.inl rfl)
            · refine r_iconst d_Mm_isBesideSand_35 (v := 1) (by decide) ?_
              refine r_goto (tgt := 40) d_Mm_isBesideSand_36 (by decide) ?_
              refine r_istore_n (lv' := [(2, .int 1), (4, .int (nI oo)), (3, .int (nI i)), (0, .ref b), (1, .int (nI c))]) d_Mm_isBesideSand_40 rfl (by decide) rfl ?_
              refine r_iinc (lv' := [(3, .int (nI (i + 1))), (2, .int 1), (4, .int (nI oo)), (0, .ref b), (1, .int (nI c))]) (v := nI (i + 1)) d_Mm_isBesideSand_41 (j := 2) rfl (nI_add _ _) (by decide) rfl ?_
              refine r_goto (tgt := 4) d_Mm_isBesideSand_44 (by decide) ?_
              refine r_lv (lv' := [(3, .int (nI (i + 1))), (2, .int 1), (0, .ref b), (1, .int (nI c))]) [0, 1, 3, 4] rfl ?_
              exact ih (i + 1) _ (by omega) (by omega) (Or.inr rfl)
set_option maxHeartbeats 4000000 in
set_option maxRecDepth 100000 in
theorem C_Mm_isBesideSandW (g : zG) (b : Nat) (f : Nat → Int32) (c : Nat) (hc : c < 108) : CT g M_Mm_isBesideSand [.ref b, .int (nI c)] [(b, .inl (1, 108, .inl f))] (fun o cs1 => ∃ (v9 : Int32), (v9 = 0 ∨ v9 = 1) ∧ o = .inl (some (.int v9)) ∧ cs1 = [(b, .inl (1, 108, .inl f))]) 0 0 := by
  refine z_of (by decide) rfl (Nat.le_of_ble_eq_true rfl) (fun w0 => ?_)
  refine r_lvE (lv2 := [(0, .ref b), (1, .int (nI c))]) rfl ?_
  refine r_iconst d_Mm_isBesideSand_0 (v := 0) (by decide) ?_
  refine r_istore_n (lv' := [(2, .int 0), (0, .ref b), (1, .int (nI c))]) d_Mm_isBesideSand_1 rfl (by decide) rfl ?_
  refine r_iconst d_Mm_isBesideSand_2 (v := 0) (by decide) ?_
  refine r_istore_n (lv' := [(3, .int 0), (2, .int 0), (0, .ref b), (1, .int (nI c))]) d_Mm_isBesideSand_3 rfl (by decide) rfl ?_
  exact L_Mm_isBesideSandW_4 g b f c hc w0 _  (4 + 1) 0 _ (Nat.zero_le _) (by omega) (Or.inl rfl)
theorem d_Mm_isBesideCasting_38 : decode prog_14_method_42_code 38 = .ok (.iconst 1, 1) := zo_4 (zd_b zq_prog_14_method_42_code_1 6 rfl rfl rfl)
theorem d_Mm_isBesideCasting_39 : decode prog_14_method_42_code 39 = .ok (.goto 4, 3) := zo_167 (d := 0) (e := 4) (zd_b zq_prog_14_method_42_code_1 7 rfl rfl rfl) (zd_b zq_prog_14_method_42_code_1 8 rfl rfl rfl) (zd_b zq_prog_14_method_42_code_1 9 rfl rfl rfl) (by decide +kernel)
set_option maxHeartbeats 4000000 in
set_option maxRecDepth 100000 in
theorem L_Mm_isBesideCastingW_4 (g : zG) (m mp mf mh mn mt mz mc_ mq mgr ml mi mr mm mu mk mx : Nat) (th pt cl wa co_ fi bu ho lh mg wd fpi fal : Int32) (po de : Int64) (f : Nat → Int32) (c : Nat) (hc : c < 108) (w0 : zW) (n : Nat) : ∀ (d i : Nat) (lf : Int32), i ≤ 4 → 4 < i + d → (lf = 0 ∨ lf = 1) → DV g M_Mm_isBesideCasting (fun o cs1 => ∃ (v9 : Int32), (v9 = 0 ∨ v9 = 1) ∧ o = .inl (some (.int v9)) ∧ cs1 = [(m, .inr (12, [.int th, .ref mp, .int pt, .ref mf, .ref mh, .ref mn, .ref mt, .ref mz, .ref mc_, .ref mq, .ref mgr, .int cl, .int wa, .int co_, .int fi, .int bu, .int ho, .ref ml, .ref mi, .ref mr, .int lh, .int mg, .int wd, .int fpi, .int fal, .ref mm, .ref mu, .ref mk, .ref mx, .long po, .long de])), (mp, .inl (1, 108, .inl f))]) w0 n 4 [(3, .int (nI i)), (2, .int lf), (0, .ref m), (1, .int (nI c))] [] [(m, .inr (12, [.int th, .ref mp, .int pt, .ref mf, .ref mh, .ref mn, .ref mt, .ref mz, .ref mc_, .ref mq, .ref mgr, .int cl, .int wa, .int co_, .int fi, .int bu, .int ho, .ref ml, .ref mi, .ref mr, .int lh, .int mg, .int wd, .int fpi, .int fal, .ref mm, .ref mu, .ref mk, .ref mx, .long po, .long de])), (mp, .inl (1, 108, .inl f))] 0 0 := by
  intro d
  induction d with
  | zero => intro i lf h1 h2 v1; exact absurd h2 (by omega)
  | succ d ih =>
    intro i lf h1 h2 v1
    refine r_iload_n d_Mm_isBesideCasting_4 rfl 0 rfl ?_
    refine r_iconst d_Mm_isBesideCasting_5 (v := 4) (by decide) ?_
    refine r_icmp_ge (tgt := 50) d_Mm_isBesideCasting_6 (by decide) (fun c_6 => ?_) (fun c_6 => ?_)
    · have hn := z_le (a := 4) (by omega) (by decide) c_6
      obtain rfl : i = 4 := by omega
      refine r_iload_n d_Mm_isBesideCasting_50 rfl 1 rfl ?_
      refine r_iret d_Mm_isBesideCasting_51 rfl (z_nar01 v1) ?_
      exact ⟨_, v1, rfl, rfl⟩
    · have hn := z_nle (a := 4) (by omega) (by decide) c_6
      refine r_iload_n d_Mm_isBesideCasting_9 rfl 3 rfl ?_
      refine r_iload_n d_Mm_isBesideCasting_10 rfl 0 rfl ?_
      refine r_callS (As := [.int (nI c), .int (nI i)]) (rest := []) (csC := []) (is := []) ln_Mm_119 w_st_Mm_beside ok_Mm_isBesideCasting_Mm_beside d_Mm_isBesideCasting_11 (C_Mm_beside g c i (by omega) (by omega)) rfl rfl (Nat.le_of_ble_eq_true rfl) rfl (by decide) (by omega) (by omega) (fun E cs1 hx => ?_) (fun v cs1 hx => ?_)
      · exact absurd hx.1 (by simp)
      · obtain ⟨e1, rfl⟩ := hx
        cases e1
        refine ⟨rfl, ?_⟩
        refine r_st (st2 := [.int (oI (bs c i))]) rfl ?_
        refine r_cs (cs2 := [(m, .inr (12, [.int th, .ref mp, .int pt, .ref mf, .ref mh, .ref mn, .ref mt, .ref mz, .ref mc_, .ref mq, .ref mgr, .int cl, .int wa, .int co_, .int fi, .int bu, .int ho, .ref ml, .ref mi, .ref mr, .int lh, .int mg, .int wd, .int fpi, .int fal, .ref mm, .ref mu, .ref mk, .ref mx, .long po, .long de])), (mp, .inl (1, 108, .inl f))]) rfl ?_
        refine r_istore (lv' := [(4, .int (oI (bs c i))), (3, .int (nI i)), (2, .int lf), (0, .ref m), (1, .int (nI c))]) d_Mm_isBesideCasting_14 (by decide) rfl ?_
        refine r_iload_n d_Mm_isBesideCasting_16 rfl 2 rfl ?_
        refine r_if_ne (tgt := 38) d_Mm_isBesideCasting_17 (by decide) (fun c_17 => ?_) (fun c_17 => ?_)
        · refine r_iconst d_Mm_isBesideCasting_38 (v := 1) (by decide) ?_
          refine r_goto (tgt := 43) d_Mm_isBesideCasting_39 (by decide) ?_
          refine r_istore_n (lv' := [(2, .int 1), (4, .int (oI (bs c i))), (3, .int (nI i)), (0, .ref m), (1, .int (nI c))]) d_Mm_isBesideCasting_43 rfl (by decide) rfl ?_
          refine r_iinc (lv' := [(3, .int (nI (i + 1))), (2, .int 1), (4, .int (oI (bs c i))), (0, .ref m), (1, .int (nI c))]) (v := nI (i + 1)) d_Mm_isBesideCasting_44 (j := 2) rfl (nI_add _ _) (by decide) rfl ?_
          refine r_goto (tgt := 4) d_Mm_isBesideCasting_47 (by decide) ?_
          refine r_lv (lv' := [(3, .int (nI (i + 1))), (2, .int 1), (0, .ref m), (1, .int (nI c))]) [0, 1, 3, 4] rfl ?_
          exact ih (i + 1) _ (by omega) (by omega) (Or.inr rfl)
        · refine r_iload d_Mm_isBesideCasting_20 0 rfl ?_
          refine r_iconst d_Mm_isBesideCasting_22 (v := (-1)) (by decide) ?_
          refine r_icmp_eq (tgt := 42) d_Mm_isBesideCasting_23 (by decide) (fun c_23 => ?_) (fun c_23 => ?_)
          · refine r_iconst d_Mm_isBesideCasting_42 (v := 0) (by decide) ?_
            refine r_istore_n (lv' := [(2, .int 0), (4, .int (oI (bs c i))), (3, .int (nI i)), (0, .ref m), (1, .int (nI c))]) d_Mm_isBesideCasting_43 rfl (by decide) rfl ?_
            refine r_iinc (lv' := [(3, .int (nI (i + 1))), (2, .int 0), (4, .int (oI (bs c i))), (0, .ref m), (1, .int (nI c))]) (v := nI (i + 1)) d_Mm_isBesideCasting_44 (j := 2) rfl (nI_add _ _) (by decide) rfl ?_
            refine r_goto (tgt := 4) d_Mm_isBesideCasting_47 (by decide) ?_
            refine r_lv (lv' := [(3, .int (nI (i + 1))), (2, .int 0), (0, .ref m), (1, .int (nI c))]) [0, 1, 3, 4] rfl ?_
            exact ih (i + 1) _ (by omega) (by omega) (Or.inl rfl)
          · obtain ⟨oo, ho9⟩ := oI_nm c_23
            have hol := bs_lt hc ho9
            rw [ho9, show oI (some oo) = nI oo from rfl]
            refine r_aload_n d_Mm_isBesideCasting_26 rfl 3 rfl ?_
            refine r_get fs_Mm_7 d_Mm_isBesideCasting_27 (q0 := 0) rfl rfl ?_
            refine r_iload d_Mm_isBesideCasting_30 0 rfl ?_
            refine r_cald d_Mm_isBesideCasting_32 (q0 := 1) rfl (vp_in_nI (by omega) (by omega)) (v := f oo) (by rw [nI_clamp (by omega)]) ?_
            refine r_bipush d_Mm_isBesideCasting_33 (v := 99) (by decide) ?_
            refine r_icmp_ne (tgt := 42) d_Mm_isBesideCasting_35 (by decide) (fun c_35 => ?_) (fun c_35 => ?_)
            · refine r_iconst d_Mm_isBesideCasting_42 (v := 0) (by decide) ?_
              refine r_istore_n (lv' := [(2, .int 0), (4, .int (nI oo)), (3, .int (nI i)), (0, .ref m), (1, .int (nI c))]) d_Mm_isBesideCasting_43 rfl (by decide) rfl ?_
              refine r_iinc (lv' := [(3, .int (nI (i + 1))), (2, .int 0), (4, .int (nI oo)), (0, .ref m), (1, .int (nI c))]) (v := nI (i + 1)) d_Mm_isBesideCasting_44 (j := 2) rfl (nI_add _ _) (by decide) rfl ?_
              refine r_goto (tgt := 4) d_Mm_isBesideCasting_47 (by decide) ?_
              refine r_lv (lv' := [(3, .int (nI (i + 1))), (2, .int 0), (0, .ref m), (1, .int (nI c))]) [0, 1, 3, 4] rfl ?_
              exact ih (i + 1) _ (by omega) (by omega) (Or.inl rfl)
            · refine r_iconst d_Mm_isBesideCasting_38 (v := 1) (by decide) ?_
              refine r_goto (tgt := 43) d_Mm_isBesideCasting_39 (by decide) ?_
              refine r_istore_n (lv' := [(2, .int 1), (4, .int (nI oo)), (3, .int (nI i)), (0, .ref m), (1, .int (nI c))]) d_Mm_isBesideCasting_43 rfl (by decide) rfl ?_
              refine r_iinc (lv' := [(3, .int (nI (i + 1))), (2, .int 1), (4, .int (nI oo)), (0, .ref m), (1, .int (nI c))]) (v := nI (i + 1)) d_Mm_isBesideCasting_44 (j := 2) rfl (nI_add _ _) (by decide) rfl ?_
              refine r_goto (tgt := 4) d_Mm_isBesideCasting_47 (by decide) ?_
              refine r_lv (lv' := [(3, .int (nI (i + 1))), (2, .int 1), (0, .ref m), (1, .int (nI c))]) [0, 1, 3, 4] rfl ?_
              exact ih (i + 1) _ (by omega) (by omega) (Or.inr rfl)
set_option maxHeartbeats 4000000 in
set_option maxRecDepth 100000 in
theorem C_Mm_isBesideCastingW (g : zG) (m mp mf mh mn mt mz mc_ mq mgr ml mi mr mm mu mk mx : Nat) (th pt cl wa co_ fi bu ho lh mg wd fpi fal : Int32) (po de : Int64) (f : Nat → Int32) (c : Nat) (hc : c < 108) : CT g M_Mm_isBesideCasting [.ref m, .int (nI c)] [(m, .inr (12, [.int th, .ref mp, .int pt, .ref mf, .ref mh, .ref mn, .ref mt, .ref mz, .ref mc_, .ref mq, .ref mgr, .int cl, .int wa, .int co_, .int fi, .int bu, .int ho, .ref ml, .ref mi, .ref mr, .int lh, .int mg, .int wd, .int fpi, .int fal, .ref mm, .ref mu, .ref mk, .ref mx, .long po, .long de])), (mp, .inl (1, 108, .inl f))] (fun o cs1 => ∃ (v9 : Int32), (v9 = 0 ∨ v9 = 1) ∧ o = .inl (some (.int v9)) ∧ cs1 = [(m, .inr (12, [.int th, .ref mp, .int pt, .ref mf, .ref mh, .ref mn, .ref mt, .ref mz, .ref mc_, .ref mq, .ref mgr, .int cl, .int wa, .int co_, .int fi, .int bu, .int ho, .ref ml, .ref mi, .ref mr, .int lh, .int mg, .int wd, .int fpi, .int fal, .ref mm, .ref mu, .ref mk, .ref mx, .long po, .long de])), (mp, .inl (1, 108, .inl f))]) 0 0 := by
  refine z_of (by decide) rfl (Nat.le_of_ble_eq_true rfl) (fun w0 => ?_)
  refine r_lvE (lv2 := [(0, .ref m), (1, .int (nI c))]) rfl ?_
  refine r_iconst d_Mm_isBesideCasting_0 (v := 0) (by decide) ?_
  refine r_istore_n (lv' := [(2, .int 0), (0, .ref m), (1, .int (nI c))]) d_Mm_isBesideCasting_1 rfl (by decide) rfl ?_
  refine r_iconst d_Mm_isBesideCasting_2 (v := 0) (by decide) ?_
  refine r_istore_n (lv' := [(3, .int 0), (2, .int 0), (0, .ref m), (1, .int (nI c))]) d_Mm_isBesideCasting_3 rfl (by decide) rfl ?_
  exact L_Mm_isBesideCastingW_4 g m mp mf mh mn mt mz mc_ mq mgr ml mi mr mm mu mk mx th pt cl wa co_ fi bu ho lh mg wd fpi fal po de f c hc w0 _  (4 + 1) 0 _ (Nat.zero_le _) (by omega) (Or.inl rfl)
