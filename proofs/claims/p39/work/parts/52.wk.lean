def ctM (ic : Nat → Int32) : Nat := fa_cnt (fun k => decide (¬ ic k = 0)) 108
theorem ct_ups {ic : Nat → Int32} {c : Nat} (h : ic c = 0) : ∀ n, (n ≤ c → fa_cnt (fun k => decide (¬ upd ic c 1 k = 0)) n = fa_cnt (fun k => decide (¬ ic k = 0)) n) ∧ (c < n → fa_cnt (fun k => decide (¬ upd ic c 1 k = 0)) n = fa_cnt (fun k => decide (¬ ic k = 0)) n + 1)
  | 0 => ⟨fun _ => rfl, fun q => absurd q (by omega)⟩
  | n + 1 => by
    have ih := ct_ups h n
    refine ⟨fun q => ?_, fun q => ?_⟩
    · have e : upd ic c 1 n = ic n := if_neg (by omega)
      rw [fa_cnt, fa_cnt, ih.1 (by omega), e]
    · by_cases hn : n = c
      · subst hn
        have e : upd ic n 1 n = 1 := if_pos rfl
        rw [fa_cnt_no (p := fun k => decide (¬ ic k = 0)) (decide_eq_false (fun q => q h)), fa_cnt_yes (p := fun k => decide (¬ upd ic n 1 k = 0)) (decide_eq_true (by rw [e]; decide)), ih.1 (Nat.le_refl _)]
      · have e : upd ic c 1 n = ic n := if_neg hn
        have ih2 := ih.2 (by omega)
        rw [fa_cnt, fa_cnt, e]
        omega
theorem ct_up {ic : Nat → Int32} {c : Nat} (hc : c < 108) (h : ic c = 0) : ctM (upd ic c 1) = ctM ic + 1 := (ct_ups h 108).2 hc
theorem ctm_le (ic : Nat → Int32) : ctM ic ≤ 108 := fa_cnt_le _ 108
theorem ct_pos {ic : Nat → Int32} {c : Nat} (h : ¬ ic c = 0) : ∀ n, c < n → 1 ≤ fa_cnt (fun k => decide (¬ ic k = 0)) n
  | 0, q => absurd q (by omega)
  | n + 1, q => by
    by_cases hn : n = c
    · subst hn
      rw [fa_cnt_yes (p := fun k => decide (¬ ic k = 0)) (decide_eq_true h)]
      omega
    · have ih := ct_pos h n (by omega)
      rw [fa_cnt]
      omega
def qI (ic : Nat → Int32) (qn : Nat → Nat) (e : Nat) : Prop := (∀ k, k < e → qn k < 108) ∧ e ≤ ctM ic
theorem qI_le {ic : Nat → Int32} {qn : Nat → Nat} {e : Nat} (h : qI ic qn e) : e ≤ 108 := Nat.le_trans h.2 (ctm_le ic)
theorem qI_lt {ic : Nat → Int32} {qn : Nat → Nat} {e c : Nat} (h : qI ic qn e) (hc : c < 108) (h0 : ic c = 0) : e < 108 := by
  have h1 := ct_up hc h0
  have h2 := ctm_le (upd ic c 1)
  have h3 := h.2
  omega
theorem qI_up {ic : Nat → Int32} {qn : Nat → Nat} {e c : Nat} (h : qI ic qn e) (hc : c < 108) (h0 : ic c = 0) : qI (upd ic c 1) (updN qn e c) (e + 1) := by
  refine ⟨fun k hk => ?_, by have h1 := ct_up hc h0; have := h.2; omega⟩
  unfold updN
  split
  · exact hc
  · exact h.1 k (by omega)
theorem qI_1 {ic : Nat → Int32} {qn : Nat → Nat} {c : Nat} (hc : c < 108) : qI (upd ic c 1) (updN qn 0 c) 1 := by
  refine ⟨fun k hk => ?_, ct_pos (c := c) (by have e : upd ic c 1 c = 1 := if_pos rfl; rw [e]; decide) 108 hc⟩
  unfold updN
  rw [if_pos (by omega)]
  exact hc
abbrev M_Mm_hasWay : zM := (⟨"IronpourModel", "hasWay", "(I)Z"⟩, prog_14_method_39_code, 7, (Option.some FieldType.boolean), 4, 86, [])
theorem d_Mm_hasWay_65 : decode prog_14_method_39_code 65 = .ok (.iload 4, 2) := zo_21 (d := 4) (zd_b zq_prog_14_method_39_code_2 1 rfl rfl rfl) (zd_b zq_prog_14_method_39_code_2 2 rfl rfl rfl)
theorem d_Mm_hasWay_67 : decode prog_14_method_39_code 67 = .ok (.iconst 4, 1) := zo_7 (zd_b zq_prog_14_method_39_code_2 3 rfl rfl rfl)
theorem d_Mm_hasWay_68 : decode prog_14_method_39_code 68 = .ok (.if_icmp .ge 114, 3) := zo_162 (d := 0) (e := 114) (zd_b zq_prog_14_method_39_code_2 4 rfl rfl rfl) (zd_b zq_prog_14_method_39_code_2 5 rfl rfl rfl) (zd_b zq_prog_14_method_39_code_2 6 rfl rfl rfl) (by decide +kernel)
theorem d_Mm_hasWay_71 : decode prog_14_method_39_code 71 = .ok (.aload_n 0, 1) := zo_42 (zd_b zq_prog_14_method_39_code_2 7 rfl rfl rfl)
theorem d_Mm_hasWay_72 : decode prog_14_method_39_code 72 = .ok (.getfield 37, 3) := zo_180 (d := 0) (e := 37) (zd_b zq_prog_14_method_39_code_2 8 rfl rfl rfl) (zd_b zq_prog_14_method_39_code_2 9 rfl rfl rfl) (zd_b zq_prog_14_method_39_code_2 10 rfl rfl rfl)
theorem fs_Mm_37 : z_fs "IronpourModel" 37 12 9 := ⟨R_Mm, "IronpourModel", F_Mm, 31, rfl, u_Mm, by decide, Or.inl ⟨z_mj7 (i := 92) rfl (by decide +kernel), Or.inl rfl⟩⟩
theorem d_Mm_hasWay_75 : decode prog_14_method_39_code 75 = .ok (.iload_n 3, 1) := zo_29 (zd_b zq_prog_14_method_39_code_2 11 rfl rfl rfl)
theorem d_Mm_hasWay_76 : decode prog_14_method_39_code 76 = .ok (.iaload, 1) := zo_46 (zd_b zq_prog_14_method_39_code_2 12 rfl rfl rfl)
theorem d_Mm_hasWay_77 : decode prog_14_method_39_code 77 = .ok (.iload 4, 2) := zo_21 (d := 4) (zd_b zq_prog_14_method_39_code_2 13 rfl rfl rfl) (zd_b zq_prog_14_method_39_code_2 14 rfl rfl rfl)
theorem d_Mm_hasWay_79 : decode prog_14_method_39_code 79 = .ok (.invokestatic 119, 3) := zo_184 (d := 0) (e := 119) (zd_b zq_prog_14_method_39_code_2 15 rfl rfl rfl) (zd_b zq_prog_14_method_39_code_2 16 rfl rfl rfl) (zd_b zq_prog_14_method_39_code_2 17 rfl rfl rfl)
theorem ok_Mm_hasWay_Mm_beside : z_ok M_Mm_hasWay M_Mm_beside 2 := ⟨z_mj7 (i := 229) rfl (by decide +kernel), rfl, ⟨by decide +kernel, by decide +kernel, by decide +kernel⟩, ⟨by decide, by decide⟩, z_mj1 (i := 14) rfl (by decide +kernel), rfl⟩
theorem d_Mm_hasWay_82 : decode prog_14_method_39_code 82 = .ok (.istore 5, 2) := zo_54 (d := 5) (zd_b zq_prog_14_method_39_code_2 18 rfl rfl rfl) (zd_b zq_prog_14_method_39_code_2 19 rfl rfl rfl)
theorem d_Mm_hasWay_84 : decode prog_14_method_39_code 84 = .ok (.iload 5, 2) := zo_21 (d := 5) (zd_b zq_prog_14_method_39_code_2 20 rfl rfl rfl) (zd_b zq_prog_14_method_39_code_2 21 rfl rfl rfl)
theorem d_Mm_hasWay_86 : decode prog_14_method_39_code 86 = .ok (.iconst (-1), 1) := zo_2 (zd_b zq_prog_14_method_39_code_2 22 rfl rfl rfl)
theorem d_Mm_hasWay_87 : decode prog_14_method_39_code 87 = .ok (.if_icmp .eq 62, 3) := zo_159 (d := 0) (e := 62) (zd_b zq_prog_14_method_39_code_2 23 rfl rfl rfl) (zd_b zq_prog_14_method_39_code_2 24 rfl rfl rfl) (zd_b zq_prog_14_method_39_code_2 25 rfl rfl rfl) (by decide +kernel)
theorem d_Mm_hasWay_149 : decode prog_14_method_39_code 149 = .ok (.iconst 0, 1) := zo_3 (zd_b zq_prog_14_method_39_code_4 21 rfl rfl rfl)
theorem d_Mm_hasWay_150 : decode prog_14_method_39_code 150 = .ok (.istore 6, 2) := zo_54 (d := 6) (zd_b zq_prog_14_method_39_code_4 22 rfl rfl rfl) (zd_b zq_prog_14_method_39_code_4 23 rfl rfl rfl)
theorem d_Mm_hasWay_152 : decode prog_14_method_39_code 152 = .ok (.iload 6, 2) := zo_21 (d := 6) (zd_b zq_prog_14_method_39_code_4 24 rfl rfl rfl) (zd_b zq_prog_14_method_39_code_4 25 rfl rfl rfl)
theorem d_Mm_hasWay_154 : decode prog_14_method_39_code 154 = .ok (.ifCond .eq 22, 3) := zo_153 (d := 0) (e := 22) (zd_b zq_prog_14_method_39_code_4 26 rfl rfl rfl) (zd_b zq_prog_14_method_39_code_4 27 rfl rfl rfl) (zd_b zq_prog_14_method_39_code_4 28 rfl rfl rfl) (by decide +kernel)
theorem d_Mm_hasWay_176 : decode prog_14_method_39_code 176 = .ok (.iinc 4 1, 3) := by decide +kernel
theorem d_Mm_hasWay_179 : decode prog_14_method_39_code 179 = .ok (.goto (-114), 3) := zo_167 (d := 255) (e := 142) (zd_b zq_prog_14_method_39_code_5 19 rfl rfl rfl) (zd_b zq_prog_14_method_39_code_5 20 rfl rfl rfl) (zd_b zq_prog_14_method_39_code_5 21 rfl rfl rfl) (by decide +kernel)
theorem d_Mm_hasWay_90 : decode prog_14_method_39_code 90 = .ok (.aload_n 0, 1) := zo_42 (zd_b zq_prog_14_method_39_code_2 26 rfl rfl rfl)
theorem d_Mm_hasWay_91 : decode prog_14_method_39_code 91 = .ok (.getfield 7, 3) := zo_180 (d := 0) (e := 7) (zd_b zq_prog_14_method_39_code_2 27 rfl rfl rfl) (zd_b zq_prog_14_method_39_code_2 28 rfl rfl rfl) (zd_b zq_prog_14_method_39_code_2 29 rfl rfl rfl)
theorem d_Mm_hasWay_94 : decode prog_14_method_39_code 94 = .ok (.iload 5, 2) := zo_21 (d := 5) (zd_b zq_prog_14_method_39_code_2 30 rfl rfl rfl) (zd_b zq_prog_14_method_39_code_2 31 rfl rfl rfl)
theorem d_Mm_hasWay_96 : decode prog_14_method_39_code 96 = .ok (.caload, 1) := zo_52 (zd_b zq_prog_14_method_39_code_3 0 rfl rfl rfl)
theorem d_Mm_hasWay_97 : decode prog_14_method_39_code 97 = .ok (.invokestatic 107, 3) := zo_184 (d := 0) (e := 107) (zd_b zq_prog_14_method_39_code_3 1 rfl rfl rfl) (zd_b zq_prog_14_method_39_code_3 2 rfl rfl rfl) (zd_b zq_prog_14_method_39_code_3 3 rfl rfl rfl)
theorem ok_Mm_hasWay_Mm_isMetal : z_ok M_Mm_hasWay M_Mm_isMetal 1 := ⟨z_mj7 (i := 214) rfl (by decide +kernel), rfl, ⟨by decide +kernel, by decide +kernel, by decide +kernel⟩, ⟨by decide, by decide⟩, z_mj1 (i := 14) rfl (by decide +kernel), rfl⟩
theorem d_Mm_hasWay_100 : decode prog_14_method_39_code 100 = .ok (.ifCond .eq 49, 3) := zo_153 (d := 0) (e := 49) (zd_b zq_prog_14_method_39_code_3 4 rfl rfl rfl) (zd_b zq_prog_14_method_39_code_3 5 rfl rfl rfl) (zd_b zq_prog_14_method_39_code_3 6 rfl rfl rfl) (by decide +kernel)
theorem d_Mm_hasWay_103 : decode prog_14_method_39_code 103 = .ok (.aload_n 0, 1) := zo_42 (zd_b zq_prog_14_method_39_code_3 7 rfl rfl rfl)
theorem d_Mm_hasWay_104 : decode prog_14_method_39_code 104 = .ok (.getfield 17, 3) := zo_180 (d := 0) (e := 17) (zd_b zq_prog_14_method_39_code_3 8 rfl rfl rfl) (zd_b zq_prog_14_method_39_code_3 9 rfl rfl rfl) (zd_b zq_prog_14_method_39_code_3 10 rfl rfl rfl)
theorem d_Mm_hasWay_107 : decode prog_14_method_39_code 107 = .ok (.iload 5, 2) := zo_21 (d := 5) (zd_b zq_prog_14_method_39_code_3 11 rfl rfl rfl) (zd_b zq_prog_14_method_39_code_3 12 rfl rfl rfl)
theorem d_Mm_hasWay_109 : decode prog_14_method_39_code 109 = .ok (.iaload, 1) := zo_46 (zd_b zq_prog_14_method_39_code_3 13 rfl rfl rfl)
theorem d_Mm_hasWay_110 : decode prog_14_method_39_code 110 = .ok (.iconst (-1), 1) := zo_2 (zd_b zq_prog_14_method_39_code_3 14 rfl rfl rfl)
theorem d_Mm_hasWay_111 : decode prog_14_method_39_code 111 = .ok (.if_icmp .eq 38, 3) := zo_159 (d := 0) (e := 38) (zd_b zq_prog_14_method_39_code_3 15 rfl rfl rfl) (zd_b zq_prog_14_method_39_code_3 16 rfl rfl rfl) (zd_b zq_prog_14_method_39_code_3 17 rfl rfl rfl) (by decide +kernel)
theorem d_Mm_hasWay_114 : decode prog_14_method_39_code 114 = .ok (.aload_n 0, 1) := zo_42 (zd_b zq_prog_14_method_39_code_3 18 rfl rfl rfl)
theorem d_Mm_hasWay_115 : decode prog_14_method_39_code 115 = .ok (.getfield 33, 3) := zo_180 (d := 0) (e := 33) (zd_b zq_prog_14_method_39_code_3 19 rfl rfl rfl) (zd_b zq_prog_14_method_39_code_3 20 rfl rfl rfl) (zd_b zq_prog_14_method_39_code_3 21 rfl rfl rfl)
theorem d_Mm_hasWay_118 : decode prog_14_method_39_code 118 = .ok (.iload 5, 2) := zo_21 (d := 5) (zd_b zq_prog_14_method_39_code_3 22 rfl rfl rfl) (zd_b zq_prog_14_method_39_code_3 23 rfl rfl rfl)
theorem d_Mm_hasWay_120 : decode prog_14_method_39_code 120 = .ok (.baload, 1) := zo_51 (zd_b zq_prog_14_method_39_code_3 24 rfl rfl rfl)
theorem d_Mm_hasWay_121 : decode prog_14_method_39_code 121 = .ok (.ifCond .ne 28, 3) := zo_154 (d := 0) (e := 28) (zd_b zq_prog_14_method_39_code_3 25 rfl rfl rfl) (zd_b zq_prog_14_method_39_code_3 26 rfl rfl rfl) (zd_b zq_prog_14_method_39_code_3 27 rfl rfl rfl) (by decide +kernel)
theorem d_Mm_hasWay_124 : decode prog_14_method_39_code 124 = .ok (.aload_n 0, 1) := zo_42 (zd_b zq_prog_14_method_39_code_3 28 rfl rfl rfl)
theorem d_Mm_hasWay_125 : decode prog_14_method_39_code 125 = .ok (.getfield 30, 3) := zo_180 (d := 0) (e := 30) (zd_b zq_prog_14_method_39_code_3 29 rfl rfl rfl) (zd_b zq_prog_14_method_39_code_3 30 rfl rfl rfl) (zd_b zq_prog_14_method_39_code_3 31 rfl rfl rfl)
theorem d_Mm_hasWay_128 : decode prog_14_method_39_code 128 = .ok (.iload 5, 2) := zo_21 (d := 5) (zd_b zq_prog_14_method_39_code_4 0 rfl rfl rfl) (zd_b zq_prog_14_method_39_code_4 1 rfl rfl rfl)
theorem d_Mm_hasWay_130 : decode prog_14_method_39_code 130 = .ok (.iaload, 1) := zo_46 (zd_b zq_prog_14_method_39_code_4 2 rfl rfl rfl)
theorem d_Mm_hasWay_131 : decode prog_14_method_39_code 131 = .ok (.aload_n 0, 1) := zo_42 (zd_b zq_prog_14_method_39_code_4 3 rfl rfl rfl)
theorem d_Mm_hasWay_132 : decode prog_14_method_39_code 132 = .ok (.getfield 30, 3) := zo_180 (d := 0) (e := 30) (zd_b zq_prog_14_method_39_code_4 4 rfl rfl rfl) (zd_b zq_prog_14_method_39_code_4 5 rfl rfl rfl) (zd_b zq_prog_14_method_39_code_4 6 rfl rfl rfl)
theorem d_Mm_hasWay_135 : decode prog_14_method_39_code 135 = .ok (.aload_n 0, 1) := zo_42 (zd_b zq_prog_14_method_39_code_4 7 rfl rfl rfl)
theorem d_Mm_hasWay_136 : decode prog_14_method_39_code 136 = .ok (.getfield 37, 3) := zo_180 (d := 0) (e := 37) (zd_b zq_prog_14_method_39_code_4 8 rfl rfl rfl) (zd_b zq_prog_14_method_39_code_4 9 rfl rfl rfl) (zd_b zq_prog_14_method_39_code_4 10 rfl rfl rfl)
theorem d_Mm_hasWay_139 : decode prog_14_method_39_code 139 = .ok (.iload_n 3, 1) := zo_29 (zd_b zq_prog_14_method_39_code_4 11 rfl rfl rfl)
theorem d_Mm_hasWay_140 : decode prog_14_method_39_code 140 = .ok (.iaload, 1) := zo_46 (zd_b zq_prog_14_method_39_code_4 12 rfl rfl rfl)
theorem d_Mm_hasWay_141 : decode prog_14_method_39_code 141 = .ok (.iaload, 1) := zo_46 (zd_b zq_prog_14_method_39_code_4 13 rfl rfl rfl)
theorem d_Mm_hasWay_142 : decode prog_14_method_39_code 142 = .ok (.if_icmp .lt 7, 3) := zo_161 (d := 0) (e := 7) (zd_b zq_prog_14_method_39_code_4 14 rfl rfl rfl) (zd_b zq_prog_14_method_39_code_4 15 rfl rfl rfl) (zd_b zq_prog_14_method_39_code_4 16 rfl rfl rfl) (by decide +kernel)
theorem d_Mm_hasWay_145 : decode prog_14_method_39_code 145 = .ok (.iconst 1, 1) := zo_4 (zd_b zq_prog_14_method_39_code_4 17 rfl rfl rfl)
theorem d_Mm_hasWay_146 : decode prog_14_method_39_code 146 = .ok (.goto 4, 3) := zo_167 (d := 0) (e := 4) (zd_b zq_prog_14_method_39_code_4 18 rfl rfl rfl) (zd_b zq_prog_14_method_39_code_4 19 rfl rfl rfl) (zd_b zq_prog_14_method_39_code_4 20 rfl rfl rfl) (by decide +kernel)
theorem d_Mm_hasWay_157 : decode prog_14_method_39_code 157 = .ok (.aload_n 0, 1) := zo_42 (zd_b zq_prog_14_method_39_code_4 29 rfl rfl rfl)
theorem d_Mm_hasWay_158 : decode prog_14_method_39_code 158 = .ok (.getfield 33, 3) := zo_180 (d := 0) (e := 33) (zd_b zq_prog_14_method_39_code_4 30 rfl rfl rfl) (zd_b zq_prog_14_method_39_code_4 31 rfl rfl rfl) (zd_b zq_prog_14_method_39_code_5 0 rfl rfl rfl)
theorem d_Mm_hasWay_161 : decode prog_14_method_39_code 161 = .ok (.iload 5, 2) := zo_21 (d := 5) (zd_b zq_prog_14_method_39_code_5 1 rfl rfl rfl) (zd_b zq_prog_14_method_39_code_5 2 rfl rfl rfl)
theorem d_Mm_hasWay_163 : decode prog_14_method_39_code 163 = .ok (.iconst 1, 1) := zo_4 (zd_b zq_prog_14_method_39_code_5 3 rfl rfl rfl)
theorem d_Mm_hasWay_164 : decode prog_14_method_39_code 164 = .ok (.bastore, 1) := zo_84 (zd_b zq_prog_14_method_39_code_5 4 rfl rfl rfl)
theorem d_Mm_hasWay_165 : decode prog_14_method_39_code 165 = .ok (.aload_n 0, 1) := zo_42 (zd_b zq_prog_14_method_39_code_5 5 rfl rfl rfl)
theorem d_Mm_hasWay_166 : decode prog_14_method_39_code 166 = .ok (.getfield 37, 3) := zo_180 (d := 0) (e := 37) (zd_b zq_prog_14_method_39_code_5 6 rfl rfl rfl) (zd_b zq_prog_14_method_39_code_5 7 rfl rfl rfl) (zd_b zq_prog_14_method_39_code_5 8 rfl rfl rfl)
theorem d_Mm_hasWay_169 : decode prog_14_method_39_code 169 = .ok (.iload_n 2, 1) := zo_28 (zd_b zq_prog_14_method_39_code_5 9 rfl rfl rfl)
theorem d_Mm_hasWay_170 : decode prog_14_method_39_code 170 = .ok (.iload 5, 2) := zo_21 (d := 5) (zd_b zq_prog_14_method_39_code_5 10 rfl rfl rfl) (zd_b zq_prog_14_method_39_code_5 11 rfl rfl rfl)
theorem d_Mm_hasWay_172 : decode prog_14_method_39_code 172 = .ok (.iastore, 1) := zo_79 (zd_b zq_prog_14_method_39_code_5 12 rfl rfl rfl)
theorem d_Mm_hasWay_173 : decode prog_14_method_39_code 173 = .ok (.iinc 2 1, 3) := by decide +kernel
theorem d_Mm_hasWay_39 : decode prog_14_method_39_code 39 = .ok (.iload_n 3, 1) := zo_29 (zd_b zq_prog_14_method_39_code_1 7 rfl rfl rfl)
theorem d_Mm_hasWay_40 : decode prog_14_method_39_code 40 = .ok (.iload_n 2, 1) := zo_28 (zd_b zq_prog_14_method_39_code_1 8 rfl rfl rfl)
theorem d_Mm_hasWay_41 : decode prog_14_method_39_code 41 = .ok (.if_icmp .ge 147, 3) := zo_162 (d := 0) (e := 147) (zd_b zq_prog_14_method_39_code_1 9 rfl rfl rfl) (zd_b zq_prog_14_method_39_code_1 10 rfl rfl rfl) (zd_b zq_prog_14_method_39_code_1 11 rfl rfl rfl) (by decide +kernel)
theorem d_Mm_hasWay_188 : decode prog_14_method_39_code 188 = .ok (.iconst 0, 1) := zo_3 (zd_b zq_prog_14_method_39_code_5 28 rfl rfl rfl)
theorem d_Mm_hasWay_189 : decode prog_14_method_39_code 189 = .ok (.ireturn, 1) := zo_172 (zd_b zq_prog_14_method_39_code_5 29 rfl rfl rfl)
theorem d_Mm_hasWay_44 : decode prog_14_method_39_code 44 = .ok (.aload_n 0, 1) := zo_42 (zd_b zq_prog_14_method_39_code_1 12 rfl rfl rfl)
theorem d_Mm_hasWay_45 : decode prog_14_method_39_code 45 = .ok (.getfield 7, 3) := zo_180 (d := 0) (e := 7) (zd_b zq_prog_14_method_39_code_1 13 rfl rfl rfl) (zd_b zq_prog_14_method_39_code_1 14 rfl rfl rfl) (zd_b zq_prog_14_method_39_code_1 15 rfl rfl rfl)
theorem d_Mm_hasWay_48 : decode prog_14_method_39_code 48 = .ok (.aload_n 0, 1) := zo_42 (zd_b zq_prog_14_method_39_code_1 16 rfl rfl rfl)
theorem d_Mm_hasWay_49 : decode prog_14_method_39_code 49 = .ok (.getfield 37, 3) := zo_180 (d := 0) (e := 37) (zd_b zq_prog_14_method_39_code_1 17 rfl rfl rfl) (zd_b zq_prog_14_method_39_code_1 18 rfl rfl rfl) (zd_b zq_prog_14_method_39_code_1 19 rfl rfl rfl)
theorem d_Mm_hasWay_52 : decode prog_14_method_39_code 52 = .ok (.iload_n 3, 1) := zo_29 (zd_b zq_prog_14_method_39_code_1 20 rfl rfl rfl)
theorem d_Mm_hasWay_53 : decode prog_14_method_39_code 53 = .ok (.iaload, 1) := zo_46 (zd_b zq_prog_14_method_39_code_1 21 rfl rfl rfl)
theorem d_Mm_hasWay_54 : decode prog_14_method_39_code 54 = .ok (.caload, 1) := zo_52 (zd_b zq_prog_14_method_39_code_1 22 rfl rfl rfl)
theorem d_Mm_hasWay_55 : decode prog_14_method_39_code 55 = .ok (.bipush 114, 2) := zo_16 (d := 114) (zd_b zq_prog_14_method_39_code_1 23 rfl rfl rfl) (zd_b zq_prog_14_method_39_code_1 24 rfl rfl rfl) (by decide +kernel)
theorem d_Mm_hasWay_57 : decode prog_14_method_39_code 57 = .ok (.if_icmp .ne 5, 3) := zo_160 (d := 0) (e := 5) (zd_b zq_prog_14_method_39_code_1 25 rfl rfl rfl) (zd_b zq_prog_14_method_39_code_1 26 rfl rfl rfl) (zd_b zq_prog_14_method_39_code_1 27 rfl rfl rfl) (by decide +kernel)
theorem d_Mm_hasWay_62 : decode prog_14_method_39_code 62 = .ok (.iconst 0, 1) := zo_3 (zd_b zq_prog_14_method_39_code_1 30 rfl rfl rfl)
theorem d_Mm_hasWay_63 : decode prog_14_method_39_code 63 = .ok (.istore 4, 2) := zo_54 (d := 4) (zd_b zq_prog_14_method_39_code_1 31 rfl rfl rfl) (zd_b zq_prog_14_method_39_code_2 0 rfl rfl rfl)
theorem d_Mm_hasWay_182 : decode prog_14_method_39_code 182 = .ok (.iinc 3 1, 3) := by decide +kernel
theorem d_Mm_hasWay_185 : decode prog_14_method_39_code 185 = .ok (.goto (-146), 3) := zo_167 (d := 255) (e := 110) (zd_b zq_prog_14_method_39_code_5 25 rfl rfl rfl) (zd_b zq_prog_14_method_39_code_5 26 rfl rfl rfl) (zd_b zq_prog_14_method_39_code_5 27 rfl rfl rfl) (by decide +kernel)
theorem d_Mm_hasWay_60 : decode prog_14_method_39_code 60 = .ok (.iconst 1, 1) := zo_4 (zd_b zq_prog_14_method_39_code_1 28 rfl rfl rfl)
theorem d_Mm_hasWay_61 : decode prog_14_method_39_code 61 = .ok (.ireturn, 1) := zo_172 (zd_b zq_prog_14_method_39_code_1 29 rfl rfl rfl)
theorem d_Mm_hasWay_2 : decode prog_14_method_39_code 2 = .ok (.iload_n 2, 1) := zo_28 (zd_b zq_prog_14_method_39_code_0 2 rfl rfl rfl)
theorem d_Mm_hasWay_3 : decode prog_14_method_39_code 3 = .ok (.bipush 108, 2) := zo_16 (d := 108) (zd_b zq_prog_14_method_39_code_0 3 rfl rfl rfl) (zd_b zq_prog_14_method_39_code_0 4 rfl rfl rfl) (by decide +kernel)
theorem d_Mm_hasWay_5 : decode prog_14_method_39_code 5 = .ok (.if_icmp .ge 16, 3) := zo_162 (d := 0) (e := 16) (zd_b zq_prog_14_method_39_code_0 5 rfl rfl rfl) (zd_b zq_prog_14_method_39_code_0 6 rfl rfl rfl) (zd_b zq_prog_14_method_39_code_0 7 rfl rfl rfl) (by decide +kernel)
theorem d_Mm_hasWay_21 : decode prog_14_method_39_code 21 = .ok (.aload_n 0, 1) := zo_42 (zd_b zq_prog_14_method_39_code_0 21 rfl rfl rfl)
theorem d_Mm_hasWay_22 : decode prog_14_method_39_code 22 = .ok (.getfield 33, 3) := zo_180 (d := 0) (e := 33) (zd_b zq_prog_14_method_39_code_0 22 rfl rfl rfl) (zd_b zq_prog_14_method_39_code_0 23 rfl rfl rfl) (zd_b zq_prog_14_method_39_code_0 24 rfl rfl rfl)
theorem d_Mm_hasWay_25 : decode prog_14_method_39_code 25 = .ok (.iload_n 1, 1) := zo_27 (zd_b zq_prog_14_method_39_code_0 25 rfl rfl rfl)
theorem d_Mm_hasWay_26 : decode prog_14_method_39_code 26 = .ok (.iconst 1, 1) := zo_4 (zd_b zq_prog_14_method_39_code_0 26 rfl rfl rfl)
theorem d_Mm_hasWay_27 : decode prog_14_method_39_code 27 = .ok (.bastore, 1) := zo_84 (zd_b zq_prog_14_method_39_code_0 27 rfl rfl rfl)
theorem d_Mm_hasWay_28 : decode prog_14_method_39_code 28 = .ok (.aload_n 0, 1) := zo_42 (zd_b zq_prog_14_method_39_code_0 28 rfl rfl rfl)
theorem d_Mm_hasWay_29 : decode prog_14_method_39_code 29 = .ok (.getfield 37, 3) := zo_180 (d := 0) (e := 37) (zd_b zq_prog_14_method_39_code_0 29 rfl rfl rfl) (zd_b zq_prog_14_method_39_code_0 30 rfl rfl rfl) (zd_b zq_prog_14_method_39_code_0 31 rfl rfl rfl)
theorem d_Mm_hasWay_32 : decode prog_14_method_39_code 32 = .ok (.iconst 0, 1) := zo_3 (zd_b zq_prog_14_method_39_code_1 0 rfl rfl rfl)
theorem d_Mm_hasWay_33 : decode prog_14_method_39_code 33 = .ok (.iload_n 1, 1) := zo_27 (zd_b zq_prog_14_method_39_code_1 1 rfl rfl rfl)
theorem d_Mm_hasWay_34 : decode prog_14_method_39_code 34 = .ok (.iastore, 1) := zo_79 (zd_b zq_prog_14_method_39_code_1 2 rfl rfl rfl)
theorem d_Mm_hasWay_35 : decode prog_14_method_39_code 35 = .ok (.iconst 1, 1) := zo_4 (zd_b zq_prog_14_method_39_code_1 3 rfl rfl rfl)
theorem d_Mm_hasWay_36 : decode prog_14_method_39_code 36 = .ok (.istore_n 2, 1) := zo_61 (zd_b zq_prog_14_method_39_code_1 4 rfl rfl rfl)
theorem d_Mm_hasWay_37 : decode prog_14_method_39_code 37 = .ok (.iconst 0, 1) := zo_3 (zd_b zq_prog_14_method_39_code_1 5 rfl rfl rfl)
theorem d_Mm_hasWay_38 : decode prog_14_method_39_code 38 = .ok (.istore_n 3, 1) := zo_62 (zd_b zq_prog_14_method_39_code_1 6 rfl rfl rfl)
theorem d_Mm_hasWay_8 : decode prog_14_method_39_code 8 = .ok (.aload_n 0, 1) := zo_42 (zd_b zq_prog_14_method_39_code_0 8 rfl rfl rfl)
theorem d_Mm_hasWay_9 : decode prog_14_method_39_code 9 = .ok (.getfield 33, 3) := zo_180 (d := 0) (e := 33) (zd_b zq_prog_14_method_39_code_0 9 rfl rfl rfl) (zd_b zq_prog_14_method_39_code_0 10 rfl rfl rfl) (zd_b zq_prog_14_method_39_code_0 11 rfl rfl rfl)
theorem d_Mm_hasWay_12 : decode prog_14_method_39_code 12 = .ok (.iload_n 2, 1) := zo_28 (zd_b zq_prog_14_method_39_code_0 12 rfl rfl rfl)
theorem d_Mm_hasWay_13 : decode prog_14_method_39_code 13 = .ok (.iconst 0, 1) := zo_3 (zd_b zq_prog_14_method_39_code_0 13 rfl rfl rfl)
theorem d_Mm_hasWay_14 : decode prog_14_method_39_code 14 = .ok (.bastore, 1) := zo_84 (zd_b zq_prog_14_method_39_code_0 14 rfl rfl rfl)
theorem d_Mm_hasWay_15 : decode prog_14_method_39_code 15 = .ok (.iinc 2 1, 3) := by decide +kernel
theorem d_Mm_hasWay_18 : decode prog_14_method_39_code 18 = .ok (.goto (-16), 3) := zo_167 (d := 255) (e := 240) (zd_b zq_prog_14_method_39_code_0 18 rfl rfl rfl) (zd_b zq_prog_14_method_39_code_0 19 rfl rfl rfl) (zd_b zq_prog_14_method_39_code_0 20 rfl rfl rfl) (by decide +kernel)
theorem d_Mm_hasWay_0 : decode prog_14_method_39_code 0 = .ok (.iconst 0, 1) := zo_3 (zd_b zq_prog_14_method_39_code_0 0 rfl rfl rfl)
theorem d_Mm_hasWay_1 : decode prog_14_method_39_code 1 = .ok (.istore_n 2, 1) := zo_61 (zd_b zq_prog_14_method_39_code_0 1 rfl rfl rfl)
set_option maxHeartbeats 4000000 in
set_option maxRecDepth 100000 in
theorem L_Mm_hasWayW_65 (g : zG) (m mp mf mh mn mt mz mc_ mq mgr ml mi mr mm mu mk mx : Nat) (th pt cl wa co_ fi bu ho lh mg wd fpi fal : Int32) (po de : Int64) (f fl fz ic : Nat → Int32) (qn : Nat → Nat) (c : Nat) (hc : c < 108) (w0 : zW) (n : Nat) (j : Nat) (K : ∀ (ic : Nat → Int32) (qn : Nat → Nat) (e : Nat), qI ic qn e → j < e → DV g M_Mm_hasWay (fun o cs1 => ∃ (v9 : Int32) (ic9 : Nat → Int32) (qn9 : Nat → Nat), (v9 = 0 ∨ v9 = 1) ∧ o = .inl (some (.int v9)) ∧ cs1 = [(m, .inr (12, [.int th, .ref mp, .int pt, .ref mf, .ref mh, .ref mn, .ref mt, .ref mz, .ref mc_, .ref mq, .ref mgr, .int cl, .int wa, .int co_, .int fi, .int bu, .int ho, .ref ml, .ref mi, .ref mr, .int lh, .int mg, .int wd, .int fpi, .int fal, .ref mm, .ref mu, .ref mk, .ref mx, .long po, .long de])), (mp, .inl (1, 108, .inl f)), (mf, .inl (0, 108, .inl fl)), (mz, .inl (0, 108, .inl fz)), (mc_, .inl (2, 108, .inl ic9)), (mq, .inl (0, 108, .inl (fun k => nI (qn9 k))))]) w0 n 182 [(3, .int (nI j)), (2, .int (nI e)), (1, .int (nI c)), (0, .ref m)] [] [(m, .inr (12, [.int th, .ref mp, .int pt, .ref mf, .ref mh, .ref mn, .ref mt, .ref mz, .ref mc_, .ref mq, .ref mgr, .int cl, .int wa, .int co_, .int fi, .int bu, .int ho, .ref ml, .ref mi, .ref mr, .int lh, .int mg, .int wd, .int fpi, .int fal, .ref mm, .ref mu, .ref mk, .ref mx, .long po, .long de])), (mp, .inl (1, 108, .inl f)), (mf, .inl (0, 108, .inl fl)), (mz, .inl (0, 108, .inl fz)), (mc_, .inl (2, 108, .inl ic)), (mq, .inl (0, 108, .inl (fun k => nI (qn k))))] 0 0) : ∀ (d i : Nat) (ic : Nat → Int32) (qn : Nat → Nat) (e : Nat), i ≤ 4 → 4 < i + d → qI ic qn e → j < e → DV g M_Mm_hasWay (fun o cs1 => ∃ (v9 : Int32) (ic9 : Nat → Int32) (qn9 : Nat → Nat), (v9 = 0 ∨ v9 = 1) ∧ o = .inl (some (.int v9)) ∧ cs1 = [(m, .inr (12, [.int th, .ref mp, .int pt, .ref mf, .ref mh, .ref mn, .ref mt, .ref mz, .ref mc_, .ref mq, .ref mgr, .int cl, .int wa, .int co_, .int fi, .int bu, .int ho, .ref ml, .ref mi, .ref mr, .int lh, .int mg, .int wd, .int fpi, .int fal, .ref mm, .ref mu, .ref mk, .ref mx, .long po, .long de])), (mp, .inl (1, 108, .inl f)), (mf, .inl (0, 108, .inl fl)), (mz, .inl (0, 108, .inl fz)), (mc_, .inl (2, 108, .inl ic9)), (mq, .inl (0, 108, .inl (fun k => nI (qn9 k))))]) w0 n 65 [(4, .int (nI i)), (3, .int (nI j)), (2, .int (nI e)), (1, .int (nI c)), (0, .ref m)] [] [(m, .inr (12, [.int th, .ref mp, .int pt, .ref mf, .ref mh, .ref mn, .ref mt, .ref mz, .ref mc_, .ref mq, .ref mgr, .int cl, .int wa, .int co_, .int fi, .int bu, .int ho, .ref ml, .ref mi, .ref mr, .int lh, .int mg, .int wd, .int fpi, .int fal, .ref mm, .ref mu, .ref mk, .ref mx, .long po, .long de])), (mp, .inl (1, 108, .inl f)), (mf, .inl (0, 108, .inl fl)), (mz, .inl (0, 108, .inl fz)), (mc_, .inl (2, 108, .inl ic)), (mq, .inl (0, 108, .inl (fun k => nI (qn k))))] 0 0 := by
  intro d
  induction d with
  | zero => intro i ic qn e h1 h2 v1 v2; exact absurd h2 (by omega)
  | succ d ih =>
    intro i ic qn e h1 h2 v1 v2
    refine r_iload d_Mm_hasWay_65 0 rfl ?_
    refine r_iconst d_Mm_hasWay_67 (v := 4) (by decide) ?_
    refine r_icmp_ge (tgt := 182) d_Mm_hasWay_68 (by decide) (fun c_68 => ?_) (fun c_68 => ?_)
    · have hn := z_le (a := 4) (by omega) (by decide) c_68
      obtain rfl : i = 4 := by omega
      refine r_lv (lv' := [(3, .int (nI j)), (2, .int (nI e)), (1, .int (nI c)), (0, .ref m)]) [1, 2, 3, 4] rfl ?_
      exact K _ _ _ v1 v2
    · have he9 := qI_le v1
      have hn := z_nle (a := 4) (by omega) (by decide) c_68
      have hq9 := v1.1 j v2
      refine r_aload_n d_Mm_hasWay_71 rfl 4 rfl ?_
      refine r_get fs_Mm_37 d_Mm_hasWay_72 (q0 := 0) rfl rfl ?_
      refine r_iload_n d_Mm_hasWay_75 rfl 1 rfl ?_
      refine r_iald d_Mm_hasWay_76 (q0 := 5) rfl (vp_in_nI (by omega) (by omega)) (v := nI (qn j)) (by rw [nI_clamp (by omega)]) ?_
      refine r_iload d_Mm_hasWay_77 0 rfl ?_
      refine r_callS (As := [.int (nI (qn j)), .int (nI i)]) (rest := []) (csC := []) (is := []) ln_Mm_119 w_st_Mm_beside ok_Mm_hasWay_Mm_beside d_Mm_hasWay_79 (C_Mm_beside g (qn j) i (by omega) (by omega)) rfl rfl (Nat.le_of_ble_eq_true rfl) rfl (by decide) (by omega) (by omega) (fun E cs1 hx => ?_) (fun v cs1 hx => ?_)
      · exact absurd hx.1 (by simp)
      · obtain ⟨e1, rfl⟩ := hx
        cases e1
        refine ⟨rfl, ?_⟩
        refine r_st (st2 := [.int (oI (bs (qn j) i))]) rfl ?_
        refine r_cs (cs2 := [(m, .inr (12, [.int th, .ref mp, .int pt, .ref mf, .ref mh, .ref mn, .ref mt, .ref mz, .ref mc_, .ref mq, .ref mgr, .int cl, .int wa, .int co_, .int fi, .int bu, .int ho, .ref ml, .ref mi, .ref mr, .int lh, .int mg, .int wd, .int fpi, .int fal, .ref mm, .ref mu, .ref mk, .ref mx, .long po, .long de])), (mp, .inl (1, 108, .inl f)), (mf, .inl (0, 108, .inl fl)), (mz, .inl (0, 108, .inl fz)), (mc_, .inl (2, 108, .inl ic)), (mq, .inl (0, 108, .inl (fun k => nI (qn k))))]) rfl ?_
        refine r_istore (lv' := [(5, .int (oI (bs (qn j) i))), (4, .int (nI i)), (3, .int (nI j)), (2, .int (nI e)), (1, .int (nI c)), (0, .ref m)]) d_Mm_hasWay_82 (by decide) rfl ?_
        refine r_iload d_Mm_hasWay_84 0 rfl ?_
        refine r_iconst d_Mm_hasWay_86 (v := (-1)) (by decide) ?_
        refine r_icmp_eq (tgt := 149) d_Mm_hasWay_87 (by decide) (fun c_87 => ?_) (fun c_87 => ?_)
        · refine r_iconst d_Mm_hasWay_149 (v := 0) (by decide) ?_
          refine r_istore (lv' := [(6, .int 0), (5, .int (oI (bs (qn j) i))), (4, .int (nI i)), (3, .int (nI j)), (2, .int (nI e)), (1, .int (nI c)), (0, .ref m)]) d_Mm_hasWay_150 (by decide) rfl ?_
          refine r_iload d_Mm_hasWay_152 0 rfl ?_
          refine r_if_eq (tgt := 176) d_Mm_hasWay_154 (by decide) (fun c_154 => ?_) (fun c_154 => ?_)
          · refine r_iinc (lv' := [(4, .int (nI (i + 1))), (6, .int 0), (5, .int (oI (bs (qn j) i))), (3, .int (nI j)), (2, .int (nI e)), (1, .int (nI c)), (0, .ref m)]) (v := nI (i + 1)) d_Mm_hasWay_176 (j := 2) rfl (nI_add _ _) (by decide) rfl ?_
            refine r_goto (tgt := 65) d_Mm_hasWay_179 (by decide) ?_
            refine r_lv (lv' := [(4, .int (nI (i + 1))), (3, .int (nI j)), (2, .int (nI e)), (1, .int (nI c)), (0, .ref m)]) [0, 3, 4, 5, 6] rfl ?_
            exact ih (i + 1) _ _ _ (by omega) (by omega) v1 v2
          · exact absurd c_154 (by decide)
        · obtain ⟨oo, ho9⟩ := oI_nm c_87
          have hol := bs_lt hq9 ho9
          rw [ho9, show oI (some oo) = nI oo from rfl]
          refine r_aload_n d_Mm_hasWay_90 rfl 5 rfl ?_
          refine r_get fs_Mm_7 d_Mm_hasWay_91 (q0 := 0) rfl rfl ?_
          refine r_iload d_Mm_hasWay_94 0 rfl ?_
          refine r_cald d_Mm_hasWay_96 (q0 := 1) rfl (vp_in_nI (by omega) (by omega)) (v := f oo) (by rw [nI_clamp (by omega)]) ?_
          refine r_callS (As := [.int (f oo)]) (rest := []) (csC := []) (is := []) ln_Mm_107 w_st_Mm_isMetal ok_Mm_hasWay_Mm_isMetal d_Mm_hasWay_97 (C_Mm_isMetal g (f oo)) rfl rfl (Nat.le_of_ble_eq_true rfl) rfl (by decide) (by omega) (by omega) (fun E cs1 hx => ?_) (fun v cs1 hx => ?_)
          · exact absurd hx.1 (by simp)
          · obtain ⟨e1, rfl⟩ := hx
            cases e1
            refine ⟨rfl, ?_⟩
            refine r_st (st2 := [.int (z_bi (tmB (f oo)))]) rfl ?_
            refine r_cs (cs2 := [(m, .inr (12, [.int th, .ref mp, .int pt, .ref mf, .ref mh, .ref mn, .ref mt, .ref mz, .ref mc_, .ref mq, .ref mgr, .int cl, .int wa, .int co_, .int fi, .int bu, .int ho, .ref ml, .ref mi, .ref mr, .int lh, .int mg, .int wd, .int fpi, .int fal, .ref mm, .ref mu, .ref mk, .ref mx, .long po, .long de])), (mp, .inl (1, 108, .inl f)), (mf, .inl (0, 108, .inl fl)), (mz, .inl (0, 108, .inl fz)), (mc_, .inl (2, 108, .inl ic)), (mq, .inl (0, 108, .inl (fun k => nI (qn k))))]) rfl ?_
            refine r_if_eq (tgt := 149) d_Mm_hasWay_100 (by decide) (fun c_100 => ?_) (fun c_100 => ?_)
            · refine r_iconst d_Mm_hasWay_149 (v := 0) (by decide) ?_
              refine r_istore (lv' := [(6, .int 0), (5, .int (nI oo)), (4, .int (nI i)), (3, .int (nI j)), (2, .int (nI e)), (1, .int (nI c)), (0, .ref m)]) d_Mm_hasWay_150 (by decide) rfl ?_
              refine r_iload d_Mm_hasWay_152 0 rfl ?_
              refine r_if_eq (tgt := 176) d_Mm_hasWay_154 (by decide) (fun c_154 => ?_) (fun c_154 => ?_)
              · refine r_iinc (lv' := [(4, .int (nI (i + 1))), (6, .int 0), (5, .int (nI oo)), (3, .int (nI j)), (2, .int (nI e)), (1, .int (nI c)), (0, .ref m)]) (v := nI (i + 1)) d_Mm_hasWay_176 (j := 2) rfl (nI_add _ _) (by decide) rfl ?_
                refine r_goto (tgt := 65) d_Mm_hasWay_179 (by decide) ?_
                refine r_lv (lv' := [(4, .int (nI (i + 1))), (3, .int (nI j)), (2, .int (nI e)), (1, .int (nI c)), (0, .ref m)]) [0, 3, 4, 5, 6] rfl ?_
                exact ih (i + 1) _ _ _ (by omega) (by omega) v1 v2
              · exact absurd c_154 (by decide)
            · refine r_aload_n d_Mm_hasWay_103 rfl 5 rfl ?_
              refine r_get fs_Mm_17 d_Mm_hasWay_104 (q0 := 0) rfl rfl ?_
              refine r_iload d_Mm_hasWay_107 0 rfl ?_
              refine r_iald d_Mm_hasWay_109 (q0 := 2) rfl (vp_in_nI (by omega) (by omega)) (v := fl oo) (by rw [nI_clamp (by omega)]) ?_
              refine r_iconst d_Mm_hasWay_110 (v := (-1)) (by decide) ?_
              refine r_icmp_eq (tgt := 149) d_Mm_hasWay_111 (by decide) (fun c_111 => ?_) (fun c_111 => ?_)
              · refine r_iconst d_Mm_hasWay_149 (v := 0) (by decide) ?_
                refine r_istore (lv' := [(6, .int 0), (5, .int (nI oo)), (4, .int (nI i)), (3, .int (nI j)), (2, .int (nI e)), (1, .int (nI c)), (0, .ref m)]) d_Mm_hasWay_150 (by decide) rfl ?_
                refine r_iload d_Mm_hasWay_152 0 rfl ?_
                refine r_if_eq (tgt := 176) d_Mm_hasWay_154 (by decide) (fun c_154 => ?_) (fun c_154 => ?_)
                · refine r_iinc (lv' := [(4, .int (nI (i + 1))), (6, .int 0), (5, .int (nI oo)), (3, .int (nI j)), (2, .int (nI e)), (1, .int (nI c)), (0, .ref m)]) (v := nI (i + 1)) d_Mm_hasWay_176 (j := 2) rfl (nI_add _ _) (by decide) rfl ?_
                  refine r_goto (tgt := 65) d_Mm_hasWay_179 (by decide) ?_
                  refine r_lv (lv' := [(4, .int (nI (i + 1))), (3, .int (nI j)), (2, .int (nI e)), (1, .int (nI c)), (0, .ref m)]) [0, 3, 4, 5, 6] rfl ?_
                  exact ih (i + 1) _ _ _ (by omega) (by omega) v1 v2
                · exact absurd c_154 (by decide)
              · refine r_aload_n d_Mm_hasWay_114 rfl 5 rfl ?_
                refine r_get fs_Mm_33 d_Mm_hasWay_115 (q0 := 0) rfl rfl ?_
                refine r_iload d_Mm_hasWay_118 0 rfl ?_
                refine r_zald d_Mm_hasWay_120 (q0 := 4) rfl (vp_in_nI (by omega) (by omega)) (v := ic oo) (by rw [nI_clamp (by omega)]) ?_
                refine r_if_ne (tgt := 149) d_Mm_hasWay_121 (by decide) (fun c_121 => ?_) (fun c_121 => ?_)
                · refine r_iconst d_Mm_hasWay_149 (v := 0) (by decide) ?_
                  refine r_istore (lv' := [(6, .int 0), (5, .int (nI oo)), (4, .int (nI i)), (3, .int (nI j)), (2, .int (nI e)), (1, .int (nI c)), (0, .ref m)]) d_Mm_hasWay_150 (by decide) rfl ?_
                  refine r_iload d_Mm_hasWay_152 0 rfl ?_
                  refine r_if_eq (tgt := 176) d_Mm_hasWay_154 (by decide) (fun c_154 => ?_) (fun c_154 => ?_)
                  · refine r_iinc (lv' := [(4, .int (nI (i + 1))), (6, .int 0), (5, .int (nI oo)), (3, .int (nI j)), (2, .int (nI e)), (1, .int (nI c)), (0, .ref m)]) (v := nI (i + 1)) d_Mm_hasWay_176 (j := 2) rfl (nI_add _ _) (by decide) rfl ?_
                    refine r_goto (tgt := 65) d_Mm_hasWay_179 (by decide) ?_
                    refine r_lv (lv' := [(4, .int (nI (i + 1))), (3, .int (nI j)), (2, .int (nI e)), (1, .int (nI c)), (0, .ref m)]) [0, 3, 4, 5, 6] rfl ?_
                    exact ih (i + 1) _ _ _ (by omega) (by omega) v1 v2
                  · exact absurd c_154 (by decide)
                · have hel := qI_lt v1 hol c_121
                  refine r_aload_n d_Mm_hasWay_124 rfl 5 rfl ?_
                  refine r_get fs_Mm_30 d_Mm_hasWay_125 (q0 := 0) rfl rfl ?_
                  refine r_iload d_Mm_hasWay_128 0 rfl ?_
                  refine r_iald d_Mm_hasWay_130 (q0 := 3) rfl (vp_in_nI (by omega) (by omega)) (v := fz oo) (by rw [nI_clamp (by omega)]) ?_
                  refine r_aload_n d_Mm_hasWay_131 rfl 5 rfl ?_
                  refine r_get fs_Mm_30 d_Mm_hasWay_132 (q0 := 0) rfl rfl ?_
                  refine r_aload_n d_Mm_hasWay_135 rfl 5 rfl ?_
                  refine r_get fs_Mm_37 d_Mm_hasWay_136 (q0 := 0) rfl rfl ?_
                  refine r_iload_n d_Mm_hasWay_139 rfl 2 rfl ?_
                  refine r_iald d_Mm_hasWay_140 (q0 := 5) rfl (vp_in_nI (by omega) (by omega)) (v := nI (qn j)) (by rw [nI_clamp (by omega)]) ?_
                  refine r_iald d_Mm_hasWay_141 (q0 := 3) rfl (vp_in_nI (by omega) (by omega)) (v := fz (qn j)) (by rw [nI_clamp (by omega)]) ?_
                  refine r_icmp_lt (tgt := 149) d_Mm_hasWay_142 (by decide) (fun c_142 => ?_) (fun c_142 => ?_)
                  · refine r_iconst d_Mm_hasWay_149 (v := 0) (by decide) ?_
                    refine r_istore (lv' := [(6, .int 0), (5, .int (nI oo)), (4, .int (nI i)), (3, .int (nI j)), (2, .int (nI e)), (1, .int (nI c)), (0, .ref m)]) d_Mm_hasWay_150 (by decide) rfl ?_
                    refine r_iload d_Mm_hasWay_152 0 rfl ?_
                    refine r_if_eq (tgt := 176) d_Mm_hasWay_154 (by decide) (fun c_154 => ?_) (fun c_154 => ?_)
                    · refine r_iinc (lv' := [(4, .int (nI (i + 1))), (6, .int 0), (5, .int (nI oo)), (3, .int (nI j)), (2, .int (nI e)), (1, .int (nI c)), (0, .ref m)]) (v := nI (i + 1)) d_Mm_hasWay_176 (j := 2) rfl (nI_add _ _) (by decide) rfl ?_
                      refine r_goto (tgt := 65) d_Mm_hasWay_179 (by decide) ?_
                      refine r_lv (lv' := [(4, .int (nI (i + 1))), (3, .int (nI j)), (2, .int (nI e)), (1, .int (nI c)), (0, .ref m)]) [0, 3, 4, 5, 6] rfl ?_
                      exact ih (i + 1) _ _ _ (by omega) (by omega) v1 v2
                    · exact absurd c_154 (by decide)
                  · refine r_iconst d_Mm_hasWay_145 (v := 1) (by decide) ?_
                    refine r_goto (tgt := 150) d_Mm_hasWay_146 (by decide) ?_
                    refine r_istore (lv' := [(6, .int 1), (5, .int (nI oo)), (4, .int (nI i)), (3, .int (nI j)), (2, .int (nI e)), (1, .int (nI c)), (0, .ref m)]) d_Mm_hasWay_150 (by decide) rfl ?_
                    refine r_iload d_Mm_hasWay_152 0 rfl ?_
                    refine r_if_eq (tgt := 176) d_Mm_hasWay_154 (by decide) (fun c_154 => ?_) (fun c_154 => ?_)
                    · exact absurd c_154 (by decide)
                    · refine r_aload_n d_Mm_hasWay_157 rfl 6 rfl ?_
                      refine r_get fs_Mm_33 d_Mm_hasWay_158 (q0 := 0) rfl rfl ?_
                      refine r_iload d_Mm_hasWay_161 1 rfl ?_
                      refine r_iconst d_Mm_hasWay_163 (v := 1) (by decide) ?_
                      refine r_zast d_Mm_hasWay_164 (q0 := 4) rfl (vp_in_nI (by omega) (by omega)) (f' := upd ic oo 1) (by rw [nI_clamp (by omega)] <;> rfl) (cs' := [(m, .inr (12, [.int th, .ref mp, .int pt, .ref mf, .ref mh, .ref mn, .ref mt, .ref mz, .ref mc_, .ref mq, .ref mgr, .int cl, .int wa, .int co_, .int fi, .int bu, .int ho, .ref ml, .ref mi, .ref mr, .int lh, .int mg, .int wd, .int fpi, .int fal, .ref mm, .ref mu, .ref mk, .ref mx, .long po, .long de])), (mp, .inl (1, 108, .inl f)), (mf, .inl (0, 108, .inl fl)), (mz, .inl (0, 108, .inl fz)), (mc_, .inl (2, 108, .inl (upd ic oo 1))), (mq, .inl (0, 108, .inl (fun k => nI (qn k))))]) rfl ?_
                      refine r_aload_n d_Mm_hasWay_165 rfl 6 rfl ?_
                      refine r_get fs_Mm_37 d_Mm_hasWay_166 (q0 := 0) rfl rfl ?_
                      refine r_iload_n d_Mm_hasWay_169 rfl 4 rfl ?_
                      refine r_iload d_Mm_hasWay_170 1 rfl ?_
                      refine r_iast d_Mm_hasWay_172 (q0 := 5) rfl (vp_in_nI (by omega) (by omega)) (f' := fun k => nI (updN qn e oo k)) (by rw [nI_clamp (by omega)]; exact upd_qn) (cs' := [(m, .inr (12, [.int th, .ref mp, .int pt, .ref mf, .ref mh, .ref mn, .ref mt, .ref mz, .ref mc_, .ref mq, .ref mgr, .int cl, .int wa, .int co_, .int fi, .int bu, .int ho, .ref ml, .ref mi, .ref mr, .int lh, .int mg, .int wd, .int fpi, .int fal, .ref mm, .ref mu, .ref mk, .ref mx, .long po, .long de])), (mp, .inl (1, 108, .inl f)), (mf, .inl (0, 108, .inl fl)), (mz, .inl (0, 108, .inl fz)), (mc_, .inl (2, 108, .inl (upd ic oo 1))), (mq, .inl (0, 108, .inl (fun k => nI (updN qn e oo k))))]) rfl ?_
                      refine r_iinc (lv' := [(2, .int (nI (e + 1))), (6, .int 1), (5, .int (nI oo)), (4, .int (nI i)), (3, .int (nI j)), (1, .int (nI c)), (0, .ref m)]) (v := nI (e + 1)) d_Mm_hasWay_173 (j := 4) rfl (nI_add _ _) (by decide) rfl ?_
                      refine r_iinc (lv' := [(4, .int (nI (i + 1))), (2, .int (nI (e + 1))), (6, .int 1), (5, .int (nI oo)), (3, .int (nI j)), (1, .int (nI c)), (0, .ref m)]) (v := nI (i + 1)) d_Mm_hasWay_176 (j := 3) rfl (nI_add _ _) (by decide) rfl ?_
                      refine r_goto (tgt := 65) d_Mm_hasWay_179 (by decide) ?_
                      refine r_lv (lv' := [(4, .int (nI (i + 1))), (3, .int (nI j)), (2, .int (nI (e + 1))), (1, .int (nI c)), (0, .ref m)]) [0, 4, 1, 5, 6] rfl ?_
                      exact ih (i + 1) _ _ _ (by omega) (by omega) (qI_up v1 hol c_121) (by omega)
set_option maxHeartbeats 4000000 in
set_option maxRecDepth 100000 in
theorem L_Mm_hasWayW_39 (g : zG) (m mp mf mh mn mt mz mc_ mq mgr ml mi mr mm mu mk mx : Nat) (th pt cl wa co_ fi bu ho lh mg wd fpi fal : Int32) (po de : Int64) (f fl fz ic : Nat → Int32) (qn : Nat → Nat) (c : Nat) (hc : c < 108) (w0 : zW) (n : Nat) : ∀ (d j e : Nat) (ic : Nat → Int32) (qn : Nat → Nat), qI ic qn e → j ≤ e → 108 < j + d → DV g M_Mm_hasWay (fun o cs1 => ∃ (v9 : Int32) (ic9 : Nat → Int32) (qn9 : Nat → Nat), (v9 = 0 ∨ v9 = 1) ∧ o = .inl (some (.int v9)) ∧ cs1 = [(m, .inr (12, [.int th, .ref mp, .int pt, .ref mf, .ref mh, .ref mn, .ref mt, .ref mz, .ref mc_, .ref mq, .ref mgr, .int cl, .int wa, .int co_, .int fi, .int bu, .int ho, .ref ml, .ref mi, .ref mr, .int lh, .int mg, .int wd, .int fpi, .int fal, .ref mm, .ref mu, .ref mk, .ref mx, .long po, .long de])), (mp, .inl (1, 108, .inl f)), (mf, .inl (0, 108, .inl fl)), (mz, .inl (0, 108, .inl fz)), (mc_, .inl (2, 108, .inl ic9)), (mq, .inl (0, 108, .inl (fun k => nI (qn9 k))))]) w0 n 39 [(3, .int (nI j)), (2, .int (nI e)), (1, .int (nI c)), (0, .ref m)] [] [(m, .inr (12, [.int th, .ref mp, .int pt, .ref mf, .ref mh, .ref mn, .ref mt, .ref mz, .ref mc_, .ref mq, .ref mgr, .int cl, .int wa, .int co_, .int fi, .int bu, .int ho, .ref ml, .ref mi, .ref mr, .int lh, .int mg, .int wd, .int fpi, .int fal, .ref mm, .ref mu, .ref mk, .ref mx, .long po, .long de])), (mp, .inl (1, 108, .inl f)), (mf, .inl (0, 108, .inl fl)), (mz, .inl (0, 108, .inl fz)), (mc_, .inl (2, 108, .inl ic)), (mq, .inl (0, 108, .inl (fun k => nI (qn k))))] 0 0 := by
  intro d
  induction d with
  | zero => intro j e ic qn v1 v2 h1; exact absurd h1 (by have := qI_le v1; omega)
  | succ d ih =>
    intro j e ic qn v1 v2 h1
    refine r_iload_n d_Mm_hasWay_39 rfl 0 rfl ?_
    refine r_iload_n d_Mm_hasWay_40 rfl 1 rfl ?_
    refine r_icmp_ge (tgt := 188) d_Mm_hasWay_41 (by decide) (fun c_41 => ?_) (fun c_41 => ?_)
    · refine r_iconst d_Mm_hasWay_188 (v := 0) (by decide) ?_
      refine r_iret d_Mm_hasWay_189 rfl rfl ?_
      exact ⟨_, _, _, Or.inl rfl, rfl, rfl⟩
    · have he9 := qI_le v1
      have hn := z_nle (a := e) (by omega) (by omega) c_41
      have hq9 := v1.1 j hn
      refine r_aload_n d_Mm_hasWay_44 rfl 3 rfl ?_
      refine r_get fs_Mm_7 d_Mm_hasWay_45 (q0 := 0) rfl rfl ?_
      refine r_aload_n d_Mm_hasWay_48 rfl 3 rfl ?_
      refine r_get fs_Mm_37 d_Mm_hasWay_49 (q0 := 0) rfl rfl ?_
      refine r_iload_n d_Mm_hasWay_52 rfl 0 rfl ?_
      refine r_iald d_Mm_hasWay_53 (q0 := 5) rfl (vp_in_nI (by omega) (by omega)) (v := nI (qn j)) (by rw [nI_clamp (by omega)]) ?_
      refine r_cald d_Mm_hasWay_54 (q0 := 1) rfl (vp_in_nI (by omega) (by omega)) (v := f (qn j)) (by rw [nI_clamp (by omega)]) ?_
      refine r_bipush d_Mm_hasWay_55 (v := 114) (by decide) ?_
      refine r_icmp_ne (tgt := 62) d_Mm_hasWay_57 (by decide) (fun c_57 => ?_) (fun c_57 => ?_)
      · refine r_iconst d_Mm_hasWay_62 (v := 0) (by decide) ?_
        refine r_istore (lv' := [(4, .int 0), (3, .int (nI j)), (2, .int (nI e)), (1, .int (nI c)), (0, .ref m)]) d_Mm_hasWay_63 (by decide) rfl ?_
        refine L_Mm_hasWayW_65 g m mp mf mh mn mt mz mc_ mq mgr ml mi mr mm mu mk mx th pt cl wa co_ fi bu ho lh mg wd fpi fal po de f fl fz ic qn c hc w0 _ j (fun ic qn e k65_1 k65_2 => ?_) (4 + 1) 0 _ _ _ (Nat.zero_le _) (by omega) v1 hn
        refine r_iinc (lv' := [(3, .int (nI (j + 1))), (2, .int (nI e)), (1, .int (nI c)), (0, .ref m)]) (v := nI (j + 1)) d_Mm_hasWay_182 (j := 0) rfl (nI_add _ _) (by decide) rfl ?_
        refine r_goto (tgt := 39) d_Mm_hasWay_185 (by decide) ?_
        exact ih (j + 1) _ _ _ k65_1 k65_2 (by omega)
      · refine r_iconst d_Mm_hasWay_60 (v := 1) (by decide) ?_
        refine r_iret d_Mm_hasWay_61 rfl rfl ?_
        exact ⟨_, _, _, Or.inr rfl, rfl, rfl⟩
set_option maxHeartbeats 4000000 in
set_option maxRecDepth 100000 in
theorem L_Mm_hasWayW_2 (g : zG) (m mp mf mh mn mt mz mc_ mq mgr ml mi mr mm mu mk mx : Nat) (th pt cl wa co_ fi bu ho lh mg wd fpi fal : Int32) (po de : Int64) (f fl fz ic : Nat → Int32) (qn : Nat → Nat) (c : Nat) (hc : c < 108) (w0 : zW) (n : Nat) : ∀ (d i : Nat) (ic : Nat → Int32), i ≤ 108 → 108 < i + d → DV g M_Mm_hasWay (fun o cs1 => ∃ (v9 : Int32) (ic9 : Nat → Int32) (qn9 : Nat → Nat), (v9 = 0 ∨ v9 = 1) ∧ o = .inl (some (.int v9)) ∧ cs1 = [(m, .inr (12, [.int th, .ref mp, .int pt, .ref mf, .ref mh, .ref mn, .ref mt, .ref mz, .ref mc_, .ref mq, .ref mgr, .int cl, .int wa, .int co_, .int fi, .int bu, .int ho, .ref ml, .ref mi, .ref mr, .int lh, .int mg, .int wd, .int fpi, .int fal, .ref mm, .ref mu, .ref mk, .ref mx, .long po, .long de])), (mp, .inl (1, 108, .inl f)), (mf, .inl (0, 108, .inl fl)), (mz, .inl (0, 108, .inl fz)), (mc_, .inl (2, 108, .inl ic9)), (mq, .inl (0, 108, .inl (fun k => nI (qn9 k))))]) w0 n 2 [(2, .int (nI i)), (1, .int (nI c)), (0, .ref m)] [] [(m, .inr (12, [.int th, .ref mp, .int pt, .ref mf, .ref mh, .ref mn, .ref mt, .ref mz, .ref mc_, .ref mq, .ref mgr, .int cl, .int wa, .int co_, .int fi, .int bu, .int ho, .ref ml, .ref mi, .ref mr, .int lh, .int mg, .int wd, .int fpi, .int fal, .ref mm, .ref mu, .ref mk, .ref mx, .long po, .long de])), (mp, .inl (1, 108, .inl f)), (mf, .inl (0, 108, .inl fl)), (mz, .inl (0, 108, .inl fz)), (mc_, .inl (2, 108, .inl ic)), (mq, .inl (0, 108, .inl (fun k => nI (qn k))))] 0 0 := by
  intro d
  induction d with
  | zero => intro i ic h1 h2 ; exact absurd h2 (by omega)
  | succ d ih =>
    intro i ic h1 h2 
    refine r_iload_n d_Mm_hasWay_2 rfl 0 rfl ?_
    refine r_bipush d_Mm_hasWay_3 (v := 108) (by decide) ?_
    refine r_icmp_ge (tgt := 21) d_Mm_hasWay_5 (by decide) (fun c_5 => ?_) (fun c_5 => ?_)
    · have hn := z_le (a := 108) (by omega) (by decide) c_5
      obtain rfl : i = 108 := by omega
      refine r_aload_n d_Mm_hasWay_21 rfl 2 rfl ?_
      refine r_get fs_Mm_33 d_Mm_hasWay_22 (q0 := 0) rfl rfl ?_
      refine r_iload_n d_Mm_hasWay_25 rfl 1 rfl ?_
      refine r_iconst d_Mm_hasWay_26 (v := 1) (by decide) ?_
      refine r_zast d_Mm_hasWay_27 (q0 := 4) rfl (vp_in_nI (by omega) (by omega)) (f' := upd ic c 1) (by rw [nI_clamp (by omega)] <;> rfl) (cs' := [(m, .inr (12, [.int th, .ref mp, .int pt, .ref mf, .ref mh, .ref mn, .ref mt, .ref mz, .ref mc_, .ref mq, .ref mgr, .int cl, .int wa, .int co_, .int fi, .int bu, .int ho, .ref ml, .ref mi, .ref mr, .int lh, .int mg, .int wd, .int fpi, .int fal, .ref mm, .ref mu, .ref mk, .ref mx, .long po, .long de])), (mp, .inl (1, 108, .inl f)), (mf, .inl (0, 108, .inl fl)), (mz, .inl (0, 108, .inl fz)), (mc_, .inl (2, 108, .inl (upd ic c 1))), (mq, .inl (0, 108, .inl (fun k => nI (qn k))))]) rfl ?_
      refine r_aload_n d_Mm_hasWay_28 rfl 2 rfl ?_
      refine r_get fs_Mm_37 d_Mm_hasWay_29 (q0 := 0) rfl rfl ?_
      refine r_iconst d_Mm_hasWay_32 (v := 0) (by decide) ?_
      refine r_iload_n d_Mm_hasWay_33 rfl 1 rfl ?_
      refine r_iast d_Mm_hasWay_34 (q0 := 5) rfl (fun q => q.elim (by decide) (by decide)) (f' := fun k => nI (updN qn 0 c k)) upd_qn (cs' := [(m, .inr (12, [.int th, .ref mp, .int pt, .ref mf, .ref mh, .ref mn, .ref mt, .ref mz, .ref mc_, .ref mq, .ref mgr, .int cl, .int wa, .int co_, .int fi, .int bu, .int ho, .ref ml, .ref mi, .ref mr, .int lh, .int mg, .int wd, .int fpi, .int fal, .ref mm, .ref mu, .ref mk, .ref mx, .long po, .long de])), (mp, .inl (1, 108, .inl f)), (mf, .inl (0, 108, .inl fl)), (mz, .inl (0, 108, .inl fz)), (mc_, .inl (2, 108, .inl (upd ic c 1))), (mq, .inl (0, 108, .inl (fun k => nI (updN qn 0 c k))))]) rfl ?_
      refine r_iconst d_Mm_hasWay_35 (v := 1) (by decide) ?_
      refine r_istore_n (lv' := [(2, .int 1), (1, .int (nI c)), (0, .ref m)]) d_Mm_hasWay_36 rfl (by decide) rfl ?_
      refine r_iconst d_Mm_hasWay_37 (v := 0) (by decide) ?_
      refine r_istore_n (lv' := [(3, .int 0), (2, .int 1), (1, .int (nI c)), (0, .ref m)]) d_Mm_hasWay_38 rfl (by decide) rfl ?_
      exact L_Mm_hasWayW_39 g m mp mf mh mn mt mz mc_ mq mgr ml mi mr mm mu mk mx th pt cl wa co_ fi bu ho lh mg wd fpi fal po de f fl fz ic qn c hc w0 _ 109 0 1 _ _ (qI_1 hc) (by omega) (by omega)
    · have hn := z_nle (a := 108) (by omega) (by decide) c_5
      refine r_aload_n d_Mm_hasWay_8 rfl 2 rfl ?_
      refine r_get fs_Mm_33 d_Mm_hasWay_9 (q0 := 0) rfl rfl ?_
      refine r_iload_n d_Mm_hasWay_12 rfl 0 rfl ?_
      refine r_iconst d_Mm_hasWay_13 (v := 0) (by decide) ?_
      refine r_zast d_Mm_hasWay_14 (q0 := 4) rfl (vp_in_nI (by omega) (by omega)) (f' := upd ic i 0) (by rw [nI_clamp (by omega)] <;> rfl) (cs' := [(m, .inr (12, [.int th, .ref mp, .int pt, .ref mf, .ref mh, .ref mn, .ref mt, .ref mz, .ref mc_, .ref mq, .ref mgr, .int cl, .int wa, .int co_, .int fi, .int bu, .int ho, .ref ml, .ref mi, .ref mr, .int lh, .int mg, .int wd, .int fpi, .int fal, .ref mm, .ref mu, .ref mk, .ref mx, .long po, .long de])), (mp, .inl (1, 108, .inl f)), (mf, .inl (0, 108, .inl fl)), (mz, .inl (0, 108, .inl fz)), (mc_, .inl (2, 108, .inl (upd ic i 0))), (mq, .inl (0, 108, .inl (fun k => nI (qn k))))]) rfl ?_
      refine r_iinc (lv' := [(2, .int (nI (i + 1))), (1, .int (nI c)), (0, .ref m)]) (v := nI (i + 1)) d_Mm_hasWay_15 (j := 0) rfl (nI_add _ _) (by decide) rfl ?_
      refine r_goto (tgt := 2) d_Mm_hasWay_18 (by decide) ?_
      exact ih (i + 1) _ (by omega) (by omega)
set_option maxHeartbeats 4000000 in
set_option maxRecDepth 100000 in
theorem C_Mm_hasWayW (g : zG) (m mp mf mh mn mt mz mc_ mq mgr ml mi mr mm mu mk mx : Nat) (th pt cl wa co_ fi bu ho lh mg wd fpi fal : Int32) (po de : Int64) (f fl fz ic : Nat → Int32) (qn : Nat → Nat) (c : Nat) (hc : c < 108) : CT g M_Mm_hasWay [.ref m, .int (nI c)] [(m, .inr (12, [.int th, .ref mp, .int pt, .ref mf, .ref mh, .ref mn, .ref mt, .ref mz, .ref mc_, .ref mq, .ref mgr, .int cl, .int wa, .int co_, .int fi, .int bu, .int ho, .ref ml, .ref mi, .ref mr, .int lh, .int mg, .int wd, .int fpi, .int fal, .ref mm, .ref mu, .ref mk, .ref mx, .long po, .long de])), (mp, .inl (1, 108, .inl f)), (mf, .inl (0, 108, .inl fl)), (mz, .inl (0, 108, .inl fz)), (mc_, .inl (2, 108, .inl ic)), (mq, .inl (0, 108, .inl (fun k => nI (qn k))))] (fun o cs1 => ∃ (v9 : Int32) (ic9 : Nat → Int32) (qn9 : Nat → Nat), (v9 = 0 ∨ v9 = 1) ∧ o = .inl (some (.int v9)) ∧ cs1 = [(m, .inr (12, [.int th, .ref mp, .int pt, .ref mf, .ref mh, .ref mn, .ref mt, .ref mz, .ref mc_, .ref mq, .ref mgr, .int cl, .int wa, .int co_, .int fi, .int bu, .int ho, .ref ml, .ref mi, .ref mr, .int lh, .int mg, .int wd, .int fpi, .int fal, .ref mm, .ref mu, .ref mk, .ref mx, .long po, .long de])), (mp, .inl (1, 108, .inl f)), (mf, .inl (0, 108, .inl fl)), (mz, .inl (0, 108, .inl fz)), (mc_, .inl (2, 108, .inl ic9)), (mq, .inl (0, 108, .inl (fun k => nI (qn9 k))))]) 0 0 := by
  refine z_of (by decide) rfl (Nat.le_of_ble_eq_true rfl) (fun w0 => ?_)
  refine r_lvE (lv2 := [(0, .ref m), (1, .int (nI c))]) rfl ?_
  refine r_iconst d_Mm_hasWay_0 (v := 0) (by decide) ?_
  refine r_istore_n (lv' := [(2, .int 0), (0, .ref m), (1, .int (nI c))]) d_Mm_hasWay_1 rfl (by decide) rfl ?_
  refine r_lv (lv' := [(2, .int 0), (1, .int (nI c)), (0, .ref m)]) [0, 2, 1] rfl ?_
  exact L_Mm_hasWayW_2 g m mp mf mh mn mt mz mc_ mq mgr ml mi mr mm mu mk mx th pt cl wa co_ fi bu ho lh mg wd fpi fal po de f fl fz ic qn c hc w0 _  (108 + 1) 0 _ (Nat.zero_le _) (by omega)
